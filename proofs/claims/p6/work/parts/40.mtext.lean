def LRX9_feed_6 : List UInt8 := []
def LBX9_feed_5 : List UInt8 := [0x2a, 0xb4, 0x00, 0xf0, 0xac]
def LRX9_feed_5 : List UInt8 := LBX9_feed_5 ++ LRX9_feed_6
def LBX9_feed_4 : List UInt8 := [0x2a, 0x59, 0xb4, 0x00, 0xf0, 0x04, 0x60, 0xb5, 0x00, 0xf0, 0x84, 0x03, 0xff, 0xa7, 0xff, 0xdc]
def LRX9_feed_4 : List UInt8 := LBX9_feed_4 ++ LRX9_feed_5
def LBX9_feed_3 : List UInt8 := [0x25, 0x2a, 0xb4, 0x00, 0xf0, 0x1b, 0x10, 0x08, 0x1d, 0x68, 0x7a, 0x11, 0x00, 0xff, 0x7e, 0x4f]
def LRX9_feed_3 : List UInt8 := LBX9_feed_3 ++ LRX9_feed_4
def LBX9_feed_2 : List UInt8 := [0x45, 0xb6, 0x00, 0x46, 0xac, 0x1c, 0x04, 0x64, 0x3e, 0x1d, 0x9b, 0x00, 0x26, 0x2a, 0xb4, 0x00]
def LRX9_feed_2 : List UInt8 := LBX9_feed_2 ++ LRX9_feed_3
def LBX9_feed_1 : List UInt8 := [0x00, 0x46, 0xac, 0x2a, 0xb4, 0x00, 0xf0, 0x1c, 0x60, 0x10, 0x78, 0xa4, 0x00, 0x0a, 0x2a, 0x12]
def LRX9_feed_1 : List UInt8 := LBX9_feed_1 ++ LRX9_feed_2
def LBX9_feed_0 : List UInt8 := [0x1c, 0x85, 0x0a, 0x14, 0x00, 0xee, 0xb8, 0x00, 0x39, 0x9a, 0x00, 0x0a, 0x2a, 0x12, 0x38, 0xb6]
def LRX9_feed_0 : List UInt8 := LBX9_feed_0 ++ LRX9_feed_1
set_option maxRecDepth 100000 in
theorem LBX9_feed_eq : cX9_feed.data.toList = LRX9_feed_0 := by decide +kernel
theorem LBX9_feedr_0 (k : Nat) : cX9_feed.data.toList[0 + k]? = LRX9_feed_0[k]? := by rw [LBX9_feed_eq, Nat.zero_add]
theorem LBX9_feedr_1 (k : Nat) : cX9_feed.data.toList[16 + k]? = LRX9_feed_1[k]? := by
  have h := LBX9_feedr_0 (16 + k)
  rw [show 0 + (16 + k) = 16 + k by omega] at h
  rw [h]
  exact (List.getElem?_append_right (l₁ := LBX9_feed_0) (l₂ := LRX9_feed_1) (show 16 ≤ 16 + k by omega)).trans (congrArg (fun i => LRX9_feed_1[i]?) (show 16 + k - 16 = k by omega))
theorem LBX9_feedr_2 (k : Nat) : cX9_feed.data.toList[32 + k]? = LRX9_feed_2[k]? := by
  have h := LBX9_feedr_1 (16 + k)
  rw [show 16 + (16 + k) = 32 + k by omega] at h
  rw [h]
  exact (List.getElem?_append_right (l₁ := LBX9_feed_1) (l₂ := LRX9_feed_2) (show 16 ≤ 16 + k by omega)).trans (congrArg (fun i => LRX9_feed_2[i]?) (show 16 + k - 16 = k by omega))
theorem LBX9_feedr_3 (k : Nat) : cX9_feed.data.toList[48 + k]? = LRX9_feed_3[k]? := by
  have h := LBX9_feedr_2 (16 + k)
  rw [show 32 + (16 + k) = 48 + k by omega] at h
  rw [h]
  exact (List.getElem?_append_right (l₁ := LBX9_feed_2) (l₂ := LRX9_feed_3) (show 16 ≤ 16 + k by omega)).trans (congrArg (fun i => LRX9_feed_3[i]?) (show 16 + k - 16 = k by omega))
theorem LBX9_feedr_4 (k : Nat) : cX9_feed.data.toList[64 + k]? = LRX9_feed_4[k]? := by
  have h := LBX9_feedr_3 (16 + k)
  rw [show 48 + (16 + k) = 64 + k by omega] at h
  rw [h]
  exact (List.getElem?_append_right (l₁ := LBX9_feed_3) (l₂ := LRX9_feed_4) (show 16 ≤ 16 + k by omega)).trans (congrArg (fun i => LRX9_feed_4[i]?) (show 16 + k - 16 = k by omega))
theorem LBX9_feedr_5 (k : Nat) : cX9_feed.data.toList[80 + k]? = LRX9_feed_5[k]? := by
  have h := LBX9_feedr_4 (16 + k)
  rw [show 64 + (16 + k) = 80 + k by omega] at h
  rw [h]
  exact (List.getElem?_append_right (l₁ := LBX9_feed_4) (l₂ := LRX9_feed_5) (show 16 ≤ 16 + k by omega)).trans (congrArg (fun i => LRX9_feed_5[i]?) (show 16 + k - 16 = k by omega))
theorem dX9_feed_0 : decode cX9_feed 0 = .ok (.iload_n 2, 1) := dk_28_ (show cX9_feed.data.toList[0]? = some 0x1c from (LBX9_feedr_0 0).trans (by decide +kernel))
theorem dX9_feed_1 : decode cX9_feed 1 = .ok (.i2l, 1) := dk_133_ (show cX9_feed.data.toList[1]? = some 0x85 from (LBX9_feedr_0 1).trans (by decide +kernel))
theorem dX9_feed_2 : decode cX9_feed 2 = .ok (.lconst 1, 1) := dk_10_ (show cX9_feed.data.toList[2]? = some 0x0a from (LBX9_feedr_0 2).trans (by decide +kernel))
theorem dX9_feed_3 : decode cX9_feed 3 = .ok (.ldc2_w 238, 3) := dk_20_ (show cX9_feed.data.toList[3]? = some 0x14 from (LBX9_feedr_0 3).trans (by decide +kernel)) (show cX9_feed.data.toList[4]? = some 0x00 from (LBX9_feedr_0 4).trans (by decide +kernel)) (show cX9_feed.data.toList[5]? = some 0xee from (LBX9_feedr_0 5).trans (by decide +kernel)) (by decide)
theorem dX9_feed_6 : decode cX9_feed 6 = .ok (.invokestatic 57, 3) := dk_184_ (show cX9_feed.data.toList[6]? = some 0xb8 from (LBX9_feedr_0 6).trans (by decide +kernel)) (show cX9_feed.data.toList[7]? = some 0x00 from (LBX9_feedr_0 7).trans (by decide +kernel)) (show cX9_feed.data.toList[8]? = some 0x39 from (LBX9_feedr_0 8).trans (by decide +kernel)) (by decide)
theorem dX9_feed_9 : decode cX9_feed 9 = .ok (.ifCond .ne 10, 3) := dk_154_ (show cX9_feed.data.toList[9]? = some 0x9a from (LBX9_feedr_0 9).trans (by decide +kernel)) (show cX9_feed.data.toList[10]? = some 0x00 from (LBX9_feedr_0 10).trans (by decide +kernel)) (show cX9_feed.data.toList[11]? = some 0x0a from (LBX9_feedr_0 11).trans (by decide +kernel)) (by decide)
theorem dX9_feed_12 : decode cX9_feed 12 = .ok (.aload_n 0, 1) := dk_42_ (show cX9_feed.data.toList[12]? = some 0x2a from (LBX9_feedr_0 12).trans (by decide +kernel))
theorem dX9_feed_13 : decode cX9_feed 13 = .ok (.ldc 56, 2) := dk_18_ (show cX9_feed.data.toList[13]? = some 0x12 from (LBX9_feedr_0 13).trans (by decide +kernel)) (show cX9_feed.data.toList[14]? = some 0x38 from (LBX9_feedr_0 14).trans (by decide +kernel)) (by decide)
theorem dX9_feed_15 : decode cX9_feed 15 = .ok (.invokevirtual 70, 3) := dk_182_ (show cX9_feed.data.toList[15]? = some 0xb6 from (LBX9_feedr_0 15).trans (by decide +kernel)) (show cX9_feed.data.toList[16]? = some 0x00 from (LBX9_feedr_1 0).trans (by decide +kernel)) (show cX9_feed.data.toList[17]? = some 0x46 from (LBX9_feedr_1 1).trans (by decide +kernel)) (by decide)
theorem dX9_feed_18 : decode cX9_feed 18 = .ok (.ireturn, 1) := dk_172_ (show cX9_feed.data.toList[18]? = some 0xac from (LBX9_feedr_1 2).trans (by decide +kernel))
theorem dX9_feed_19 : decode cX9_feed 19 = .ok (.aload_n 0, 1) := dk_42_ (show cX9_feed.data.toList[19]? = some 0x2a from (LBX9_feedr_1 3).trans (by decide +kernel))
theorem dX9_feed_20 : decode cX9_feed 20 = .ok (.getfield 240, 3) := dk_180_ (show cX9_feed.data.toList[20]? = some 0xb4 from (LBX9_feedr_1 4).trans (by decide +kernel)) (show cX9_feed.data.toList[21]? = some 0x00 from (LBX9_feedr_1 5).trans (by decide +kernel)) (show cX9_feed.data.toList[22]? = some 0xf0 from (LBX9_feedr_1 6).trans (by decide +kernel)) (by decide)
theorem dX9_feed_23 : decode cX9_feed 23 = .ok (.iload_n 2, 1) := dk_28_ (show cX9_feed.data.toList[23]? = some 0x1c from (LBX9_feedr_1 7).trans (by decide +kernel))
theorem dX9_feed_24 : decode cX9_feed 24 = .ok (.iadd, 1) := dk_96_ (show cX9_feed.data.toList[24]? = some 0x60 from (LBX9_feedr_1 8).trans (by decide +kernel))
theorem dX9_feed_25 : decode cX9_feed 25 = .ok (.bipush 120, 2) := dk_16_ (show cX9_feed.data.toList[25]? = some 0x10 from (LBX9_feedr_1 9).trans (by decide +kernel)) (show cX9_feed.data.toList[26]? = some 0x78 from (LBX9_feedr_1 10).trans (by decide +kernel)) (by decide)
theorem dX9_feed_27 : decode cX9_feed 27 = .ok (.if_icmp .le 10, 3) := dk_164_ (show cX9_feed.data.toList[27]? = some 0xa4 from (LBX9_feedr_1 11).trans (by decide +kernel)) (show cX9_feed.data.toList[28]? = some 0x00 from (LBX9_feedr_1 12).trans (by decide +kernel)) (show cX9_feed.data.toList[29]? = some 0x0a from (LBX9_feedr_1 13).trans (by decide +kernel)) (by decide)
theorem dX9_feed_30 : decode cX9_feed 30 = .ok (.aload_n 0, 1) := dk_42_ (show cX9_feed.data.toList[30]? = some 0x2a from (LBX9_feedr_1 14).trans (by decide +kernel))
theorem dX9_feed_31 : decode cX9_feed 31 = .ok (.ldc 69, 2) := dk_18_ (show cX9_feed.data.toList[31]? = some 0x12 from (LBX9_feedr_1 15).trans (by decide +kernel)) (show cX9_feed.data.toList[32]? = some 0x45 from (LBX9_feedr_2 0).trans (by decide +kernel)) (by decide)
theorem dX9_feed_33 : decode cX9_feed 33 = .ok (.invokevirtual 70, 3) := dk_182_ (show cX9_feed.data.toList[33]? = some 0xb6 from (LBX9_feedr_2 1).trans (by decide +kernel)) (show cX9_feed.data.toList[34]? = some 0x00 from (LBX9_feedr_2 2).trans (by decide +kernel)) (show cX9_feed.data.toList[35]? = some 0x46 from (LBX9_feedr_2 3).trans (by decide +kernel)) (by decide)
theorem dX9_feed_36 : decode cX9_feed 36 = .ok (.ireturn, 1) := dk_172_ (show cX9_feed.data.toList[36]? = some 0xac from (LBX9_feedr_2 4).trans (by decide +kernel))
theorem dX9_feed_37 : decode cX9_feed 37 = .ok (.iload_n 2, 1) := dk_28_ (show cX9_feed.data.toList[37]? = some 0x1c from (LBX9_feedr_2 5).trans (by decide +kernel))
theorem dX9_feed_38 : decode cX9_feed 38 = .ok (.iconst 1, 1) := dk_4_ (show cX9_feed.data.toList[38]? = some 0x04 from (LBX9_feedr_2 6).trans (by decide +kernel))
theorem dX9_feed_39 : decode cX9_feed 39 = .ok (.isub, 1) := dk_100_ (show cX9_feed.data.toList[39]? = some 0x64 from (LBX9_feedr_2 7).trans (by decide +kernel))
theorem dX9_feed_40 : decode cX9_feed 40 = .ok (.istore_n 3, 1) := dk_62_ (show cX9_feed.data.toList[40]? = some 0x3e from (LBX9_feedr_2 8).trans (by decide +kernel))
theorem dX9_feed_41 : decode cX9_feed 41 = .ok (.iload_n 3, 1) := dk_29_ (show cX9_feed.data.toList[41]? = some 0x1d from (LBX9_feedr_2 9).trans (by decide +kernel))
theorem dX9_feed_42 : decode cX9_feed 42 = .ok (.ifCond .lt 38, 3) := dk_155_ (show cX9_feed.data.toList[42]? = some 0x9b from (LBX9_feedr_2 10).trans (by decide +kernel)) (show cX9_feed.data.toList[43]? = some 0x00 from (LBX9_feedr_2 11).trans (by decide +kernel)) (show cX9_feed.data.toList[44]? = some 0x26 from (LBX9_feedr_2 12).trans (by decide +kernel)) (by decide)
theorem dX9_feed_45 : decode cX9_feed 45 = .ok (.aload_n 0, 1) := dk_42_ (show cX9_feed.data.toList[45]? = some 0x2a from (LBX9_feedr_2 13).trans (by decide +kernel))
theorem dX9_feed_46 : decode cX9_feed 46 = .ok (.getfield 37, 3) := dk_180_ (show cX9_feed.data.toList[46]? = some 0xb4 from (LBX9_feedr_2 14).trans (by decide +kernel)) (show cX9_feed.data.toList[47]? = some 0x00 from (LBX9_feedr_2 15).trans (by decide +kernel)) (show cX9_feed.data.toList[48]? = some 0x25 from (LBX9_feedr_3 0).trans (by decide +kernel)) (by decide)
theorem dX9_feed_49 : decode cX9_feed 49 = .ok (.aload_n 0, 1) := dk_42_ (show cX9_feed.data.toList[49]? = some 0x2a from (LBX9_feedr_3 1).trans (by decide +kernel))
theorem dX9_feed_50 : decode cX9_feed 50 = .ok (.getfield 240, 3) := dk_180_ (show cX9_feed.data.toList[50]? = some 0xb4 from (LBX9_feedr_3 2).trans (by decide +kernel)) (show cX9_feed.data.toList[51]? = some 0x00 from (LBX9_feedr_3 3).trans (by decide +kernel)) (show cX9_feed.data.toList[52]? = some 0xf0 from (LBX9_feedr_3 4).trans (by decide +kernel)) (by decide)
theorem dX9_feed_53 : decode cX9_feed 53 = .ok (.iload_n 1, 1) := dk_27_ (show cX9_feed.data.toList[53]? = some 0x1b from (LBX9_feedr_3 5).trans (by decide +kernel))
theorem dX9_feed_54 : decode cX9_feed 54 = .ok (.bipush 8, 2) := dk_16_ (show cX9_feed.data.toList[54]? = some 0x10 from (LBX9_feedr_3 6).trans (by decide +kernel)) (show cX9_feed.data.toList[55]? = some 0x08 from (LBX9_feedr_3 7).trans (by decide +kernel)) (by decide)
theorem dX9_feed_56 : decode cX9_feed 56 = .ok (.iload_n 3, 1) := dk_29_ (show cX9_feed.data.toList[56]? = some 0x1d from (LBX9_feedr_3 8).trans (by decide +kernel))
theorem dX9_feed_57 : decode cX9_feed 57 = .ok (.imul, 1) := dk_104_ (show cX9_feed.data.toList[57]? = some 0x68 from (LBX9_feedr_3 9).trans (by decide +kernel))
theorem dX9_feed_58 : decode cX9_feed 58 = .ok (.ishr, 1) := dk_122_ (show cX9_feed.data.toList[58]? = some 0x7a from (LBX9_feedr_3 10).trans (by decide +kernel))
theorem dX9_feed_59 : decode cX9_feed 59 = .ok (.sipush 255, 3) := dk_17_ (show cX9_feed.data.toList[59]? = some 0x11 from (LBX9_feedr_3 11).trans (by decide +kernel)) (show cX9_feed.data.toList[60]? = some 0x00 from (LBX9_feedr_3 12).trans (by decide +kernel)) (show cX9_feed.data.toList[61]? = some 0xff from (LBX9_feedr_3 13).trans (by decide +kernel)) (by decide)
theorem dX9_feed_62 : decode cX9_feed 62 = .ok (.iand, 1) := dk_126_ (show cX9_feed.data.toList[62]? = some 0x7e from (LBX9_feedr_3 14).trans (by decide +kernel))
theorem dX9_feed_63 : decode cX9_feed 63 = .ok (.iastore, 1) := dk_79_ (show cX9_feed.data.toList[63]? = some 0x4f from (LBX9_feedr_3 15).trans (by decide +kernel))
theorem dX9_feed_64 : decode cX9_feed 64 = .ok (.aload_n 0, 1) := dk_42_ (show cX9_feed.data.toList[64]? = some 0x2a from (LBX9_feedr_4 0).trans (by decide +kernel))
theorem dX9_feed_65 : decode cX9_feed 65 = .ok (.dup, 1) := dk_89_ (show cX9_feed.data.toList[65]? = some 0x59 from (LBX9_feedr_4 1).trans (by decide +kernel))
theorem dX9_feed_66 : decode cX9_feed 66 = .ok (.getfield 240, 3) := dk_180_ (show cX9_feed.data.toList[66]? = some 0xb4 from (LBX9_feedr_4 2).trans (by decide +kernel)) (show cX9_feed.data.toList[67]? = some 0x00 from (LBX9_feedr_4 3).trans (by decide +kernel)) (show cX9_feed.data.toList[68]? = some 0xf0 from (LBX9_feedr_4 4).trans (by decide +kernel)) (by decide)
theorem dX9_feed_69 : decode cX9_feed 69 = .ok (.iconst 1, 1) := dk_4_ (show cX9_feed.data.toList[69]? = some 0x04 from (LBX9_feedr_4 5).trans (by decide +kernel))
theorem dX9_feed_70 : decode cX9_feed 70 = .ok (.iadd, 1) := dk_96_ (show cX9_feed.data.toList[70]? = some 0x60 from (LBX9_feedr_4 6).trans (by decide +kernel))
theorem dX9_feed_71 : decode cX9_feed 71 = .ok (.putfield 240, 3) := dk_181_ (show cX9_feed.data.toList[71]? = some 0xb5 from (LBX9_feedr_4 7).trans (by decide +kernel)) (show cX9_feed.data.toList[72]? = some 0x00 from (LBX9_feedr_4 8).trans (by decide +kernel)) (show cX9_feed.data.toList[73]? = some 0xf0 from (LBX9_feedr_4 9).trans (by decide +kernel)) (by decide)
theorem dX9_feed_74 : decode cX9_feed 74 = .ok (.iinc 3 (-1), 3) := dk_132_ (show cX9_feed.data.toList[74]? = some 0x84 from (LBX9_feedr_4 10).trans (by decide +kernel)) (show cX9_feed.data.toList[75]? = some 0x03 from (LBX9_feedr_4 11).trans (by decide +kernel)) (show cX9_feed.data.toList[76]? = some 0xff from (LBX9_feedr_4 12).trans (by decide +kernel)) (by decide) (by decide)
theorem dX9_feed_77 : decode cX9_feed 77 = .ok (.goto (-36), 3) := dk_167_ (show cX9_feed.data.toList[77]? = some 0xa7 from (LBX9_feedr_4 13).trans (by decide +kernel)) (show cX9_feed.data.toList[78]? = some 0xff from (LBX9_feedr_4 14).trans (by decide +kernel)) (show cX9_feed.data.toList[79]? = some 0xdc from (LBX9_feedr_4 15).trans (by decide +kernel)) (by decide)
theorem dX9_feed_80 : decode cX9_feed 80 = .ok (.aload_n 0, 1) := dk_42_ (show cX9_feed.data.toList[80]? = some 0x2a from (LBX9_feedr_5 0).trans (by decide +kernel))
theorem dX9_feed_81 : decode cX9_feed 81 = .ok (.getfield 240, 3) := dk_180_ (show cX9_feed.data.toList[81]? = some 0xb4 from (LBX9_feedr_5 1).trans (by decide +kernel)) (show cX9_feed.data.toList[82]? = some 0x00 from (LBX9_feedr_5 2).trans (by decide +kernel)) (show cX9_feed.data.toList[83]? = some 0xf0 from (LBX9_feedr_5 3).trans (by decide +kernel)) (by decide)
theorem dX9_feed_84 : decode cX9_feed 84 = .ok (.ireturn, 1) := dk_172_ (show cX9_feed.data.toList[84]? = some 0xac from (LBX9_feedr_5 4).trans (by decide +kernel))
theorem dX9_wipe_0 : decode cX9_wipe 0 = .ok (.aload_n 0, 1) := dk_42_ (show cX9_wipe.data.toList[0]? = some 0x2a from by decide +kernel)
theorem dX9_wipe_1 : decode cX9_wipe 1 = .ok (.getfield 240, 3) := dk_180_ (show cX9_wipe.data.toList[1]? = some 0xb4 from by decide +kernel) (show cX9_wipe.data.toList[2]? = some 0x00 from by decide +kernel) (show cX9_wipe.data.toList[3]? = some 0xf0 from by decide +kernel) (by decide)
theorem dX9_wipe_4 : decode cX9_wipe 4 = .ok (.istore_n 1, 1) := dk_60_ (show cX9_wipe.data.toList[4]? = some 0x3c from by decide +kernel)
theorem dX9_wipe_5 : decode cX9_wipe 5 = .ok (.aload_n 0, 1) := dk_42_ (show cX9_wipe.data.toList[5]? = some 0x2a from by decide +kernel)
theorem dX9_wipe_6 : decode cX9_wipe 6 = .ok (.iconst 0, 1) := dk_3_ (show cX9_wipe.data.toList[6]? = some 0x03 from by decide +kernel)
theorem dX9_wipe_7 : decode cX9_wipe 7 = .ok (.putfield 240, 3) := dk_181_ (show cX9_wipe.data.toList[7]? = some 0xb5 from by decide +kernel) (show cX9_wipe.data.toList[8]? = some 0x00 from by decide +kernel) (show cX9_wipe.data.toList[9]? = some 0xf0 from by decide +kernel) (by decide)
theorem dX9_wipe_10 : decode cX9_wipe 10 = .ok (.iload_n 1, 1) := dk_27_ (show cX9_wipe.data.toList[10]? = some 0x1b from by decide +kernel)
theorem dX9_wipe_11 : decode cX9_wipe 11 = .ok (.ireturn, 1) := dk_172_ (show cX9_wipe.data.toList[11]? = some 0xac from by decide +kernel)
def LRX9_byteAt_2 : List UInt8 := []
def LBX9_byteAt_1 : List UInt8 := [0x04, 0x02, 0xac]
def LRX9_byteAt_1 : List UInt8 := LBX9_byteAt_1 ++ LRX9_byteAt_2
def LBX9_byteAt_0 : List UInt8 := [0x1b, 0x2a, 0xb4, 0x00, 0xf0, 0xa2, 0x00, 0x0c, 0x2a, 0xb4, 0x00, 0x25, 0x1b, 0x2e, 0xa7, 0x00]
def LRX9_byteAt_0 : List UInt8 := LBX9_byteAt_0 ++ LRX9_byteAt_1
set_option maxRecDepth 100000 in
theorem LBX9_byteAt_eq : cX9_byteAt.data.toList = LRX9_byteAt_0 := by decide +kernel
theorem LBX9_byteAtr_0 (k : Nat) : cX9_byteAt.data.toList[0 + k]? = LRX9_byteAt_0[k]? := by rw [LBX9_byteAt_eq, Nat.zero_add]
theorem LBX9_byteAtr_1 (k : Nat) : cX9_byteAt.data.toList[16 + k]? = LRX9_byteAt_1[k]? := by
  have h := LBX9_byteAtr_0 (16 + k)
  rw [show 0 + (16 + k) = 16 + k by omega] at h
  rw [h]
  exact (List.getElem?_append_right (l₁ := LBX9_byteAt_0) (l₂ := LRX9_byteAt_1) (show 16 ≤ 16 + k by omega)).trans (congrArg (fun i => LRX9_byteAt_1[i]?) (show 16 + k - 16 = k by omega))
theorem dX9_byteAt_0 : decode cX9_byteAt 0 = .ok (.iload_n 1, 1) := dk_27_ (show cX9_byteAt.data.toList[0]? = some 0x1b from (LBX9_byteAtr_0 0).trans (by decide +kernel))
theorem dX9_byteAt_1 : decode cX9_byteAt 1 = .ok (.aload_n 0, 1) := dk_42_ (show cX9_byteAt.data.toList[1]? = some 0x2a from (LBX9_byteAtr_0 1).trans (by decide +kernel))
theorem dX9_byteAt_2 : decode cX9_byteAt 2 = .ok (.getfield 240, 3) := dk_180_ (show cX9_byteAt.data.toList[2]? = some 0xb4 from (LBX9_byteAtr_0 2).trans (by decide +kernel)) (show cX9_byteAt.data.toList[3]? = some 0x00 from (LBX9_byteAtr_0 3).trans (by decide +kernel)) (show cX9_byteAt.data.toList[4]? = some 0xf0 from (LBX9_byteAtr_0 4).trans (by decide +kernel)) (by decide)
theorem dX9_byteAt_5 : decode cX9_byteAt 5 = .ok (.if_icmp .ge 12, 3) := dk_162_ (show cX9_byteAt.data.toList[5]? = some 0xa2 from (LBX9_byteAtr_0 5).trans (by decide +kernel)) (show cX9_byteAt.data.toList[6]? = some 0x00 from (LBX9_byteAtr_0 6).trans (by decide +kernel)) (show cX9_byteAt.data.toList[7]? = some 0x0c from (LBX9_byteAtr_0 7).trans (by decide +kernel)) (by decide)
theorem dX9_byteAt_8 : decode cX9_byteAt 8 = .ok (.aload_n 0, 1) := dk_42_ (show cX9_byteAt.data.toList[8]? = some 0x2a from (LBX9_byteAtr_0 8).trans (by decide +kernel))
theorem dX9_byteAt_9 : decode cX9_byteAt 9 = .ok (.getfield 37, 3) := dk_180_ (show cX9_byteAt.data.toList[9]? = some 0xb4 from (LBX9_byteAtr_0 9).trans (by decide +kernel)) (show cX9_byteAt.data.toList[10]? = some 0x00 from (LBX9_byteAtr_0 10).trans (by decide +kernel)) (show cX9_byteAt.data.toList[11]? = some 0x25 from (LBX9_byteAtr_0 11).trans (by decide +kernel)) (by decide)
theorem dX9_byteAt_12 : decode cX9_byteAt 12 = .ok (.iload_n 1, 1) := dk_27_ (show cX9_byteAt.data.toList[12]? = some 0x1b from (LBX9_byteAtr_0 12).trans (by decide +kernel))
theorem dX9_byteAt_13 : decode cX9_byteAt 13 = .ok (.iaload, 1) := dk_46_ (show cX9_byteAt.data.toList[13]? = some 0x2e from (LBX9_byteAtr_0 13).trans (by decide +kernel))
theorem dX9_byteAt_14 : decode cX9_byteAt 14 = .ok (.goto 4, 3) := dk_167_ (show cX9_byteAt.data.toList[14]? = some 0xa7 from (LBX9_byteAtr_0 14).trans (by decide +kernel)) (show cX9_byteAt.data.toList[15]? = some 0x00 from (LBX9_byteAtr_0 15).trans (by decide +kernel)) (show cX9_byteAt.data.toList[16]? = some 0x04 from (LBX9_byteAtr_1 0).trans (by decide +kernel)) (by decide)
theorem dX9_byteAt_17 : decode cX9_byteAt 17 = .ok (.iconst (-1), 1) := dk_2_ (show cX9_byteAt.data.toList[17]? = some 0x02 from (LBX9_byteAtr_1 1).trans (by decide +kernel))
theorem dX9_byteAt_18 : decode cX9_byteAt 18 = .ok (.ireturn, 1) := dk_172_ (show cX9_byteAt.data.toList[18]? = some 0xac from (LBX9_byteAtr_1 2).trans (by decide +kernel))
def LRX9_next_9 : List UInt8 := []
def LBX9_next_8 : List UInt8 := [0x60, 0xb5, 0x00, 0xfb, 0xa7, 0xff, 0xd2, 0xb1]
def LRX9_next_8 : List UInt8 := LBX9_next_8 ++ LRX9_next_9
def LBX9_next_7 : List UInt8 := [0xfb, 0xb6, 0x01, 0x01, 0xb8, 0x01, 0x07, 0x99, 0x00, 0x10, 0x2a, 0x59, 0xb4, 0x00, 0xfb, 0x04]
def LRX9_next_7 : List UInt8 := LBX9_next_7 ++ LRX9_next_8
def LBX9_next_6 : List UInt8 := [0x01, 0x01, 0xb8, 0x01, 0x04, 0x9a, 0x00, 0x15, 0x1c, 0x99, 0x00, 0x1e, 0x2a, 0x2a, 0xb4, 0x00]
def LRX9_next_6 : List UInt8 := LBX9_next_6 ++ LRX9_next_7
def LBX9_next_5 : List UInt8 := [0xb4, 0x00, 0xfe, 0xb5, 0x00, 0xfb, 0x1b, 0x99, 0x00, 0x11, 0x2a, 0x2a, 0xb4, 0x00, 0xfb, 0xb6]
def LRX9_next_5 : List UInt8 := LBX9_next_5 ++ LRX9_next_6
def LBX9_next_4 : List UInt8 := [0xb4, 0x00, 0xf0, 0xa2, 0x00, 0x0c, 0x2a, 0xb4, 0x00, 0xfe, 0x04, 0x60, 0xa7, 0x00, 0x07, 0x2a]
def LRX9_next_4 : List UInt8 := LBX9_next_4 ++ LRX9_next_5
def LBX9_next_3 : List UInt8 := [0xb4, 0x00, 0xfe, 0xb6, 0x01, 0x01, 0xb8, 0x01, 0x07, 0x3d, 0x2a, 0x2a, 0xb4, 0x00, 0xfe, 0x2a]
def LRX9_next_3 : List UInt8 := LBX9_next_3 ++ LRX9_next_4
def LBX9_next_2 : List UInt8 := [0xff, 0xe9, 0x2a, 0x2a, 0xb4, 0x00, 0xfe, 0xb6, 0x01, 0x01, 0xb8, 0x01, 0x04, 0x3c, 0x2a, 0x2a]
def LRX9_next_2 : List UInt8 := LBX9_next_2 ++ LRX9_next_3
def LBX9_next_1 : List UInt8 := [0x10, 0x20, 0xa0, 0x00, 0x10, 0x2a, 0x59, 0xb4, 0x00, 0xfe, 0x04, 0x60, 0xb5, 0x00, 0xfe, 0xa7]
def LRX9_next_1 : List UInt8 := LBX9_next_1 ++ LRX9_next_2
def LBX9_next_0 : List UInt8 := [0x2a, 0x2a, 0xb4, 0x00, 0xfb, 0xb5, 0x00, 0xfe, 0x2a, 0x2a, 0xb4, 0x00, 0xfe, 0xb6, 0x01, 0x01]
def LRX9_next_0 : List UInt8 := LBX9_next_0 ++ LRX9_next_1
set_option maxRecDepth 100000 in
theorem LBX9_next_eq : cX9_next.data.toList = LRX9_next_0 := by decide +kernel
theorem LBX9_nextr_0 (k : Nat) : cX9_next.data.toList[0 + k]? = LRX9_next_0[k]? := by rw [LBX9_next_eq, Nat.zero_add]
theorem LBX9_nextr_1 (k : Nat) : cX9_next.data.toList[16 + k]? = LRX9_next_1[k]? := by
  have h := LBX9_nextr_0 (16 + k)
  rw [show 0 + (16 + k) = 16 + k by omega] at h
  rw [h]
  exact (List.getElem?_append_right (l₁ := LBX9_next_0) (l₂ := LRX9_next_1) (show 16 ≤ 16 + k by omega)).trans (congrArg (fun i => LRX9_next_1[i]?) (show 16 + k - 16 = k by omega))
theorem LBX9_nextr_2 (k : Nat) : cX9_next.data.toList[32 + k]? = LRX9_next_2[k]? := by
  have h := LBX9_nextr_1 (16 + k)
  rw [show 16 + (16 + k) = 32 + k by omega] at h
  rw [h]
  exact (List.getElem?_append_right (l₁ := LBX9_next_1) (l₂ := LRX9_next_2) (show 16 ≤ 16 + k by omega)).trans (congrArg (fun i => LRX9_next_2[i]?) (show 16 + k - 16 = k by omega))
theorem LBX9_nextr_3 (k : Nat) : cX9_next.data.toList[48 + k]? = LRX9_next_3[k]? := by
  have h := LBX9_nextr_2 (16 + k)
  rw [show 32 + (16 + k) = 48 + k by omega] at h
  rw [h]
  exact (List.getElem?_append_right (l₁ := LBX9_next_2) (l₂ := LRX9_next_3) (show 16 ≤ 16 + k by omega)).trans (congrArg (fun i => LRX9_next_3[i]?) (show 16 + k - 16 = k by omega))
theorem LBX9_nextr_4 (k : Nat) : cX9_next.data.toList[64 + k]? = LRX9_next_4[k]? := by
  have h := LBX9_nextr_3 (16 + k)
  rw [show 48 + (16 + k) = 64 + k by omega] at h
  rw [h]
  exact (List.getElem?_append_right (l₁ := LBX9_next_3) (l₂ := LRX9_next_4) (show 16 ≤ 16 + k by omega)).trans (congrArg (fun i => LRX9_next_4[i]?) (show 16 + k - 16 = k by omega))
theorem LBX9_nextr_5 (k : Nat) : cX9_next.data.toList[80 + k]? = LRX9_next_5[k]? := by
  have h := LBX9_nextr_4 (16 + k)
  rw [show 64 + (16 + k) = 80 + k by omega] at h
  rw [h]
  exact (List.getElem?_append_right (l₁ := LBX9_next_4) (l₂ := LRX9_next_5) (show 16 ≤ 16 + k by omega)).trans (congrArg (fun i => LRX9_next_5[i]?) (show 16 + k - 16 = k by omega))
theorem LBX9_nextr_6 (k : Nat) : cX9_next.data.toList[96 + k]? = LRX9_next_6[k]? := by
  have h := LBX9_nextr_5 (16 + k)
  rw [show 80 + (16 + k) = 96 + k by omega] at h
  rw [h]
  exact (List.getElem?_append_right (l₁ := LBX9_next_5) (l₂ := LRX9_next_6) (show 16 ≤ 16 + k by omega)).trans (congrArg (fun i => LRX9_next_6[i]?) (show 16 + k - 16 = k by omega))
theorem LBX9_nextr_7 (k : Nat) : cX9_next.data.toList[112 + k]? = LRX9_next_7[k]? := by
  have h := LBX9_nextr_6 (16 + k)
  rw [show 96 + (16 + k) = 112 + k by omega] at h
  rw [h]
  exact (List.getElem?_append_right (l₁ := LBX9_next_6) (l₂ := LRX9_next_7) (show 16 ≤ 16 + k by omega)).trans (congrArg (fun i => LRX9_next_7[i]?) (show 16 + k - 16 = k by omega))
theorem LBX9_nextr_8 (k : Nat) : cX9_next.data.toList[128 + k]? = LRX9_next_8[k]? := by
  have h := LBX9_nextr_7 (16 + k)
  rw [show 112 + (16 + k) = 128 + k by omega] at h
  rw [h]
  exact (List.getElem?_append_right (l₁ := LBX9_next_7) (l₂ := LRX9_next_8) (show 16 ≤ 16 + k by omega)).trans (congrArg (fun i => LRX9_next_8[i]?) (show 16 + k - 16 = k by omega))
theorem dX9_next_0 : decode cX9_next 0 = .ok (.aload_n 0, 1) := dk_42_ (show cX9_next.data.toList[0]? = some 0x2a from (LBX9_nextr_0 0).trans (by decide +kernel))
theorem dX9_next_1 : decode cX9_next 1 = .ok (.aload_n 0, 1) := dk_42_ (show cX9_next.data.toList[1]? = some 0x2a from (LBX9_nextr_0 1).trans (by decide +kernel))
theorem dX9_next_2 : decode cX9_next 2 = .ok (.getfield 251, 3) := dk_180_ (show cX9_next.data.toList[2]? = some 0xb4 from (LBX9_nextr_0 2).trans (by decide +kernel)) (show cX9_next.data.toList[3]? = some 0x00 from (LBX9_nextr_0 3).trans (by decide +kernel)) (show cX9_next.data.toList[4]? = some 0xfb from (LBX9_nextr_0 4).trans (by decide +kernel)) (by decide)
theorem dX9_next_5 : decode cX9_next 5 = .ok (.putfield 254, 3) := dk_181_ (show cX9_next.data.toList[5]? = some 0xb5 from (LBX9_nextr_0 5).trans (by decide +kernel)) (show cX9_next.data.toList[6]? = some 0x00 from (LBX9_nextr_0 6).trans (by decide +kernel)) (show cX9_next.data.toList[7]? = some 0xfe from (LBX9_nextr_0 7).trans (by decide +kernel)) (by decide)
theorem dX9_next_8 : decode cX9_next 8 = .ok (.aload_n 0, 1) := dk_42_ (show cX9_next.data.toList[8]? = some 0x2a from (LBX9_nextr_0 8).trans (by decide +kernel))
theorem dX9_next_9 : decode cX9_next 9 = .ok (.aload_n 0, 1) := dk_42_ (show cX9_next.data.toList[9]? = some 0x2a from (LBX9_nextr_0 9).trans (by decide +kernel))
theorem dX9_next_10 : decode cX9_next 10 = .ok (.getfield 254, 3) := dk_180_ (show cX9_next.data.toList[10]? = some 0xb4 from (LBX9_nextr_0 10).trans (by decide +kernel)) (show cX9_next.data.toList[11]? = some 0x00 from (LBX9_nextr_0 11).trans (by decide +kernel)) (show cX9_next.data.toList[12]? = some 0xfe from (LBX9_nextr_0 12).trans (by decide +kernel)) (by decide)
theorem dX9_next_13 : decode cX9_next 13 = .ok (.invokevirtual 257, 3) := dk_182_ (show cX9_next.data.toList[13]? = some 0xb6 from (LBX9_nextr_0 13).trans (by decide +kernel)) (show cX9_next.data.toList[14]? = some 0x01 from (LBX9_nextr_0 14).trans (by decide +kernel)) (show cX9_next.data.toList[15]? = some 0x01 from (LBX9_nextr_0 15).trans (by decide +kernel)) (by decide)
theorem dX9_next_16 : decode cX9_next 16 = .ok (.bipush 32, 2) := dk_16_ (show cX9_next.data.toList[16]? = some 0x10 from (LBX9_nextr_1 0).trans (by decide +kernel)) (show cX9_next.data.toList[17]? = some 0x20 from (LBX9_nextr_1 1).trans (by decide +kernel)) (by decide)
theorem dX9_next_18 : decode cX9_next 18 = .ok (.if_icmp .ne 16, 3) := dk_160_ (show cX9_next.data.toList[18]? = some 0xa0 from (LBX9_nextr_1 2).trans (by decide +kernel)) (show cX9_next.data.toList[19]? = some 0x00 from (LBX9_nextr_1 3).trans (by decide +kernel)) (show cX9_next.data.toList[20]? = some 0x10 from (LBX9_nextr_1 4).trans (by decide +kernel)) (by decide)
theorem dX9_next_21 : decode cX9_next 21 = .ok (.aload_n 0, 1) := dk_42_ (show cX9_next.data.toList[21]? = some 0x2a from (LBX9_nextr_1 5).trans (by decide +kernel))
theorem dX9_next_22 : decode cX9_next 22 = .ok (.dup, 1) := dk_89_ (show cX9_next.data.toList[22]? = some 0x59 from (LBX9_nextr_1 6).trans (by decide +kernel))
theorem dX9_next_23 : decode cX9_next 23 = .ok (.getfield 254, 3) := dk_180_ (show cX9_next.data.toList[23]? = some 0xb4 from (LBX9_nextr_1 7).trans (by decide +kernel)) (show cX9_next.data.toList[24]? = some 0x00 from (LBX9_nextr_1 8).trans (by decide +kernel)) (show cX9_next.data.toList[25]? = some 0xfe from (LBX9_nextr_1 9).trans (by decide +kernel)) (by decide)
theorem dX9_next_26 : decode cX9_next 26 = .ok (.iconst 1, 1) := dk_4_ (show cX9_next.data.toList[26]? = some 0x04 from (LBX9_nextr_1 10).trans (by decide +kernel))
theorem dX9_next_27 : decode cX9_next 27 = .ok (.iadd, 1) := dk_96_ (show cX9_next.data.toList[27]? = some 0x60 from (LBX9_nextr_1 11).trans (by decide +kernel))
theorem dX9_next_28 : decode cX9_next 28 = .ok (.putfield 254, 3) := dk_181_ (show cX9_next.data.toList[28]? = some 0xb5 from (LBX9_nextr_1 12).trans (by decide +kernel)) (show cX9_next.data.toList[29]? = some 0x00 from (LBX9_nextr_1 13).trans (by decide +kernel)) (show cX9_next.data.toList[30]? = some 0xfe from (LBX9_nextr_1 14).trans (by decide +kernel)) (by decide)
theorem dX9_next_31 : decode cX9_next 31 = .ok (.goto (-23), 3) := dk_167_ (show cX9_next.data.toList[31]? = some 0xa7 from (LBX9_nextr_1 15).trans (by decide +kernel)) (show cX9_next.data.toList[32]? = some 0xff from (LBX9_nextr_2 0).trans (by decide +kernel)) (show cX9_next.data.toList[33]? = some 0xe9 from (LBX9_nextr_2 1).trans (by decide +kernel)) (by decide)
theorem dX9_next_34 : decode cX9_next 34 = .ok (.aload_n 0, 1) := dk_42_ (show cX9_next.data.toList[34]? = some 0x2a from (LBX9_nextr_2 2).trans (by decide +kernel))
theorem dX9_next_35 : decode cX9_next 35 = .ok (.aload_n 0, 1) := dk_42_ (show cX9_next.data.toList[35]? = some 0x2a from (LBX9_nextr_2 3).trans (by decide +kernel))
theorem dX9_next_36 : decode cX9_next 36 = .ok (.getfield 254, 3) := dk_180_ (show cX9_next.data.toList[36]? = some 0xb4 from (LBX9_nextr_2 4).trans (by decide +kernel)) (show cX9_next.data.toList[37]? = some 0x00 from (LBX9_nextr_2 5).trans (by decide +kernel)) (show cX9_next.data.toList[38]? = some 0xfe from (LBX9_nextr_2 6).trans (by decide +kernel)) (by decide)
theorem dX9_next_39 : decode cX9_next 39 = .ok (.invokevirtual 257, 3) := dk_182_ (show cX9_next.data.toList[39]? = some 0xb6 from (LBX9_nextr_2 7).trans (by decide +kernel)) (show cX9_next.data.toList[40]? = some 0x01 from (LBX9_nextr_2 8).trans (by decide +kernel)) (show cX9_next.data.toList[41]? = some 0x01 from (LBX9_nextr_2 9).trans (by decide +kernel)) (by decide)
theorem dX9_next_42 : decode cX9_next 42 = .ok (.invokestatic 260, 3) := dk_184_ (show cX9_next.data.toList[42]? = some 0xb8 from (LBX9_nextr_2 10).trans (by decide +kernel)) (show cX9_next.data.toList[43]? = some 0x01 from (LBX9_nextr_2 11).trans (by decide +kernel)) (show cX9_next.data.toList[44]? = some 0x04 from (LBX9_nextr_2 12).trans (by decide +kernel)) (by decide)
theorem dX9_next_45 : decode cX9_next 45 = .ok (.istore_n 1, 1) := dk_60_ (show cX9_next.data.toList[45]? = some 0x3c from (LBX9_nextr_2 13).trans (by decide +kernel))
theorem dX9_next_46 : decode cX9_next 46 = .ok (.aload_n 0, 1) := dk_42_ (show cX9_next.data.toList[46]? = some 0x2a from (LBX9_nextr_2 14).trans (by decide +kernel))
theorem dX9_next_47 : decode cX9_next 47 = .ok (.aload_n 0, 1) := dk_42_ (show cX9_next.data.toList[47]? = some 0x2a from (LBX9_nextr_2 15).trans (by decide +kernel))
theorem dX9_next_48 : decode cX9_next 48 = .ok (.getfield 254, 3) := dk_180_ (show cX9_next.data.toList[48]? = some 0xb4 from (LBX9_nextr_3 0).trans (by decide +kernel)) (show cX9_next.data.toList[49]? = some 0x00 from (LBX9_nextr_3 1).trans (by decide +kernel)) (show cX9_next.data.toList[50]? = some 0xfe from (LBX9_nextr_3 2).trans (by decide +kernel)) (by decide)
theorem dX9_next_51 : decode cX9_next 51 = .ok (.invokevirtual 257, 3) := dk_182_ (show cX9_next.data.toList[51]? = some 0xb6 from (LBX9_nextr_3 3).trans (by decide +kernel)) (show cX9_next.data.toList[52]? = some 0x01 from (LBX9_nextr_3 4).trans (by decide +kernel)) (show cX9_next.data.toList[53]? = some 0x01 from (LBX9_nextr_3 5).trans (by decide +kernel)) (by decide)
theorem dX9_next_54 : decode cX9_next 54 = .ok (.invokestatic 263, 3) := dk_184_ (show cX9_next.data.toList[54]? = some 0xb8 from (LBX9_nextr_3 6).trans (by decide +kernel)) (show cX9_next.data.toList[55]? = some 0x01 from (LBX9_nextr_3 7).trans (by decide +kernel)) (show cX9_next.data.toList[56]? = some 0x07 from (LBX9_nextr_3 8).trans (by decide +kernel)) (by decide)
theorem dX9_next_57 : decode cX9_next 57 = .ok (.istore_n 2, 1) := dk_61_ (show cX9_next.data.toList[57]? = some 0x3d from (LBX9_nextr_3 9).trans (by decide +kernel))
theorem dX9_next_58 : decode cX9_next 58 = .ok (.aload_n 0, 1) := dk_42_ (show cX9_next.data.toList[58]? = some 0x2a from (LBX9_nextr_3 10).trans (by decide +kernel))
theorem dX9_next_59 : decode cX9_next 59 = .ok (.aload_n 0, 1) := dk_42_ (show cX9_next.data.toList[59]? = some 0x2a from (LBX9_nextr_3 11).trans (by decide +kernel))
theorem dX9_next_60 : decode cX9_next 60 = .ok (.getfield 254, 3) := dk_180_ (show cX9_next.data.toList[60]? = some 0xb4 from (LBX9_nextr_3 12).trans (by decide +kernel)) (show cX9_next.data.toList[61]? = some 0x00 from (LBX9_nextr_3 13).trans (by decide +kernel)) (show cX9_next.data.toList[62]? = some 0xfe from (LBX9_nextr_3 14).trans (by decide +kernel)) (by decide)
theorem dX9_next_63 : decode cX9_next 63 = .ok (.aload_n 0, 1) := dk_42_ (show cX9_next.data.toList[63]? = some 0x2a from (LBX9_nextr_3 15).trans (by decide +kernel))
theorem dX9_next_64 : decode cX9_next 64 = .ok (.getfield 240, 3) := dk_180_ (show cX9_next.data.toList[64]? = some 0xb4 from (LBX9_nextr_4 0).trans (by decide +kernel)) (show cX9_next.data.toList[65]? = some 0x00 from (LBX9_nextr_4 1).trans (by decide +kernel)) (show cX9_next.data.toList[66]? = some 0xf0 from (LBX9_nextr_4 2).trans (by decide +kernel)) (by decide)
theorem dX9_next_67 : decode cX9_next 67 = .ok (.if_icmp .ge 12, 3) := dk_162_ (show cX9_next.data.toList[67]? = some 0xa2 from (LBX9_nextr_4 3).trans (by decide +kernel)) (show cX9_next.data.toList[68]? = some 0x00 from (LBX9_nextr_4 4).trans (by decide +kernel)) (show cX9_next.data.toList[69]? = some 0x0c from (LBX9_nextr_4 5).trans (by decide +kernel)) (by decide)
theorem dX9_next_70 : decode cX9_next 70 = .ok (.aload_n 0, 1) := dk_42_ (show cX9_next.data.toList[70]? = some 0x2a from (LBX9_nextr_4 6).trans (by decide +kernel))
theorem dX9_next_71 : decode cX9_next 71 = .ok (.getfield 254, 3) := dk_180_ (show cX9_next.data.toList[71]? = some 0xb4 from (LBX9_nextr_4 7).trans (by decide +kernel)) (show cX9_next.data.toList[72]? = some 0x00 from (LBX9_nextr_4 8).trans (by decide +kernel)) (show cX9_next.data.toList[73]? = some 0xfe from (LBX9_nextr_4 9).trans (by decide +kernel)) (by decide)
theorem dX9_next_74 : decode cX9_next 74 = .ok (.iconst 1, 1) := dk_4_ (show cX9_next.data.toList[74]? = some 0x04 from (LBX9_nextr_4 10).trans (by decide +kernel))
theorem dX9_next_75 : decode cX9_next 75 = .ok (.iadd, 1) := dk_96_ (show cX9_next.data.toList[75]? = some 0x60 from (LBX9_nextr_4 11).trans (by decide +kernel))
theorem dX9_next_76 : decode cX9_next 76 = .ok (.goto 7, 3) := dk_167_ (show cX9_next.data.toList[76]? = some 0xa7 from (LBX9_nextr_4 12).trans (by decide +kernel)) (show cX9_next.data.toList[77]? = some 0x00 from (LBX9_nextr_4 13).trans (by decide +kernel)) (show cX9_next.data.toList[78]? = some 0x07 from (LBX9_nextr_4 14).trans (by decide +kernel)) (by decide)
theorem dX9_next_79 : decode cX9_next 79 = .ok (.aload_n 0, 1) := dk_42_ (show cX9_next.data.toList[79]? = some 0x2a from (LBX9_nextr_4 15).trans (by decide +kernel))
theorem dX9_next_80 : decode cX9_next 80 = .ok (.getfield 254, 3) := dk_180_ (show cX9_next.data.toList[80]? = some 0xb4 from (LBX9_nextr_5 0).trans (by decide +kernel)) (show cX9_next.data.toList[81]? = some 0x00 from (LBX9_nextr_5 1).trans (by decide +kernel)) (show cX9_next.data.toList[82]? = some 0xfe from (LBX9_nextr_5 2).trans (by decide +kernel)) (by decide)
theorem dX9_next_83 : decode cX9_next 83 = .ok (.putfield 251, 3) := dk_181_ (show cX9_next.data.toList[83]? = some 0xb5 from (LBX9_nextr_5 3).trans (by decide +kernel)) (show cX9_next.data.toList[84]? = some 0x00 from (LBX9_nextr_5 4).trans (by decide +kernel)) (show cX9_next.data.toList[85]? = some 0xfb from (LBX9_nextr_5 5).trans (by decide +kernel)) (by decide)
theorem dX9_next_86 : decode cX9_next 86 = .ok (.iload_n 1, 1) := dk_27_ (show cX9_next.data.toList[86]? = some 0x1b from (LBX9_nextr_5 6).trans (by decide +kernel))
theorem dX9_next_87 : decode cX9_next 87 = .ok (.ifCond .eq 17, 3) := dk_153_ (show cX9_next.data.toList[87]? = some 0x99 from (LBX9_nextr_5 7).trans (by decide +kernel)) (show cX9_next.data.toList[88]? = some 0x00 from (LBX9_nextr_5 8).trans (by decide +kernel)) (show cX9_next.data.toList[89]? = some 0x11 from (LBX9_nextr_5 9).trans (by decide +kernel)) (by decide)
theorem dX9_next_90 : decode cX9_next 90 = .ok (.aload_n 0, 1) := dk_42_ (show cX9_next.data.toList[90]? = some 0x2a from (LBX9_nextr_5 10).trans (by decide +kernel))
theorem dX9_next_91 : decode cX9_next 91 = .ok (.aload_n 0, 1) := dk_42_ (show cX9_next.data.toList[91]? = some 0x2a from (LBX9_nextr_5 11).trans (by decide +kernel))
theorem dX9_next_92 : decode cX9_next 92 = .ok (.getfield 251, 3) := dk_180_ (show cX9_next.data.toList[92]? = some 0xb4 from (LBX9_nextr_5 12).trans (by decide +kernel)) (show cX9_next.data.toList[93]? = some 0x00 from (LBX9_nextr_5 13).trans (by decide +kernel)) (show cX9_next.data.toList[94]? = some 0xfb from (LBX9_nextr_5 14).trans (by decide +kernel)) (by decide)
theorem dX9_next_95 : decode cX9_next 95 = .ok (.invokevirtual 257, 3) := dk_182_ (show cX9_next.data.toList[95]? = some 0xb6 from (LBX9_nextr_5 15).trans (by decide +kernel)) (show cX9_next.data.toList[96]? = some 0x01 from (LBX9_nextr_6 0).trans (by decide +kernel)) (show cX9_next.data.toList[97]? = some 0x01 from (LBX9_nextr_6 1).trans (by decide +kernel)) (by decide)
theorem dX9_next_98 : decode cX9_next 98 = .ok (.invokestatic 260, 3) := dk_184_ (show cX9_next.data.toList[98]? = some 0xb8 from (LBX9_nextr_6 2).trans (by decide +kernel)) (show cX9_next.data.toList[99]? = some 0x01 from (LBX9_nextr_6 3).trans (by decide +kernel)) (show cX9_next.data.toList[100]? = some 0x04 from (LBX9_nextr_6 4).trans (by decide +kernel)) (by decide)
theorem dX9_next_101 : decode cX9_next 101 = .ok (.ifCond .ne 21, 3) := dk_154_ (show cX9_next.data.toList[101]? = some 0x9a from (LBX9_nextr_6 5).trans (by decide +kernel)) (show cX9_next.data.toList[102]? = some 0x00 from (LBX9_nextr_6 6).trans (by decide +kernel)) (show cX9_next.data.toList[103]? = some 0x15 from (LBX9_nextr_6 7).trans (by decide +kernel)) (by decide)
theorem dX9_next_104 : decode cX9_next 104 = .ok (.iload_n 2, 1) := dk_28_ (show cX9_next.data.toList[104]? = some 0x1c from (LBX9_nextr_6 8).trans (by decide +kernel))
theorem dX9_next_105 : decode cX9_next 105 = .ok (.ifCond .eq 30, 3) := dk_153_ (show cX9_next.data.toList[105]? = some 0x99 from (LBX9_nextr_6 9).trans (by decide +kernel)) (show cX9_next.data.toList[106]? = some 0x00 from (LBX9_nextr_6 10).trans (by decide +kernel)) (show cX9_next.data.toList[107]? = some 0x1e from (LBX9_nextr_6 11).trans (by decide +kernel)) (by decide)
theorem dX9_next_108 : decode cX9_next 108 = .ok (.aload_n 0, 1) := dk_42_ (show cX9_next.data.toList[108]? = some 0x2a from (LBX9_nextr_6 12).trans (by decide +kernel))
theorem dX9_next_109 : decode cX9_next 109 = .ok (.aload_n 0, 1) := dk_42_ (show cX9_next.data.toList[109]? = some 0x2a from (LBX9_nextr_6 13).trans (by decide +kernel))
theorem dX9_next_110 : decode cX9_next 110 = .ok (.getfield 251, 3) := dk_180_ (show cX9_next.data.toList[110]? = some 0xb4 from (LBX9_nextr_6 14).trans (by decide +kernel)) (show cX9_next.data.toList[111]? = some 0x00 from (LBX9_nextr_6 15).trans (by decide +kernel)) (show cX9_next.data.toList[112]? = some 0xfb from (LBX9_nextr_7 0).trans (by decide +kernel)) (by decide)
theorem dX9_next_113 : decode cX9_next 113 = .ok (.invokevirtual 257, 3) := dk_182_ (show cX9_next.data.toList[113]? = some 0xb6 from (LBX9_nextr_7 1).trans (by decide +kernel)) (show cX9_next.data.toList[114]? = some 0x01 from (LBX9_nextr_7 2).trans (by decide +kernel)) (show cX9_next.data.toList[115]? = some 0x01 from (LBX9_nextr_7 3).trans (by decide +kernel)) (by decide)
theorem dX9_next_116 : decode cX9_next 116 = .ok (.invokestatic 263, 3) := dk_184_ (show cX9_next.data.toList[116]? = some 0xb8 from (LBX9_nextr_7 4).trans (by decide +kernel)) (show cX9_next.data.toList[117]? = some 0x01 from (LBX9_nextr_7 5).trans (by decide +kernel)) (show cX9_next.data.toList[118]? = some 0x07 from (LBX9_nextr_7 6).trans (by decide +kernel)) (by decide)
theorem dX9_next_119 : decode cX9_next 119 = .ok (.ifCond .eq 16, 3) := dk_153_ (show cX9_next.data.toList[119]? = some 0x99 from (LBX9_nextr_7 7).trans (by decide +kernel)) (show cX9_next.data.toList[120]? = some 0x00 from (LBX9_nextr_7 8).trans (by decide +kernel)) (show cX9_next.data.toList[121]? = some 0x10 from (LBX9_nextr_7 9).trans (by decide +kernel)) (by decide)
theorem dX9_next_122 : decode cX9_next 122 = .ok (.aload_n 0, 1) := dk_42_ (show cX9_next.data.toList[122]? = some 0x2a from (LBX9_nextr_7 10).trans (by decide +kernel))
theorem dX9_next_123 : decode cX9_next 123 = .ok (.dup, 1) := dk_89_ (show cX9_next.data.toList[123]? = some 0x59 from (LBX9_nextr_7 11).trans (by decide +kernel))
theorem dX9_next_124 : decode cX9_next 124 = .ok (.getfield 251, 3) := dk_180_ (show cX9_next.data.toList[124]? = some 0xb4 from (LBX9_nextr_7 12).trans (by decide +kernel)) (show cX9_next.data.toList[125]? = some 0x00 from (LBX9_nextr_7 13).trans (by decide +kernel)) (show cX9_next.data.toList[126]? = some 0xfb from (LBX9_nextr_7 14).trans (by decide +kernel)) (by decide)
theorem dX9_next_127 : decode cX9_next 127 = .ok (.iconst 1, 1) := dk_4_ (show cX9_next.data.toList[127]? = some 0x04 from (LBX9_nextr_7 15).trans (by decide +kernel))
theorem dX9_next_128 : decode cX9_next 128 = .ok (.iadd, 1) := dk_96_ (show cX9_next.data.toList[128]? = some 0x60 from (LBX9_nextr_8 0).trans (by decide +kernel))
theorem dX9_next_129 : decode cX9_next 129 = .ok (.putfield 251, 3) := dk_181_ (show cX9_next.data.toList[129]? = some 0xb5 from (LBX9_nextr_8 1).trans (by decide +kernel)) (show cX9_next.data.toList[130]? = some 0x00 from (LBX9_nextr_8 2).trans (by decide +kernel)) (show cX9_next.data.toList[131]? = some 0xfb from (LBX9_nextr_8 3).trans (by decide +kernel)) (by decide)
theorem dX9_next_132 : decode cX9_next 132 = .ok (.goto (-46), 3) := dk_167_ (show cX9_next.data.toList[132]? = some 0xa7 from (LBX9_nextr_8 4).trans (by decide +kernel)) (show cX9_next.data.toList[133]? = some 0xff from (LBX9_nextr_8 5).trans (by decide +kernel)) (show cX9_next.data.toList[134]? = some 0xd2 from (LBX9_nextr_8 6).trans (by decide +kernel)) (by decide)
theorem dX9_next_135 : decode cX9_next 135 = .ok (.return_, 1) := dk_177_ (show cX9_next.data.toList[135]? = some 0xb1 from (LBX9_nextr_8 7).trans (by decide +kernel))
def LRX9_needs_2 : List UInt8 := []
def LBX9_needs_1 : List UInt8 := [0x03, 0xb5, 0x01, 0x0a, 0x2a, 0xb4, 0x01, 0x0a, 0x9a, 0x00, 0x07, 0x2a, 0xb6, 0x01, 0x0d, 0xb1]
def LRX9_needs_1 : List UInt8 := LBX9_needs_1 ++ LRX9_needs_2
def LBX9_needs_0 : List UInt8 := [0x2a, 0x2a, 0xb4, 0x01, 0x0a, 0x9a, 0x00, 0x07, 0x1b, 0x9a, 0x00, 0x07, 0x04, 0xa7, 0x00, 0x04]
def LRX9_needs_0 : List UInt8 := LBX9_needs_0 ++ LRX9_needs_1
set_option maxRecDepth 100000 in
theorem LBX9_needs_eq : cX9_needs.data.toList = LRX9_needs_0 := by decide +kernel
theorem LBX9_needsr_0 (k : Nat) : cX9_needs.data.toList[0 + k]? = LRX9_needs_0[k]? := by rw [LBX9_needs_eq, Nat.zero_add]
theorem LBX9_needsr_1 (k : Nat) : cX9_needs.data.toList[16 + k]? = LRX9_needs_1[k]? := by
  have h := LBX9_needsr_0 (16 + k)
  rw [show 0 + (16 + k) = 16 + k by omega] at h
  rw [h]
  exact (List.getElem?_append_right (l₁ := LBX9_needs_0) (l₂ := LRX9_needs_1) (show 16 ≤ 16 + k by omega)).trans (congrArg (fun i => LRX9_needs_1[i]?) (show 16 + k - 16 = k by omega))
theorem dX9_needs_0 : decode cX9_needs 0 = .ok (.aload_n 0, 1) := dk_42_ (show cX9_needs.data.toList[0]? = some 0x2a from (LBX9_needsr_0 0).trans (by decide +kernel))
theorem dX9_needs_1 : decode cX9_needs 1 = .ok (.aload_n 0, 1) := dk_42_ (show cX9_needs.data.toList[1]? = some 0x2a from (LBX9_needsr_0 1).trans (by decide +kernel))
theorem dX9_needs_2 : decode cX9_needs 2 = .ok (.getfield 266, 3) := dk_180_ (show cX9_needs.data.toList[2]? = some 0xb4 from (LBX9_needsr_0 2).trans (by decide +kernel)) (show cX9_needs.data.toList[3]? = some 0x01 from (LBX9_needsr_0 3).trans (by decide +kernel)) (show cX9_needs.data.toList[4]? = some 0x0a from (LBX9_needsr_0 4).trans (by decide +kernel)) (by decide)
theorem dX9_needs_5 : decode cX9_needs 5 = .ok (.ifCond .ne 7, 3) := dk_154_ (show cX9_needs.data.toList[5]? = some 0x9a from (LBX9_needsr_0 5).trans (by decide +kernel)) (show cX9_needs.data.toList[6]? = some 0x00 from (LBX9_needsr_0 6).trans (by decide +kernel)) (show cX9_needs.data.toList[7]? = some 0x07 from (LBX9_needsr_0 7).trans (by decide +kernel)) (by decide)
theorem dX9_needs_12 : decode cX9_needs 12 = .ok (.iconst 1, 1) := dk_4_ (show cX9_needs.data.toList[12]? = some 0x04 from (LBX9_needsr_0 12).trans (by decide +kernel))
theorem dX9_needs_13 : decode cX9_needs 13 = .ok (.goto 4, 3) := dk_167_ (show cX9_needs.data.toList[13]? = some 0xa7 from (LBX9_needsr_0 13).trans (by decide +kernel)) (show cX9_needs.data.toList[14]? = some 0x00 from (LBX9_needsr_0 14).trans (by decide +kernel)) (show cX9_needs.data.toList[15]? = some 0x04 from (LBX9_needsr_0 15).trans (by decide +kernel)) (by decide)
theorem dX9_needs_17 : decode cX9_needs 17 = .ok (.putfield 266, 3) := dk_181_ (show cX9_needs.data.toList[17]? = some 0xb5 from (LBX9_needsr_1 1).trans (by decide +kernel)) (show cX9_needs.data.toList[18]? = some 0x01 from (LBX9_needsr_1 2).trans (by decide +kernel)) (show cX9_needs.data.toList[19]? = some 0x0a from (LBX9_needsr_1 3).trans (by decide +kernel)) (by decide)
theorem dX9_needs_20 : decode cX9_needs 20 = .ok (.aload_n 0, 1) := dk_42_ (show cX9_needs.data.toList[20]? = some 0x2a from (LBX9_needsr_1 4).trans (by decide +kernel))
theorem dX9_needs_21 : decode cX9_needs 21 = .ok (.getfield 266, 3) := dk_180_ (show cX9_needs.data.toList[21]? = some 0xb4 from (LBX9_needsr_1 5).trans (by decide +kernel)) (show cX9_needs.data.toList[22]? = some 0x01 from (LBX9_needsr_1 6).trans (by decide +kernel)) (show cX9_needs.data.toList[23]? = some 0x0a from (LBX9_needsr_1 7).trans (by decide +kernel)) (by decide)
theorem dX9_needs_24 : decode cX9_needs 24 = .ok (.ifCond .ne 7, 3) := dk_154_ (show cX9_needs.data.toList[24]? = some 0x9a from (LBX9_needsr_1 8).trans (by decide +kernel)) (show cX9_needs.data.toList[25]? = some 0x00 from (LBX9_needsr_1 9).trans (by decide +kernel)) (show cX9_needs.data.toList[26]? = some 0x07 from (LBX9_needsr_1 10).trans (by decide +kernel)) (by decide)
theorem dX9_needs_31 : decode cX9_needs 31 = .ok (.return_, 1) := dk_177_ (show cX9_needs.data.toList[31]? = some 0xb1 from (LBX9_needsr_1 15).trans (by decide +kernel))
theorem dX9_needs_8 : decode cX9_needs 8 = .ok (.iload_n 1, 1) := dk_27_ (show cX9_needs.data.toList[8]? = some 0x1b from (LBX9_needsr_0 8).trans (by decide +kernel))
theorem dX9_needs_9 : decode cX9_needs 9 = .ok (.ifCond .ne 7, 3) := dk_154_ (show cX9_needs.data.toList[9]? = some 0x9a from (LBX9_needsr_0 9).trans (by decide +kernel)) (show cX9_needs.data.toList[10]? = some 0x00 from (LBX9_needsr_0 10).trans (by decide +kernel)) (show cX9_needs.data.toList[11]? = some 0x07 from (LBX9_needsr_0 11).trans (by decide +kernel)) (by decide)
theorem dX9_needs_16 : decode cX9_needs 16 = .ok (.iconst 0, 1) := dk_3_ (show cX9_needs.data.toList[16]? = some 0x03 from (LBX9_needsr_1 0).trans (by decide +kernel))
theorem dX9_needs_27 : decode cX9_needs 27 = .ok (.aload_n 0, 1) := dk_42_ (show cX9_needs.data.toList[27]? = some 0x2a from (LBX9_needsr_1 11).trans (by decide +kernel))
theorem dX9_needs_28 : decode cX9_needs 28 = .ok (.invokevirtual 269, 3) := dk_182_ (show cX9_needs.data.toList[28]? = some 0xb6 from (LBX9_needsr_1 12).trans (by decide +kernel)) (show cX9_needs.data.toList[29]? = some 0x01 from (LBX9_needsr_1 13).trans (by decide +kernel)) (show cX9_needs.data.toList[30]? = some 0x0d from (LBX9_needsr_1 14).trans (by decide +kernel)) (by decide)
def LRX9_isAt_2 : List UInt8 := []
def LBX9_isAt_1 : List UInt8 := [0x00, 0x07, 0x04, 0xa7, 0x00, 0x04, 0x03, 0xac]
def LRX9_isAt_1 : List UInt8 := LBX9_isAt_1 ++ LRX9_isAt_2
def LBX9_isAt_0 : List UInt8 := [0x1c, 0x99, 0x00, 0x11, 0x2a, 0x2a, 0xb4, 0x00, 0xfe, 0x1b, 0x60, 0xb6, 0x01, 0x01, 0x1c, 0xa0]
def LRX9_isAt_0 : List UInt8 := LBX9_isAt_0 ++ LRX9_isAt_1
set_option maxRecDepth 100000 in
theorem LBX9_isAt_eq : cX9_isAt.data.toList = LRX9_isAt_0 := by decide +kernel
theorem LBX9_isAtr_0 (k : Nat) : cX9_isAt.data.toList[0 + k]? = LRX9_isAt_0[k]? := by rw [LBX9_isAt_eq, Nat.zero_add]
theorem LBX9_isAtr_1 (k : Nat) : cX9_isAt.data.toList[16 + k]? = LRX9_isAt_1[k]? := by
  have h := LBX9_isAtr_0 (16 + k)
  rw [show 0 + (16 + k) = 16 + k by omega] at h
  rw [h]
  exact (List.getElem?_append_right (l₁ := LBX9_isAt_0) (l₂ := LRX9_isAt_1) (show 16 ≤ 16 + k by omega)).trans (congrArg (fun i => LRX9_isAt_1[i]?) (show 16 + k - 16 = k by omega))
theorem dX9_isAt_0 : decode cX9_isAt 0 = .ok (.iload_n 2, 1) := dk_28_ (show cX9_isAt.data.toList[0]? = some 0x1c from (LBX9_isAtr_0 0).trans (by decide +kernel))
theorem dX9_isAt_1 : decode cX9_isAt 1 = .ok (.ifCond .eq 17, 3) := dk_153_ (show cX9_isAt.data.toList[1]? = some 0x99 from (LBX9_isAtr_0 1).trans (by decide +kernel)) (show cX9_isAt.data.toList[2]? = some 0x00 from (LBX9_isAtr_0 2).trans (by decide +kernel)) (show cX9_isAt.data.toList[3]? = some 0x11 from (LBX9_isAtr_0 3).trans (by decide +kernel)) (by decide)
theorem dX9_isAt_4 : decode cX9_isAt 4 = .ok (.aload_n 0, 1) := dk_42_ (show cX9_isAt.data.toList[4]? = some 0x2a from (LBX9_isAtr_0 4).trans (by decide +kernel))
theorem dX9_isAt_5 : decode cX9_isAt 5 = .ok (.aload_n 0, 1) := dk_42_ (show cX9_isAt.data.toList[5]? = some 0x2a from (LBX9_isAtr_0 5).trans (by decide +kernel))
theorem dX9_isAt_6 : decode cX9_isAt 6 = .ok (.getfield 254, 3) := dk_180_ (show cX9_isAt.data.toList[6]? = some 0xb4 from (LBX9_isAtr_0 6).trans (by decide +kernel)) (show cX9_isAt.data.toList[7]? = some 0x00 from (LBX9_isAtr_0 7).trans (by decide +kernel)) (show cX9_isAt.data.toList[8]? = some 0xfe from (LBX9_isAtr_0 8).trans (by decide +kernel)) (by decide)
theorem dX9_isAt_9 : decode cX9_isAt 9 = .ok (.iload_n 1, 1) := dk_27_ (show cX9_isAt.data.toList[9]? = some 0x1b from (LBX9_isAtr_0 9).trans (by decide +kernel))
theorem dX9_isAt_10 : decode cX9_isAt 10 = .ok (.iadd, 1) := dk_96_ (show cX9_isAt.data.toList[10]? = some 0x60 from (LBX9_isAtr_0 10).trans (by decide +kernel))
theorem dX9_isAt_11 : decode cX9_isAt 11 = .ok (.invokevirtual 257, 3) := dk_182_ (show cX9_isAt.data.toList[11]? = some 0xb6 from (LBX9_isAtr_0 11).trans (by decide +kernel)) (show cX9_isAt.data.toList[12]? = some 0x01 from (LBX9_isAtr_0 12).trans (by decide +kernel)) (show cX9_isAt.data.toList[13]? = some 0x01 from (LBX9_isAtr_0 13).trans (by decide +kernel)) (by decide)
theorem dX9_isAt_14 : decode cX9_isAt 14 = .ok (.iload_n 2, 1) := dk_28_ (show cX9_isAt.data.toList[14]? = some 0x1c from (LBX9_isAtr_0 14).trans (by decide +kernel))
theorem dX9_isAt_15 : decode cX9_isAt 15 = .ok (.if_icmp .ne 7, 3) := dk_160_ (show cX9_isAt.data.toList[15]? = some 0xa0 from (LBX9_isAtr_0 15).trans (by decide +kernel)) (show cX9_isAt.data.toList[16]? = some 0x00 from (LBX9_isAtr_1 0).trans (by decide +kernel)) (show cX9_isAt.data.toList[17]? = some 0x07 from (LBX9_isAtr_1 1).trans (by decide +kernel)) (by decide)
theorem dX9_isAt_18 : decode cX9_isAt 18 = .ok (.iconst 1, 1) := dk_4_ (show cX9_isAt.data.toList[18]? = some 0x04 from (LBX9_isAtr_1 2).trans (by decide +kernel))
theorem dX9_isAt_19 : decode cX9_isAt 19 = .ok (.goto 4, 3) := dk_167_ (show cX9_isAt.data.toList[19]? = some 0xa7 from (LBX9_isAtr_1 3).trans (by decide +kernel)) (show cX9_isAt.data.toList[20]? = some 0x00 from (LBX9_isAtr_1 4).trans (by decide +kernel)) (show cX9_isAt.data.toList[21]? = some 0x04 from (LBX9_isAtr_1 5).trans (by decide +kernel)) (by decide)
theorem dX9_isAt_22 : decode cX9_isAt 22 = .ok (.iconst 0, 1) := dk_3_ (show cX9_isAt.data.toList[22]? = some 0x03 from (LBX9_isAtr_1 6).trans (by decide +kernel))
theorem dX9_isAt_23 : decode cX9_isAt 23 = .ok (.ireturn, 1) := dk_172_ (show cX9_isAt.data.toList[23]? = some 0xac from (LBX9_isAtr_1 7).trans (by decide +kernel))
def LRX9_isWord_9 : List UInt8 := []
def LBX9_isWord_8 : List UInt8 := [0x10, 0x06, 0x15, 0x07, 0xb6, 0x01, 0x10, 0x99, 0x00, 0x07, 0x04, 0xa7, 0x00, 0x04, 0x03, 0xac]
def LRX9_isWord_8 : List UInt8 := LBX9_isWord_8 ++ LRX9_isWord_9
def LBX9_isWord_7 : List UInt8 := [0x01, 0x10, 0x99, 0x00, 0x1c, 0x2a, 0x08, 0x15, 0x06, 0xb6, 0x01, 0x10, 0x99, 0x00, 0x12, 0x2a]
def LRX9_isWord_7 : List UInt8 := LBX9_isWord_7 ++ LRX9_isWord_8
def LBX9_isWord_6 : List UInt8 := [0x30, 0x2a, 0x06, 0x15, 0x04, 0xb6, 0x01, 0x10, 0x99, 0x00, 0x26, 0x2a, 0x07, 0x15, 0x05, 0xb6]
def LRX9_isWord_6 : List UInt8 := LBX9_isWord_6 ++ LRX9_isWord_7
def LBX9_isWord_5 : List UInt8 := [0x04, 0x1c, 0xb6, 0x01, 0x10, 0x99, 0x00, 0x39, 0x2a, 0x05, 0x1d, 0xb6, 0x01, 0x10, 0x99, 0x00]
def LRX9_isWord_5 : List UInt8 := LBX9_isWord_5 ++ LRX9_isWord_6
def LBX9_isWord_4 : List UInt8 := [0x64, 0x15, 0x08, 0xa0, 0x00, 0x4b, 0x2a, 0x03, 0x1b, 0xb6, 0x01, 0x10, 0x99, 0x00, 0x42, 0x2a]
def LRX9_isWord_4 : List UInt8 := LBX9_isWord_4 ++ LRX9_isWord_5
def LBX9_isWord_3 : List UInt8 := [0x08, 0x2a, 0xb4, 0x01, 0x0a, 0x9a, 0x00, 0x59, 0x2a, 0xb4, 0x00, 0xfb, 0x2a, 0xb4, 0x00, 0xfe]
def LRX9_isWord_3 : List UInt8 := LBX9_isWord_3 ++ LRX9_isWord_4
def LBX9_isWord_2 : List UInt8 := [0xa7, 0x00, 0x0f, 0x15, 0x07, 0x9a, 0x00, 0x08, 0x10, 0x06, 0xa7, 0x00, 0x05, 0x10, 0x07, 0x36]
def LRX9_isWord_2 : List UInt8 := LBX9_isWord_2 ++ LRX9_isWord_3
def LBX9_isWord_1 : List UInt8 := [0x21, 0x15, 0x05, 0x9a, 0x00, 0x07, 0x07, 0xa7, 0x00, 0x18, 0x15, 0x06, 0x9a, 0x00, 0x07, 0x08]
def LRX9_isWord_1 : List UInt8 := LBX9_isWord_1 ++ LRX9_isWord_2
def LBX9_isWord_0 : List UInt8 := [0x1d, 0x9a, 0x00, 0x07, 0x05, 0xa7, 0x00, 0x2a, 0x15, 0x04, 0x9a, 0x00, 0x07, 0x06, 0xa7, 0x00]
def LRX9_isWord_0 : List UInt8 := LBX9_isWord_0 ++ LRX9_isWord_1
set_option maxRecDepth 100000 in
theorem LBX9_isWord_eq : cX9_isWord.data.toList = LRX9_isWord_0 := by decide +kernel
theorem LBX9_isWordr_0 (k : Nat) : cX9_isWord.data.toList[0 + k]? = LRX9_isWord_0[k]? := by rw [LBX9_isWord_eq, Nat.zero_add]
theorem LBX9_isWordr_1 (k : Nat) : cX9_isWord.data.toList[16 + k]? = LRX9_isWord_1[k]? := by
  have h := LBX9_isWordr_0 (16 + k)
  rw [show 0 + (16 + k) = 16 + k by omega] at h
  rw [h]
  exact (List.getElem?_append_right (l₁ := LBX9_isWord_0) (l₂ := LRX9_isWord_1) (show 16 ≤ 16 + k by omega)).trans (congrArg (fun i => LRX9_isWord_1[i]?) (show 16 + k - 16 = k by omega))
theorem LBX9_isWordr_2 (k : Nat) : cX9_isWord.data.toList[32 + k]? = LRX9_isWord_2[k]? := by
  have h := LBX9_isWordr_1 (16 + k)
  rw [show 16 + (16 + k) = 32 + k by omega] at h
  rw [h]
  exact (List.getElem?_append_right (l₁ := LBX9_isWord_1) (l₂ := LRX9_isWord_2) (show 16 ≤ 16 + k by omega)).trans (congrArg (fun i => LRX9_isWord_2[i]?) (show 16 + k - 16 = k by omega))
theorem LBX9_isWordr_3 (k : Nat) : cX9_isWord.data.toList[48 + k]? = LRX9_isWord_3[k]? := by
  have h := LBX9_isWordr_2 (16 + k)
  rw [show 32 + (16 + k) = 48 + k by omega] at h
  rw [h]
  exact (List.getElem?_append_right (l₁ := LBX9_isWord_2) (l₂ := LRX9_isWord_3) (show 16 ≤ 16 + k by omega)).trans (congrArg (fun i => LRX9_isWord_3[i]?) (show 16 + k - 16 = k by omega))
theorem LBX9_isWordr_4 (k : Nat) : cX9_isWord.data.toList[64 + k]? = LRX9_isWord_4[k]? := by
  have h := LBX9_isWordr_3 (16 + k)
  rw [show 48 + (16 + k) = 64 + k by omega] at h
  rw [h]
  exact (List.getElem?_append_right (l₁ := LBX9_isWord_3) (l₂ := LRX9_isWord_4) (show 16 ≤ 16 + k by omega)).trans (congrArg (fun i => LRX9_isWord_4[i]?) (show 16 + k - 16 = k by omega))
theorem LBX9_isWordr_5 (k : Nat) : cX9_isWord.data.toList[80 + k]? = LRX9_isWord_5[k]? := by
  have h := LBX9_isWordr_4 (16 + k)
  rw [show 64 + (16 + k) = 80 + k by omega] at h
  rw [h]
  exact (List.getElem?_append_right (l₁ := LBX9_isWord_4) (l₂ := LRX9_isWord_5) (show 16 ≤ 16 + k by omega)).trans (congrArg (fun i => LRX9_isWord_5[i]?) (show 16 + k - 16 = k by omega))
theorem LBX9_isWordr_6 (k : Nat) : cX9_isWord.data.toList[96 + k]? = LRX9_isWord_6[k]? := by
  have h := LBX9_isWordr_5 (16 + k)
  rw [show 80 + (16 + k) = 96 + k by omega] at h
  rw [h]
  exact (List.getElem?_append_right (l₁ := LBX9_isWord_5) (l₂ := LRX9_isWord_6) (show 16 ≤ 16 + k by omega)).trans (congrArg (fun i => LRX9_isWord_6[i]?) (show 16 + k - 16 = k by omega))
theorem LBX9_isWordr_7 (k : Nat) : cX9_isWord.data.toList[112 + k]? = LRX9_isWord_7[k]? := by
  have h := LBX9_isWordr_6 (16 + k)
  rw [show 96 + (16 + k) = 112 + k by omega] at h
  rw [h]
  exact (List.getElem?_append_right (l₁ := LBX9_isWord_6) (l₂ := LRX9_isWord_7) (show 16 ≤ 16 + k by omega)).trans (congrArg (fun i => LRX9_isWord_7[i]?) (show 16 + k - 16 = k by omega))
theorem LBX9_isWordr_8 (k : Nat) : cX9_isWord.data.toList[128 + k]? = LRX9_isWord_8[k]? := by
  have h := LBX9_isWordr_7 (16 + k)
  rw [show 112 + (16 + k) = 128 + k by omega] at h
  rw [h]
  exact (List.getElem?_append_right (l₁ := LBX9_isWord_7) (l₂ := LRX9_isWord_8) (show 16 ≤ 16 + k by omega)).trans (congrArg (fun i => LRX9_isWord_8[i]?) (show 16 + k - 16 = k by omega))
theorem dX9_isWord_0 : decode cX9_isWord 0 = .ok (.iload_n 3, 1) := dk_29_ (show cX9_isWord.data.toList[0]? = some 0x1d from (LBX9_isWordr_0 0).trans (by decide +kernel))
theorem dX9_isWord_1 : decode cX9_isWord 1 = .ok (.ifCond .ne 7, 3) := dk_154_ (show cX9_isWord.data.toList[1]? = some 0x9a from (LBX9_isWordr_0 1).trans (by decide +kernel)) (show cX9_isWord.data.toList[2]? = some 0x00 from (LBX9_isWordr_0 2).trans (by decide +kernel)) (show cX9_isWord.data.toList[3]? = some 0x07 from (LBX9_isWordr_0 3).trans (by decide +kernel)) (by decide)
theorem dX9_isWord_4 : decode cX9_isWord 4 = .ok (.iconst 2, 1) := dk_5_ (show cX9_isWord.data.toList[4]? = some 0x05 from (LBX9_isWordr_0 4).trans (by decide +kernel))
theorem dX9_isWord_5 : decode cX9_isWord 5 = .ok (.goto 42, 3) := dk_167_ (show cX9_isWord.data.toList[5]? = some 0xa7 from (LBX9_isWordr_0 5).trans (by decide +kernel)) (show cX9_isWord.data.toList[6]? = some 0x00 from (LBX9_isWordr_0 6).trans (by decide +kernel)) (show cX9_isWord.data.toList[7]? = some 0x2a from (LBX9_isWordr_0 7).trans (by decide +kernel)) (by decide)
theorem dX9_isWord_8 : decode cX9_isWord 8 = .ok (.iload 4, 2) := dk_21_ (show cX9_isWord.data.toList[8]? = some 0x15 from (LBX9_isWordr_0 8).trans (by decide +kernel)) (show cX9_isWord.data.toList[9]? = some 0x04 from (LBX9_isWordr_0 9).trans (by decide +kernel)) (by decide)
theorem dX9_isWord_10 : decode cX9_isWord 10 = .ok (.ifCond .ne 7, 3) := dk_154_ (show cX9_isWord.data.toList[10]? = some 0x9a from (LBX9_isWordr_0 10).trans (by decide +kernel)) (show cX9_isWord.data.toList[11]? = some 0x00 from (LBX9_isWordr_0 11).trans (by decide +kernel)) (show cX9_isWord.data.toList[12]? = some 0x07 from (LBX9_isWordr_0 12).trans (by decide +kernel)) (by decide)
theorem dX9_isWord_13 : decode cX9_isWord 13 = .ok (.iconst 3, 1) := dk_6_ (show cX9_isWord.data.toList[13]? = some 0x06 from (LBX9_isWordr_0 13).trans (by decide +kernel))
theorem dX9_isWord_14 : decode cX9_isWord 14 = .ok (.goto 33, 3) := dk_167_ (show cX9_isWord.data.toList[14]? = some 0xa7 from (LBX9_isWordr_0 14).trans (by decide +kernel)) (show cX9_isWord.data.toList[15]? = some 0x00 from (LBX9_isWordr_0 15).trans (by decide +kernel)) (show cX9_isWord.data.toList[16]? = some 0x21 from (LBX9_isWordr_1 0).trans (by decide +kernel)) (by decide)
theorem dX9_isWord_17 : decode cX9_isWord 17 = .ok (.iload 5, 2) := dk_21_ (show cX9_isWord.data.toList[17]? = some 0x15 from (LBX9_isWordr_1 1).trans (by decide +kernel)) (show cX9_isWord.data.toList[18]? = some 0x05 from (LBX9_isWordr_1 2).trans (by decide +kernel)) (by decide)
theorem dX9_isWord_19 : decode cX9_isWord 19 = .ok (.ifCond .ne 7, 3) := dk_154_ (show cX9_isWord.data.toList[19]? = some 0x9a from (LBX9_isWordr_1 3).trans (by decide +kernel)) (show cX9_isWord.data.toList[20]? = some 0x00 from (LBX9_isWordr_1 4).trans (by decide +kernel)) (show cX9_isWord.data.toList[21]? = some 0x07 from (LBX9_isWordr_1 5).trans (by decide +kernel)) (by decide)
theorem dX9_isWord_22 : decode cX9_isWord 22 = .ok (.iconst 4, 1) := dk_7_ (show cX9_isWord.data.toList[22]? = some 0x07 from (LBX9_isWordr_1 6).trans (by decide +kernel))
theorem dX9_isWord_23 : decode cX9_isWord 23 = .ok (.goto 24, 3) := dk_167_ (show cX9_isWord.data.toList[23]? = some 0xa7 from (LBX9_isWordr_1 7).trans (by decide +kernel)) (show cX9_isWord.data.toList[24]? = some 0x00 from (LBX9_isWordr_1 8).trans (by decide +kernel)) (show cX9_isWord.data.toList[25]? = some 0x18 from (LBX9_isWordr_1 9).trans (by decide +kernel)) (by decide)
theorem dX9_isWord_26 : decode cX9_isWord 26 = .ok (.iload 6, 2) := dk_21_ (show cX9_isWord.data.toList[26]? = some 0x15 from (LBX9_isWordr_1 10).trans (by decide +kernel)) (show cX9_isWord.data.toList[27]? = some 0x06 from (LBX9_isWordr_1 11).trans (by decide +kernel)) (by decide)
theorem dX9_isWord_28 : decode cX9_isWord 28 = .ok (.ifCond .ne 7, 3) := dk_154_ (show cX9_isWord.data.toList[28]? = some 0x9a from (LBX9_isWordr_1 12).trans (by decide +kernel)) (show cX9_isWord.data.toList[29]? = some 0x00 from (LBX9_isWordr_1 13).trans (by decide +kernel)) (show cX9_isWord.data.toList[30]? = some 0x07 from (LBX9_isWordr_1 14).trans (by decide +kernel)) (by decide)
theorem dX9_isWord_31 : decode cX9_isWord 31 = .ok (.iconst 5, 1) := dk_8_ (show cX9_isWord.data.toList[31]? = some 0x08 from (LBX9_isWordr_1 15).trans (by decide +kernel))
theorem dX9_isWord_32 : decode cX9_isWord 32 = .ok (.goto 15, 3) := dk_167_ (show cX9_isWord.data.toList[32]? = some 0xa7 from (LBX9_isWordr_2 0).trans (by decide +kernel)) (show cX9_isWord.data.toList[33]? = some 0x00 from (LBX9_isWordr_2 1).trans (by decide +kernel)) (show cX9_isWord.data.toList[34]? = some 0x0f from (LBX9_isWordr_2 2).trans (by decide +kernel)) (by decide)
theorem dX9_isWord_35 : decode cX9_isWord 35 = .ok (.iload 7, 2) := dk_21_ (show cX9_isWord.data.toList[35]? = some 0x15 from (LBX9_isWordr_2 3).trans (by decide +kernel)) (show cX9_isWord.data.toList[36]? = some 0x07 from (LBX9_isWordr_2 4).trans (by decide +kernel)) (by decide)
theorem dX9_isWord_37 : decode cX9_isWord 37 = .ok (.ifCond .ne 8, 3) := dk_154_ (show cX9_isWord.data.toList[37]? = some 0x9a from (LBX9_isWordr_2 5).trans (by decide +kernel)) (show cX9_isWord.data.toList[38]? = some 0x00 from (LBX9_isWordr_2 6).trans (by decide +kernel)) (show cX9_isWord.data.toList[39]? = some 0x08 from (LBX9_isWordr_2 7).trans (by decide +kernel)) (by decide)
theorem dX9_isWord_40 : decode cX9_isWord 40 = .ok (.bipush 6, 2) := dk_16_ (show cX9_isWord.data.toList[40]? = some 0x10 from (LBX9_isWordr_2 8).trans (by decide +kernel)) (show cX9_isWord.data.toList[41]? = some 0x06 from (LBX9_isWordr_2 9).trans (by decide +kernel)) (by decide)
theorem dX9_isWord_42 : decode cX9_isWord 42 = .ok (.goto 5, 3) := dk_167_ (show cX9_isWord.data.toList[42]? = some 0xa7 from (LBX9_isWordr_2 10).trans (by decide +kernel)) (show cX9_isWord.data.toList[43]? = some 0x00 from (LBX9_isWordr_2 11).trans (by decide +kernel)) (show cX9_isWord.data.toList[44]? = some 0x05 from (LBX9_isWordr_2 12).trans (by decide +kernel)) (by decide)
theorem dX9_isWord_45 : decode cX9_isWord 45 = .ok (.bipush 7, 2) := dk_16_ (show cX9_isWord.data.toList[45]? = some 0x10 from (LBX9_isWordr_2 13).trans (by decide +kernel)) (show cX9_isWord.data.toList[46]? = some 0x07 from (LBX9_isWordr_2 14).trans (by decide +kernel)) (by decide)
theorem dX9_isWord_47 : decode cX9_isWord 47 = .ok (.istore 8, 2) := dk_54_ (show cX9_isWord.data.toList[47]? = some 0x36 from (LBX9_isWordr_2 15).trans (by decide +kernel)) (show cX9_isWord.data.toList[48]? = some 0x08 from (LBX9_isWordr_3 0).trans (by decide +kernel)) (by decide)
theorem dX9_isWord_49 : decode cX9_isWord 49 = .ok (.aload_n 0, 1) := dk_42_ (show cX9_isWord.data.toList[49]? = some 0x2a from (LBX9_isWordr_3 1).trans (by decide +kernel))
theorem dX9_isWord_50 : decode cX9_isWord 50 = .ok (.getfield 266, 3) := dk_180_ (show cX9_isWord.data.toList[50]? = some 0xb4 from (LBX9_isWordr_3 2).trans (by decide +kernel)) (show cX9_isWord.data.toList[51]? = some 0x01 from (LBX9_isWordr_3 3).trans (by decide +kernel)) (show cX9_isWord.data.toList[52]? = some 0x0a from (LBX9_isWordr_3 4).trans (by decide +kernel)) (by decide)
theorem dX9_isWord_53 : decode cX9_isWord 53 = .ok (.ifCond .ne 89, 3) := dk_154_ (show cX9_isWord.data.toList[53]? = some 0x9a from (LBX9_isWordr_3 5).trans (by decide +kernel)) (show cX9_isWord.data.toList[54]? = some 0x00 from (LBX9_isWordr_3 6).trans (by decide +kernel)) (show cX9_isWord.data.toList[55]? = some 0x59 from (LBX9_isWordr_3 7).trans (by decide +kernel)) (by decide)
theorem dX9_isWord_142 : decode cX9_isWord 142 = .ok (.iconst 0, 1) := dk_3_ (show cX9_isWord.data.toList[142]? = some 0x03 from (LBX9_isWordr_8 14).trans (by decide +kernel))
theorem dX9_isWord_143 : decode cX9_isWord 143 = .ok (.ireturn, 1) := dk_172_ (show cX9_isWord.data.toList[143]? = some 0xac from (LBX9_isWordr_8 15).trans (by decide +kernel))
theorem dX9_isWord_56 : decode cX9_isWord 56 = .ok (.aload_n 0, 1) := dk_42_ (show cX9_isWord.data.toList[56]? = some 0x2a from (LBX9_isWordr_3 8).trans (by decide +kernel))
theorem dX9_isWord_57 : decode cX9_isWord 57 = .ok (.getfield 251, 3) := dk_180_ (show cX9_isWord.data.toList[57]? = some 0xb4 from (LBX9_isWordr_3 9).trans (by decide +kernel)) (show cX9_isWord.data.toList[58]? = some 0x00 from (LBX9_isWordr_3 10).trans (by decide +kernel)) (show cX9_isWord.data.toList[59]? = some 0xfb from (LBX9_isWordr_3 11).trans (by decide +kernel)) (by decide)
theorem dX9_isWord_60 : decode cX9_isWord 60 = .ok (.aload_n 0, 1) := dk_42_ (show cX9_isWord.data.toList[60]? = some 0x2a from (LBX9_isWordr_3 12).trans (by decide +kernel))
theorem dX9_isWord_61 : decode cX9_isWord 61 = .ok (.getfield 254, 3) := dk_180_ (show cX9_isWord.data.toList[61]? = some 0xb4 from (LBX9_isWordr_3 13).trans (by decide +kernel)) (show cX9_isWord.data.toList[62]? = some 0x00 from (LBX9_isWordr_3 14).trans (by decide +kernel)) (show cX9_isWord.data.toList[63]? = some 0xfe from (LBX9_isWordr_3 15).trans (by decide +kernel)) (by decide)
theorem dX9_isWord_64 : decode cX9_isWord 64 = .ok (.isub, 1) := dk_100_ (show cX9_isWord.data.toList[64]? = some 0x64 from (LBX9_isWordr_4 0).trans (by decide +kernel))
theorem dX9_isWord_65 : decode cX9_isWord 65 = .ok (.iload 8, 2) := dk_21_ (show cX9_isWord.data.toList[65]? = some 0x15 from (LBX9_isWordr_4 1).trans (by decide +kernel)) (show cX9_isWord.data.toList[66]? = some 0x08 from (LBX9_isWordr_4 2).trans (by decide +kernel)) (by decide)
theorem dX9_isWord_67 : decode cX9_isWord 67 = .ok (.if_icmp .ne 75, 3) := dk_160_ (show cX9_isWord.data.toList[67]? = some 0xa0 from (LBX9_isWordr_4 3).trans (by decide +kernel)) (show cX9_isWord.data.toList[68]? = some 0x00 from (LBX9_isWordr_4 4).trans (by decide +kernel)) (show cX9_isWord.data.toList[69]? = some 0x4b from (LBX9_isWordr_4 5).trans (by decide +kernel)) (by decide)
theorem dX9_isWord_70 : decode cX9_isWord 70 = .ok (.aload_n 0, 1) := dk_42_ (show cX9_isWord.data.toList[70]? = some 0x2a from (LBX9_isWordr_4 6).trans (by decide +kernel))
theorem dX9_isWord_71 : decode cX9_isWord 71 = .ok (.iconst 0, 1) := dk_3_ (show cX9_isWord.data.toList[71]? = some 0x03 from (LBX9_isWordr_4 7).trans (by decide +kernel))
theorem dX9_isWord_72 : decode cX9_isWord 72 = .ok (.iload_n 1, 1) := dk_27_ (show cX9_isWord.data.toList[72]? = some 0x1b from (LBX9_isWordr_4 8).trans (by decide +kernel))
theorem dX9_isWord_73 : decode cX9_isWord 73 = .ok (.invokevirtual 272, 3) := dk_182_ (show cX9_isWord.data.toList[73]? = some 0xb6 from (LBX9_isWordr_4 9).trans (by decide +kernel)) (show cX9_isWord.data.toList[74]? = some 0x01 from (LBX9_isWordr_4 10).trans (by decide +kernel)) (show cX9_isWord.data.toList[75]? = some 0x10 from (LBX9_isWordr_4 11).trans (by decide +kernel)) (by decide)
theorem dX9_isWord_76 : decode cX9_isWord 76 = .ok (.ifCond .eq 66, 3) := dk_153_ (show cX9_isWord.data.toList[76]? = some 0x99 from (LBX9_isWordr_4 12).trans (by decide +kernel)) (show cX9_isWord.data.toList[77]? = some 0x00 from (LBX9_isWordr_4 13).trans (by decide +kernel)) (show cX9_isWord.data.toList[78]? = some 0x42 from (LBX9_isWordr_4 14).trans (by decide +kernel)) (by decide)
theorem dX9_isWord_79 : decode cX9_isWord 79 = .ok (.aload_n 0, 1) := dk_42_ (show cX9_isWord.data.toList[79]? = some 0x2a from (LBX9_isWordr_4 15).trans (by decide +kernel))
theorem dX9_isWord_80 : decode cX9_isWord 80 = .ok (.iconst 1, 1) := dk_4_ (show cX9_isWord.data.toList[80]? = some 0x04 from (LBX9_isWordr_5 0).trans (by decide +kernel))
theorem dX9_isWord_81 : decode cX9_isWord 81 = .ok (.iload_n 2, 1) := dk_28_ (show cX9_isWord.data.toList[81]? = some 0x1c from (LBX9_isWordr_5 1).trans (by decide +kernel))
theorem dX9_isWord_82 : decode cX9_isWord 82 = .ok (.invokevirtual 272, 3) := dk_182_ (show cX9_isWord.data.toList[82]? = some 0xb6 from (LBX9_isWordr_5 2).trans (by decide +kernel)) (show cX9_isWord.data.toList[83]? = some 0x01 from (LBX9_isWordr_5 3).trans (by decide +kernel)) (show cX9_isWord.data.toList[84]? = some 0x10 from (LBX9_isWordr_5 4).trans (by decide +kernel)) (by decide)
theorem dX9_isWord_85 : decode cX9_isWord 85 = .ok (.ifCond .eq 57, 3) := dk_153_ (show cX9_isWord.data.toList[85]? = some 0x99 from (LBX9_isWordr_5 5).trans (by decide +kernel)) (show cX9_isWord.data.toList[86]? = some 0x00 from (LBX9_isWordr_5 6).trans (by decide +kernel)) (show cX9_isWord.data.toList[87]? = some 0x39 from (LBX9_isWordr_5 7).trans (by decide +kernel)) (by decide)
theorem dX9_isWord_88 : decode cX9_isWord 88 = .ok (.aload_n 0, 1) := dk_42_ (show cX9_isWord.data.toList[88]? = some 0x2a from (LBX9_isWordr_5 8).trans (by decide +kernel))
theorem dX9_isWord_89 : decode cX9_isWord 89 = .ok (.iconst 2, 1) := dk_5_ (show cX9_isWord.data.toList[89]? = some 0x05 from (LBX9_isWordr_5 9).trans (by decide +kernel))
theorem dX9_isWord_90 : decode cX9_isWord 90 = .ok (.iload_n 3, 1) := dk_29_ (show cX9_isWord.data.toList[90]? = some 0x1d from (LBX9_isWordr_5 10).trans (by decide +kernel))
theorem dX9_isWord_91 : decode cX9_isWord 91 = .ok (.invokevirtual 272, 3) := dk_182_ (show cX9_isWord.data.toList[91]? = some 0xb6 from (LBX9_isWordr_5 11).trans (by decide +kernel)) (show cX9_isWord.data.toList[92]? = some 0x01 from (LBX9_isWordr_5 12).trans (by decide +kernel)) (show cX9_isWord.data.toList[93]? = some 0x10 from (LBX9_isWordr_5 13).trans (by decide +kernel)) (by decide)
theorem dX9_isWord_94 : decode cX9_isWord 94 = .ok (.ifCond .eq 48, 3) := dk_153_ (show cX9_isWord.data.toList[94]? = some 0x99 from (LBX9_isWordr_5 14).trans (by decide +kernel)) (show cX9_isWord.data.toList[95]? = some 0x00 from (LBX9_isWordr_5 15).trans (by decide +kernel)) (show cX9_isWord.data.toList[96]? = some 0x30 from (LBX9_isWordr_6 0).trans (by decide +kernel)) (by decide)
theorem dX9_isWord_97 : decode cX9_isWord 97 = .ok (.aload_n 0, 1) := dk_42_ (show cX9_isWord.data.toList[97]? = some 0x2a from (LBX9_isWordr_6 1).trans (by decide +kernel))
theorem dX9_isWord_98 : decode cX9_isWord 98 = .ok (.iconst 3, 1) := dk_6_ (show cX9_isWord.data.toList[98]? = some 0x06 from (LBX9_isWordr_6 2).trans (by decide +kernel))
theorem dX9_isWord_99 : decode cX9_isWord 99 = .ok (.iload 4, 2) := dk_21_ (show cX9_isWord.data.toList[99]? = some 0x15 from (LBX9_isWordr_6 3).trans (by decide +kernel)) (show cX9_isWord.data.toList[100]? = some 0x04 from (LBX9_isWordr_6 4).trans (by decide +kernel)) (by decide)
theorem dX9_isWord_101 : decode cX9_isWord 101 = .ok (.invokevirtual 272, 3) := dk_182_ (show cX9_isWord.data.toList[101]? = some 0xb6 from (LBX9_isWordr_6 5).trans (by decide +kernel)) (show cX9_isWord.data.toList[102]? = some 0x01 from (LBX9_isWordr_6 6).trans (by decide +kernel)) (show cX9_isWord.data.toList[103]? = some 0x10 from (LBX9_isWordr_6 7).trans (by decide +kernel)) (by decide)
theorem dX9_isWord_104 : decode cX9_isWord 104 = .ok (.ifCond .eq 38, 3) := dk_153_ (show cX9_isWord.data.toList[104]? = some 0x99 from (LBX9_isWordr_6 8).trans (by decide +kernel)) (show cX9_isWord.data.toList[105]? = some 0x00 from (LBX9_isWordr_6 9).trans (by decide +kernel)) (show cX9_isWord.data.toList[106]? = some 0x26 from (LBX9_isWordr_6 10).trans (by decide +kernel)) (by decide)
theorem dX9_isWord_107 : decode cX9_isWord 107 = .ok (.aload_n 0, 1) := dk_42_ (show cX9_isWord.data.toList[107]? = some 0x2a from (LBX9_isWordr_6 11).trans (by decide +kernel))
theorem dX9_isWord_108 : decode cX9_isWord 108 = .ok (.iconst 4, 1) := dk_7_ (show cX9_isWord.data.toList[108]? = some 0x07 from (LBX9_isWordr_6 12).trans (by decide +kernel))
theorem dX9_isWord_109 : decode cX9_isWord 109 = .ok (.iload 5, 2) := dk_21_ (show cX9_isWord.data.toList[109]? = some 0x15 from (LBX9_isWordr_6 13).trans (by decide +kernel)) (show cX9_isWord.data.toList[110]? = some 0x05 from (LBX9_isWordr_6 14).trans (by decide +kernel)) (by decide)
theorem dX9_isWord_111 : decode cX9_isWord 111 = .ok (.invokevirtual 272, 3) := dk_182_ (show cX9_isWord.data.toList[111]? = some 0xb6 from (LBX9_isWordr_6 15).trans (by decide +kernel)) (show cX9_isWord.data.toList[112]? = some 0x01 from (LBX9_isWordr_7 0).trans (by decide +kernel)) (show cX9_isWord.data.toList[113]? = some 0x10 from (LBX9_isWordr_7 1).trans (by decide +kernel)) (by decide)
theorem dX9_isWord_114 : decode cX9_isWord 114 = .ok (.ifCond .eq 28, 3) := dk_153_ (show cX9_isWord.data.toList[114]? = some 0x99 from (LBX9_isWordr_7 2).trans (by decide +kernel)) (show cX9_isWord.data.toList[115]? = some 0x00 from (LBX9_isWordr_7 3).trans (by decide +kernel)) (show cX9_isWord.data.toList[116]? = some 0x1c from (LBX9_isWordr_7 4).trans (by decide +kernel)) (by decide)
theorem dX9_isWord_117 : decode cX9_isWord 117 = .ok (.aload_n 0, 1) := dk_42_ (show cX9_isWord.data.toList[117]? = some 0x2a from (LBX9_isWordr_7 5).trans (by decide +kernel))
theorem dX9_isWord_118 : decode cX9_isWord 118 = .ok (.iconst 5, 1) := dk_8_ (show cX9_isWord.data.toList[118]? = some 0x08 from (LBX9_isWordr_7 6).trans (by decide +kernel))
theorem dX9_isWord_119 : decode cX9_isWord 119 = .ok (.iload 6, 2) := dk_21_ (show cX9_isWord.data.toList[119]? = some 0x15 from (LBX9_isWordr_7 7).trans (by decide +kernel)) (show cX9_isWord.data.toList[120]? = some 0x06 from (LBX9_isWordr_7 8).trans (by decide +kernel)) (by decide)
theorem dX9_isWord_121 : decode cX9_isWord 121 = .ok (.invokevirtual 272, 3) := dk_182_ (show cX9_isWord.data.toList[121]? = some 0xb6 from (LBX9_isWordr_7 9).trans (by decide +kernel)) (show cX9_isWord.data.toList[122]? = some 0x01 from (LBX9_isWordr_7 10).trans (by decide +kernel)) (show cX9_isWord.data.toList[123]? = some 0x10 from (LBX9_isWordr_7 11).trans (by decide +kernel)) (by decide)
theorem dX9_isWord_124 : decode cX9_isWord 124 = .ok (.ifCond .eq 18, 3) := dk_153_ (show cX9_isWord.data.toList[124]? = some 0x99 from (LBX9_isWordr_7 12).trans (by decide +kernel)) (show cX9_isWord.data.toList[125]? = some 0x00 from (LBX9_isWordr_7 13).trans (by decide +kernel)) (show cX9_isWord.data.toList[126]? = some 0x12 from (LBX9_isWordr_7 14).trans (by decide +kernel)) (by decide)
theorem dX9_isWord_127 : decode cX9_isWord 127 = .ok (.aload_n 0, 1) := dk_42_ (show cX9_isWord.data.toList[127]? = some 0x2a from (LBX9_isWordr_7 15).trans (by decide +kernel))
theorem dX9_isWord_128 : decode cX9_isWord 128 = .ok (.bipush 6, 2) := dk_16_ (show cX9_isWord.data.toList[128]? = some 0x10 from (LBX9_isWordr_8 0).trans (by decide +kernel)) (show cX9_isWord.data.toList[129]? = some 0x06 from (LBX9_isWordr_8 1).trans (by decide +kernel)) (by decide)
theorem dX9_isWord_130 : decode cX9_isWord 130 = .ok (.iload 7, 2) := dk_21_ (show cX9_isWord.data.toList[130]? = some 0x15 from (LBX9_isWordr_8 2).trans (by decide +kernel)) (show cX9_isWord.data.toList[131]? = some 0x07 from (LBX9_isWordr_8 3).trans (by decide +kernel)) (by decide)
theorem dX9_isWord_132 : decode cX9_isWord 132 = .ok (.invokevirtual 272, 3) := dk_182_ (show cX9_isWord.data.toList[132]? = some 0xb6 from (LBX9_isWordr_8 4).trans (by decide +kernel)) (show cX9_isWord.data.toList[133]? = some 0x01 from (LBX9_isWordr_8 5).trans (by decide +kernel)) (show cX9_isWord.data.toList[134]? = some 0x10 from (LBX9_isWordr_8 6).trans (by decide +kernel)) (by decide)
theorem dX9_isWord_135 : decode cX9_isWord 135 = .ok (.ifCond .eq 7, 3) := dk_153_ (show cX9_isWord.data.toList[135]? = some 0x99 from (LBX9_isWordr_8 7).trans (by decide +kernel)) (show cX9_isWord.data.toList[136]? = some 0x00 from (LBX9_isWordr_8 8).trans (by decide +kernel)) (show cX9_isWord.data.toList[137]? = some 0x07 from (LBX9_isWordr_8 9).trans (by decide +kernel)) (by decide)
theorem dX9_isWord_138 : decode cX9_isWord 138 = .ok (.iconst 1, 1) := dk_4_ (show cX9_isWord.data.toList[138]? = some 0x04 from (LBX9_isWordr_8 10).trans (by decide +kernel))
theorem dX9_isWord_139 : decode cX9_isWord 139 = .ok (.goto 4, 3) := dk_167_ (show cX9_isWord.data.toList[139]? = some 0xa7 from (LBX9_isWordr_8 11).trans (by decide +kernel)) (show cX9_isWord.data.toList[140]? = some 0x00 from (LBX9_isWordr_8 12).trans (by decide +kernel)) (show cX9_isWord.data.toList[141]? = some 0x04 from (LBX9_isWordr_8 13).trans (by decide +kernel)) (by decide)
def LRX9_number_7 : List UInt8 := []
def LBX9_number_6 : List UInt8 := [0x85, 0xb8, 0x00, 0x39, 0x99, 0x00, 0x07, 0x04, 0xa7, 0x00, 0x04, 0x03, 0xb6, 0x01, 0x16, 0xb1]
def LRX9_number_6 : List UInt8 := LBX9_number_6 ++ LRX9_number_7
def LBX9_number_5 : List UInt8 := [0x15, 0x04, 0xb5, 0x01, 0x13, 0x2a, 0x1d, 0x99, 0x00, 0x14, 0x15, 0x04, 0x85, 0x1b, 0x85, 0x1c]
def LRX9_number_5 : List UInt8 := LBX9_number_5 ++ LRX9_number_6
def LBX9_number_4 : List UInt8 := [0x15, 0x05, 0x2e, 0x60, 0x10, 0x30, 0x64, 0x36, 0x04, 0x84, 0x05, 0x01, 0xa7, 0xff, 0xd1, 0x2a]
def LRX9_number_4 : List UInt8 := LBX9_number_4 ++ LRX9_number_5
def LBX9_number_3 : List UInt8 := [0x00, 0x08, 0x15, 0x04, 0xa7, 0x00, 0x13, 0x10, 0x0a, 0x15, 0x04, 0x68, 0x2a, 0xb4, 0x00, 0x25]
def LRX9_number_3 : List UInt8 := LBX9_number_3 ++ LRX9_number_4
def LBX9_number_2 : List UInt8 := [0xb4, 0x00, 0xfb, 0xa2, 0x00, 0x2c, 0x1d, 0x99, 0x00, 0x28, 0x15, 0x04, 0x11, 0x27, 0x0f, 0xa4]
def LRX9_number_2 : List UInt8 := LBX9_number_2 ++ LRX9_number_3
def LBX9_number_1 : List UInt8 := [0xb8, 0x01, 0x07, 0x3e, 0x03, 0x36, 0x04, 0x2a, 0xb4, 0x00, 0xfe, 0x36, 0x05, 0x15, 0x05, 0x2a]
def LRX9_number_1 : List UInt8 := LBX9_number_1 ++ LRX9_number_2
def LBX9_number_0 : List UInt8 := [0x2a, 0xb4, 0x01, 0x0a, 0x99, 0x00, 0x04, 0xb1, 0x2a, 0x2a, 0xb4, 0x00, 0xfe, 0xb6, 0x01, 0x01]
def LRX9_number_0 : List UInt8 := LBX9_number_0 ++ LRX9_number_1
set_option maxRecDepth 100000 in
theorem LBX9_number_eq : cX9_number.data.toList = LRX9_number_0 := by decide +kernel
theorem LBX9_numberr_0 (k : Nat) : cX9_number.data.toList[0 + k]? = LRX9_number_0[k]? := by rw [LBX9_number_eq, Nat.zero_add]
theorem LBX9_numberr_1 (k : Nat) : cX9_number.data.toList[16 + k]? = LRX9_number_1[k]? := by
  have h := LBX9_numberr_0 (16 + k)
  rw [show 0 + (16 + k) = 16 + k by omega] at h
  rw [h]
  exact (List.getElem?_append_right (l₁ := LBX9_number_0) (l₂ := LRX9_number_1) (show 16 ≤ 16 + k by omega)).trans (congrArg (fun i => LRX9_number_1[i]?) (show 16 + k - 16 = k by omega))
theorem LBX9_numberr_2 (k : Nat) : cX9_number.data.toList[32 + k]? = LRX9_number_2[k]? := by
  have h := LBX9_numberr_1 (16 + k)
  rw [show 16 + (16 + k) = 32 + k by omega] at h
  rw [h]
  exact (List.getElem?_append_right (l₁ := LBX9_number_1) (l₂ := LRX9_number_2) (show 16 ≤ 16 + k by omega)).trans (congrArg (fun i => LRX9_number_2[i]?) (show 16 + k - 16 = k by omega))
theorem LBX9_numberr_3 (k : Nat) : cX9_number.data.toList[48 + k]? = LRX9_number_3[k]? := by
  have h := LBX9_numberr_2 (16 + k)
  rw [show 32 + (16 + k) = 48 + k by omega] at h
  rw [h]
  exact (List.getElem?_append_right (l₁ := LBX9_number_2) (l₂ := LRX9_number_3) (show 16 ≤ 16 + k by omega)).trans (congrArg (fun i => LRX9_number_3[i]?) (show 16 + k - 16 = k by omega))
theorem LBX9_numberr_4 (k : Nat) : cX9_number.data.toList[64 + k]? = LRX9_number_4[k]? := by
  have h := LBX9_numberr_3 (16 + k)
  rw [show 48 + (16 + k) = 64 + k by omega] at h
  rw [h]
  exact (List.getElem?_append_right (l₁ := LBX9_number_3) (l₂ := LRX9_number_4) (show 16 ≤ 16 + k by omega)).trans (congrArg (fun i => LRX9_number_4[i]?) (show 16 + k - 16 = k by omega))
theorem LBX9_numberr_5 (k : Nat) : cX9_number.data.toList[80 + k]? = LRX9_number_5[k]? := by
  have h := LBX9_numberr_4 (16 + k)
  rw [show 64 + (16 + k) = 80 + k by omega] at h
  rw [h]
  exact (List.getElem?_append_right (l₁ := LBX9_number_4) (l₂ := LRX9_number_5) (show 16 ≤ 16 + k by omega)).trans (congrArg (fun i => LRX9_number_5[i]?) (show 16 + k - 16 = k by omega))
theorem LBX9_numberr_6 (k : Nat) : cX9_number.data.toList[96 + k]? = LRX9_number_6[k]? := by
  have h := LBX9_numberr_5 (16 + k)
  rw [show 80 + (16 + k) = 96 + k by omega] at h
  rw [h]
  exact (List.getElem?_append_right (l₁ := LBX9_number_5) (l₂ := LRX9_number_6) (show 16 ≤ 16 + k by omega)).trans (congrArg (fun i => LRX9_number_6[i]?) (show 16 + k - 16 = k by omega))
theorem dX9_number_0 : decode cX9_number 0 = .ok (.aload_n 0, 1) := dk_42_ (show cX9_number.data.toList[0]? = some 0x2a from (LBX9_numberr_0 0).trans (by decide +kernel))
theorem dX9_number_1 : decode cX9_number 1 = .ok (.getfield 266, 3) := dk_180_ (show cX9_number.data.toList[1]? = some 0xb4 from (LBX9_numberr_0 1).trans (by decide +kernel)) (show cX9_number.data.toList[2]? = some 0x01 from (LBX9_numberr_0 2).trans (by decide +kernel)) (show cX9_number.data.toList[3]? = some 0x0a from (LBX9_numberr_0 3).trans (by decide +kernel)) (by decide)
theorem dX9_number_4 : decode cX9_number 4 = .ok (.ifCond .eq 4, 3) := dk_153_ (show cX9_number.data.toList[4]? = some 0x99 from (LBX9_numberr_0 4).trans (by decide +kernel)) (show cX9_number.data.toList[5]? = some 0x00 from (LBX9_numberr_0 5).trans (by decide +kernel)) (show cX9_number.data.toList[6]? = some 0x04 from (LBX9_numberr_0 6).trans (by decide +kernel)) (by decide)
theorem dX9_number_7 : decode cX9_number 7 = .ok (.return_, 1) := dk_177_ (show cX9_number.data.toList[7]? = some 0xb1 from (LBX9_numberr_0 7).trans (by decide +kernel))
theorem dX9_number_8 : decode cX9_number 8 = .ok (.aload_n 0, 1) := dk_42_ (show cX9_number.data.toList[8]? = some 0x2a from (LBX9_numberr_0 8).trans (by decide +kernel))
theorem dX9_number_9 : decode cX9_number 9 = .ok (.aload_n 0, 1) := dk_42_ (show cX9_number.data.toList[9]? = some 0x2a from (LBX9_numberr_0 9).trans (by decide +kernel))
theorem dX9_number_10 : decode cX9_number 10 = .ok (.getfield 254, 3) := dk_180_ (show cX9_number.data.toList[10]? = some 0xb4 from (LBX9_numberr_0 10).trans (by decide +kernel)) (show cX9_number.data.toList[11]? = some 0x00 from (LBX9_numberr_0 11).trans (by decide +kernel)) (show cX9_number.data.toList[12]? = some 0xfe from (LBX9_numberr_0 12).trans (by decide +kernel)) (by decide)
theorem dX9_number_13 : decode cX9_number 13 = .ok (.invokevirtual 257, 3) := dk_182_ (show cX9_number.data.toList[13]? = some 0xb6 from (LBX9_numberr_0 13).trans (by decide +kernel)) (show cX9_number.data.toList[14]? = some 0x01 from (LBX9_numberr_0 14).trans (by decide +kernel)) (show cX9_number.data.toList[15]? = some 0x01 from (LBX9_numberr_0 15).trans (by decide +kernel)) (by decide)
theorem dX9_number_16 : decode cX9_number 16 = .ok (.invokestatic 263, 3) := dk_184_ (show cX9_number.data.toList[16]? = some 0xb8 from (LBX9_numberr_1 0).trans (by decide +kernel)) (show cX9_number.data.toList[17]? = some 0x01 from (LBX9_numberr_1 1).trans (by decide +kernel)) (show cX9_number.data.toList[18]? = some 0x07 from (LBX9_numberr_1 2).trans (by decide +kernel)) (by decide)
theorem dX9_number_19 : decode cX9_number 19 = .ok (.istore_n 3, 1) := dk_62_ (show cX9_number.data.toList[19]? = some 0x3e from (LBX9_numberr_1 3).trans (by decide +kernel))
theorem dX9_number_20 : decode cX9_number 20 = .ok (.iconst 0, 1) := dk_3_ (show cX9_number.data.toList[20]? = some 0x03 from (LBX9_numberr_1 4).trans (by decide +kernel))
theorem dX9_number_21 : decode cX9_number 21 = .ok (.istore 4, 2) := dk_54_ (show cX9_number.data.toList[21]? = some 0x36 from (LBX9_numberr_1 5).trans (by decide +kernel)) (show cX9_number.data.toList[22]? = some 0x04 from (LBX9_numberr_1 6).trans (by decide +kernel)) (by decide)
theorem dX9_number_23 : decode cX9_number 23 = .ok (.aload_n 0, 1) := dk_42_ (show cX9_number.data.toList[23]? = some 0x2a from (LBX9_numberr_1 7).trans (by decide +kernel))
theorem dX9_number_24 : decode cX9_number 24 = .ok (.getfield 254, 3) := dk_180_ (show cX9_number.data.toList[24]? = some 0xb4 from (LBX9_numberr_1 8).trans (by decide +kernel)) (show cX9_number.data.toList[25]? = some 0x00 from (LBX9_numberr_1 9).trans (by decide +kernel)) (show cX9_number.data.toList[26]? = some 0xfe from (LBX9_numberr_1 10).trans (by decide +kernel)) (by decide)
theorem dX9_number_27 : decode cX9_number 27 = .ok (.istore 5, 2) := dk_54_ (show cX9_number.data.toList[27]? = some 0x36 from (LBX9_numberr_1 11).trans (by decide +kernel)) (show cX9_number.data.toList[28]? = some 0x05 from (LBX9_numberr_1 12).trans (by decide +kernel)) (by decide)
theorem dX9_number_29 : decode cX9_number 29 = .ok (.iload 5, 2) := dk_21_ (show cX9_number.data.toList[29]? = some 0x15 from (LBX9_numberr_1 13).trans (by decide +kernel)) (show cX9_number.data.toList[30]? = some 0x05 from (LBX9_numberr_1 14).trans (by decide +kernel)) (by decide)
theorem dX9_number_31 : decode cX9_number 31 = .ok (.aload_n 0, 1) := dk_42_ (show cX9_number.data.toList[31]? = some 0x2a from (LBX9_numberr_1 15).trans (by decide +kernel))
theorem dX9_number_32 : decode cX9_number 32 = .ok (.getfield 251, 3) := dk_180_ (show cX9_number.data.toList[32]? = some 0xb4 from (LBX9_numberr_2 0).trans (by decide +kernel)) (show cX9_number.data.toList[33]? = some 0x00 from (LBX9_numberr_2 1).trans (by decide +kernel)) (show cX9_number.data.toList[34]? = some 0xfb from (LBX9_numberr_2 2).trans (by decide +kernel)) (by decide)
theorem dX9_number_35 : decode cX9_number 35 = .ok (.if_icmp .ge 44, 3) := dk_162_ (show cX9_number.data.toList[35]? = some 0xa2 from (LBX9_numberr_2 3).trans (by decide +kernel)) (show cX9_number.data.toList[36]? = some 0x00 from (LBX9_numberr_2 4).trans (by decide +kernel)) (show cX9_number.data.toList[37]? = some 0x2c from (LBX9_numberr_2 5).trans (by decide +kernel)) (by decide)
theorem dX9_number_38 : decode cX9_number 38 = .ok (.iload_n 3, 1) := dk_29_ (show cX9_number.data.toList[38]? = some 0x1d from (LBX9_numberr_2 6).trans (by decide +kernel))
theorem dX9_number_39 : decode cX9_number 39 = .ok (.ifCond .eq 40, 3) := dk_153_ (show cX9_number.data.toList[39]? = some 0x99 from (LBX9_numberr_2 7).trans (by decide +kernel)) (show cX9_number.data.toList[40]? = some 0x00 from (LBX9_numberr_2 8).trans (by decide +kernel)) (show cX9_number.data.toList[41]? = some 0x28 from (LBX9_numberr_2 9).trans (by decide +kernel)) (by decide)
theorem dX9_number_42 : decode cX9_number 42 = .ok (.iload 4, 2) := dk_21_ (show cX9_number.data.toList[42]? = some 0x15 from (LBX9_numberr_2 10).trans (by decide +kernel)) (show cX9_number.data.toList[43]? = some 0x04 from (LBX9_numberr_2 11).trans (by decide +kernel)) (by decide)
theorem dX9_number_44 : decode cX9_number 44 = .ok (.sipush 9999, 3) := dk_17_ (show cX9_number.data.toList[44]? = some 0x11 from (LBX9_numberr_2 12).trans (by decide +kernel)) (show cX9_number.data.toList[45]? = some 0x27 from (LBX9_numberr_2 13).trans (by decide +kernel)) (show cX9_number.data.toList[46]? = some 0x0f from (LBX9_numberr_2 14).trans (by decide +kernel)) (by decide)
theorem dX9_number_47 : decode cX9_number 47 = .ok (.if_icmp .le 8, 3) := dk_164_ (show cX9_number.data.toList[47]? = some 0xa4 from (LBX9_numberr_2 15).trans (by decide +kernel)) (show cX9_number.data.toList[48]? = some 0x00 from (LBX9_numberr_3 0).trans (by decide +kernel)) (show cX9_number.data.toList[49]? = some 0x08 from (LBX9_numberr_3 1).trans (by decide +kernel)) (by decide)
theorem dX9_number_50 : decode cX9_number 50 = .ok (.iload 4, 2) := dk_21_ (show cX9_number.data.toList[50]? = some 0x15 from (LBX9_numberr_3 2).trans (by decide +kernel)) (show cX9_number.data.toList[51]? = some 0x04 from (LBX9_numberr_3 3).trans (by decide +kernel)) (by decide)
theorem dX9_number_52 : decode cX9_number 52 = .ok (.goto 19, 3) := dk_167_ (show cX9_number.data.toList[52]? = some 0xa7 from (LBX9_numberr_3 4).trans (by decide +kernel)) (show cX9_number.data.toList[53]? = some 0x00 from (LBX9_numberr_3 5).trans (by decide +kernel)) (show cX9_number.data.toList[54]? = some 0x13 from (LBX9_numberr_3 6).trans (by decide +kernel)) (by decide)
theorem dX9_number_55 : decode cX9_number 55 = .ok (.bipush 10, 2) := dk_16_ (show cX9_number.data.toList[55]? = some 0x10 from (LBX9_numberr_3 7).trans (by decide +kernel)) (show cX9_number.data.toList[56]? = some 0x0a from (LBX9_numberr_3 8).trans (by decide +kernel)) (by decide)
theorem dX9_number_57 : decode cX9_number 57 = .ok (.iload 4, 2) := dk_21_ (show cX9_number.data.toList[57]? = some 0x15 from (LBX9_numberr_3 9).trans (by decide +kernel)) (show cX9_number.data.toList[58]? = some 0x04 from (LBX9_numberr_3 10).trans (by decide +kernel)) (by decide)
theorem dX9_number_59 : decode cX9_number 59 = .ok (.imul, 1) := dk_104_ (show cX9_number.data.toList[59]? = some 0x68 from (LBX9_numberr_3 11).trans (by decide +kernel))
theorem dX9_number_60 : decode cX9_number 60 = .ok (.aload_n 0, 1) := dk_42_ (show cX9_number.data.toList[60]? = some 0x2a from (LBX9_numberr_3 12).trans (by decide +kernel))
theorem dX9_number_61 : decode cX9_number 61 = .ok (.getfield 37, 3) := dk_180_ (show cX9_number.data.toList[61]? = some 0xb4 from (LBX9_numberr_3 13).trans (by decide +kernel)) (show cX9_number.data.toList[62]? = some 0x00 from (LBX9_numberr_3 14).trans (by decide +kernel)) (show cX9_number.data.toList[63]? = some 0x25 from (LBX9_numberr_3 15).trans (by decide +kernel)) (by decide)
theorem dX9_number_64 : decode cX9_number 64 = .ok (.iload 5, 2) := dk_21_ (show cX9_number.data.toList[64]? = some 0x15 from (LBX9_numberr_4 0).trans (by decide +kernel)) (show cX9_number.data.toList[65]? = some 0x05 from (LBX9_numberr_4 1).trans (by decide +kernel)) (by decide)
theorem dX9_number_66 : decode cX9_number 66 = .ok (.iaload, 1) := dk_46_ (show cX9_number.data.toList[66]? = some 0x2e from (LBX9_numberr_4 2).trans (by decide +kernel))
theorem dX9_number_67 : decode cX9_number 67 = .ok (.iadd, 1) := dk_96_ (show cX9_number.data.toList[67]? = some 0x60 from (LBX9_numberr_4 3).trans (by decide +kernel))
theorem dX9_number_68 : decode cX9_number 68 = .ok (.bipush 48, 2) := dk_16_ (show cX9_number.data.toList[68]? = some 0x10 from (LBX9_numberr_4 4).trans (by decide +kernel)) (show cX9_number.data.toList[69]? = some 0x30 from (LBX9_numberr_4 5).trans (by decide +kernel)) (by decide)
theorem dX9_number_70 : decode cX9_number 70 = .ok (.isub, 1) := dk_100_ (show cX9_number.data.toList[70]? = some 0x64 from (LBX9_numberr_4 6).trans (by decide +kernel))
theorem dX9_number_71 : decode cX9_number 71 = .ok (.istore 4, 2) := dk_54_ (show cX9_number.data.toList[71]? = some 0x36 from (LBX9_numberr_4 7).trans (by decide +kernel)) (show cX9_number.data.toList[72]? = some 0x04 from (LBX9_numberr_4 8).trans (by decide +kernel)) (by decide)
theorem dX9_number_73 : decode cX9_number 73 = .ok (.iinc 5 1, 3) := dk_132_ (show cX9_number.data.toList[73]? = some 0x84 from (LBX9_numberr_4 9).trans (by decide +kernel)) (show cX9_number.data.toList[74]? = some 0x05 from (LBX9_numberr_4 10).trans (by decide +kernel)) (show cX9_number.data.toList[75]? = some 0x01 from (LBX9_numberr_4 11).trans (by decide +kernel)) (by decide) (by decide)
theorem dX9_number_76 : decode cX9_number 76 = .ok (.goto (-47), 3) := dk_167_ (show cX9_number.data.toList[76]? = some 0xa7 from (LBX9_numberr_4 12).trans (by decide +kernel)) (show cX9_number.data.toList[77]? = some 0xff from (LBX9_numberr_4 13).trans (by decide +kernel)) (show cX9_number.data.toList[78]? = some 0xd1 from (LBX9_numberr_4 14).trans (by decide +kernel)) (by decide)
theorem dX9_number_79 : decode cX9_number 79 = .ok (.aload_n 0, 1) := dk_42_ (show cX9_number.data.toList[79]? = some 0x2a from (LBX9_numberr_4 15).trans (by decide +kernel))
theorem dX9_number_80 : decode cX9_number 80 = .ok (.iload 4, 2) := dk_21_ (show cX9_number.data.toList[80]? = some 0x15 from (LBX9_numberr_5 0).trans (by decide +kernel)) (show cX9_number.data.toList[81]? = some 0x04 from (LBX9_numberr_5 1).trans (by decide +kernel)) (by decide)
theorem dX9_number_82 : decode cX9_number 82 = .ok (.putfield 275, 3) := dk_181_ (show cX9_number.data.toList[82]? = some 0xb5 from (LBX9_numberr_5 2).trans (by decide +kernel)) (show cX9_number.data.toList[83]? = some 0x01 from (LBX9_numberr_5 3).trans (by decide +kernel)) (show cX9_number.data.toList[84]? = some 0x13 from (LBX9_numberr_5 4).trans (by decide +kernel)) (by decide)
theorem dX9_number_85 : decode cX9_number 85 = .ok (.aload_n 0, 1) := dk_42_ (show cX9_number.data.toList[85]? = some 0x2a from (LBX9_numberr_5 5).trans (by decide +kernel))
theorem dX9_number_86 : decode cX9_number 86 = .ok (.iload_n 3, 1) := dk_29_ (show cX9_number.data.toList[86]? = some 0x1d from (LBX9_numberr_5 6).trans (by decide +kernel))
theorem dX9_number_87 : decode cX9_number 87 = .ok (.ifCond .eq 20, 3) := dk_153_ (show cX9_number.data.toList[87]? = some 0x99 from (LBX9_numberr_5 7).trans (by decide +kernel)) (show cX9_number.data.toList[88]? = some 0x00 from (LBX9_numberr_5 8).trans (by decide +kernel)) (show cX9_number.data.toList[89]? = some 0x14 from (LBX9_numberr_5 9).trans (by decide +kernel)) (by decide)
theorem dX9_number_90 : decode cX9_number 90 = .ok (.iload 4, 2) := dk_21_ (show cX9_number.data.toList[90]? = some 0x15 from (LBX9_numberr_5 10).trans (by decide +kernel)) (show cX9_number.data.toList[91]? = some 0x04 from (LBX9_numberr_5 11).trans (by decide +kernel)) (by decide)
theorem dX9_number_92 : decode cX9_number 92 = .ok (.i2l, 1) := dk_133_ (show cX9_number.data.toList[92]? = some 0x85 from (LBX9_numberr_5 12).trans (by decide +kernel))
theorem dX9_number_93 : decode cX9_number 93 = .ok (.iload_n 1, 1) := dk_27_ (show cX9_number.data.toList[93]? = some 0x1b from (LBX9_numberr_5 13).trans (by decide +kernel))
theorem dX9_number_94 : decode cX9_number 94 = .ok (.i2l, 1) := dk_133_ (show cX9_number.data.toList[94]? = some 0x85 from (LBX9_numberr_5 14).trans (by decide +kernel))
theorem dX9_number_95 : decode cX9_number 95 = .ok (.iload_n 2, 1) := dk_28_ (show cX9_number.data.toList[95]? = some 0x1c from (LBX9_numberr_5 15).trans (by decide +kernel))
theorem dX9_number_96 : decode cX9_number 96 = .ok (.i2l, 1) := dk_133_ (show cX9_number.data.toList[96]? = some 0x85 from (LBX9_numberr_6 0).trans (by decide +kernel))
theorem dX9_number_97 : decode cX9_number 97 = .ok (.invokestatic 57, 3) := dk_184_ (show cX9_number.data.toList[97]? = some 0xb8 from (LBX9_numberr_6 1).trans (by decide +kernel)) (show cX9_number.data.toList[98]? = some 0x00 from (LBX9_numberr_6 2).trans (by decide +kernel)) (show cX9_number.data.toList[99]? = some 0x39 from (LBX9_numberr_6 3).trans (by decide +kernel)) (by decide)
theorem dX9_number_100 : decode cX9_number 100 = .ok (.ifCond .eq 7, 3) := dk_153_ (show cX9_number.data.toList[100]? = some 0x99 from (LBX9_numberr_6 4).trans (by decide +kernel)) (show cX9_number.data.toList[101]? = some 0x00 from (LBX9_numberr_6 5).trans (by decide +kernel)) (show cX9_number.data.toList[102]? = some 0x07 from (LBX9_numberr_6 6).trans (by decide +kernel)) (by decide)
theorem dX9_number_103 : decode cX9_number 103 = .ok (.iconst 1, 1) := dk_4_ (show cX9_number.data.toList[103]? = some 0x04 from (LBX9_numberr_6 7).trans (by decide +kernel))
theorem dX9_number_104 : decode cX9_number 104 = .ok (.goto 4, 3) := dk_167_ (show cX9_number.data.toList[104]? = some 0xa7 from (LBX9_numberr_6 8).trans (by decide +kernel)) (show cX9_number.data.toList[105]? = some 0x00 from (LBX9_numberr_6 9).trans (by decide +kernel)) (show cX9_number.data.toList[106]? = some 0x04 from (LBX9_numberr_6 10).trans (by decide +kernel)) (by decide)
theorem dX9_number_107 : decode cX9_number 107 = .ok (.iconst 0, 1) := dk_3_ (show cX9_number.data.toList[107]? = some 0x03 from (LBX9_numberr_6 11).trans (by decide +kernel))
theorem dX9_number_108 : decode cX9_number 108 = .ok (.invokevirtual 278, 3) := dk_182_ (show cX9_number.data.toList[108]? = some 0xb6 from (LBX9_numberr_6 12).trans (by decide +kernel)) (show cX9_number.data.toList[109]? = some 0x01 from (LBX9_numberr_6 13).trans (by decide +kernel)) (show cX9_number.data.toList[110]? = some 0x16 from (LBX9_numberr_6 14).trans (by decide +kernel)) (by decide)
theorem dX9_number_111 : decode cX9_number 111 = .ok (.return_, 1) := dk_177_ (show cX9_number.data.toList[111]? = some 0xb1 from (LBX9_numberr_6 15).trans (by decide +kernel))
def LRX9_mile_7 : List UInt8 := []
def LBX9_mile_6 : List UInt8 := [0xa7, 0x00, 0x07, 0x2a, 0xb4, 0x01, 0x13, 0xb5, 0x01, 0x13, 0xb1]
def LRX9_mile_6 : List UInt8 := LBX9_mile_6 ++ LRX9_mile_7
def LBX9_mile_5 : List UInt8 := [0x04, 0x1c, 0xb6, 0x01, 0x1a, 0x2a, 0x1d, 0x99, 0x00, 0x0c, 0x03, 0x2a, 0xb4, 0x01, 0x13, 0x64]
def LRX9_mile_5 : List UInt8 := LBX9_mile_5 ++ LRX9_mile_6
def LBX9_mile_4 : List UInt8 := [0x99, 0x00, 0x11, 0x1b, 0x9e, 0x00, 0x07, 0x02, 0xa7, 0x00, 0x0a, 0x03, 0x1b, 0x64, 0xa7, 0x00]
def LRX9_mile_4 : List UInt8 := LBX9_mile_4 ++ LRX9_mile_5
def LBX9_mile_3 : List UInt8 := [0x00, 0x10, 0x03, 0xa7, 0x00, 0x0c, 0x1b, 0x9c, 0x00, 0x07, 0x03, 0xa7, 0x00, 0x04, 0x1b, 0x1d]
def LRX9_mile_3 : List UInt8 := LBX9_mile_3 ++ LRX9_mile_4
def LBX9_mile_2 : List UInt8 := [0xb6, 0x01, 0x16, 0x2a, 0x1d, 0x99, 0x00, 0x11, 0x1c, 0x9c, 0x00, 0x09, 0x03, 0x1c, 0x64, 0xa7]
def LRX9_mile_2 : List UInt8 := LBX9_mile_2 ++ LRX9_mile_3
def LBX9_mile_1 : List UInt8 := [0x2d, 0xa0, 0x00, 0x07, 0x04, 0xa7, 0x00, 0x04, 0x03, 0x3e, 0x1d, 0x99, 0x00, 0x08, 0x2a, 0x04]
def LRX9_mile_1 : List UInt8 := LBX9_mile_1 ++ LRX9_mile_2
def LBX9_mile_0 : List UInt8 := [0x2a, 0xb4, 0x01, 0x0a, 0x9a, 0x00, 0x14, 0x2a, 0x2a, 0xb4, 0x00, 0xfe, 0xb6, 0x01, 0x01, 0x10]
def LRX9_mile_0 : List UInt8 := LBX9_mile_0 ++ LRX9_mile_1
set_option maxRecDepth 100000 in
theorem LBX9_mile_eq : cX9_mile.data.toList = LRX9_mile_0 := by decide +kernel
theorem LBX9_miler_0 (k : Nat) : cX9_mile.data.toList[0 + k]? = LRX9_mile_0[k]? := by rw [LBX9_mile_eq, Nat.zero_add]
theorem LBX9_miler_1 (k : Nat) : cX9_mile.data.toList[16 + k]? = LRX9_mile_1[k]? := by
  have h := LBX9_miler_0 (16 + k)
  rw [show 0 + (16 + k) = 16 + k by omega] at h
  rw [h]
  exact (List.getElem?_append_right (l₁ := LBX9_mile_0) (l₂ := LRX9_mile_1) (show 16 ≤ 16 + k by omega)).trans (congrArg (fun i => LRX9_mile_1[i]?) (show 16 + k - 16 = k by omega))
theorem LBX9_miler_2 (k : Nat) : cX9_mile.data.toList[32 + k]? = LRX9_mile_2[k]? := by
  have h := LBX9_miler_1 (16 + k)
  rw [show 16 + (16 + k) = 32 + k by omega] at h
  rw [h]
  exact (List.getElem?_append_right (l₁ := LBX9_mile_1) (l₂ := LRX9_mile_2) (show 16 ≤ 16 + k by omega)).trans (congrArg (fun i => LRX9_mile_2[i]?) (show 16 + k - 16 = k by omega))
theorem LBX9_miler_3 (k : Nat) : cX9_mile.data.toList[48 + k]? = LRX9_mile_3[k]? := by
  have h := LBX9_miler_2 (16 + k)
  rw [show 32 + (16 + k) = 48 + k by omega] at h
  rw [h]
  exact (List.getElem?_append_right (l₁ := LBX9_mile_2) (l₂ := LRX9_mile_3) (show 16 ≤ 16 + k by omega)).trans (congrArg (fun i => LRX9_mile_3[i]?) (show 16 + k - 16 = k by omega))
theorem LBX9_miler_4 (k : Nat) : cX9_mile.data.toList[64 + k]? = LRX9_mile_4[k]? := by
  have h := LBX9_miler_3 (16 + k)
  rw [show 48 + (16 + k) = 64 + k by omega] at h
  rw [h]
  exact (List.getElem?_append_right (l₁ := LBX9_mile_3) (l₂ := LRX9_mile_4) (show 16 ≤ 16 + k by omega)).trans (congrArg (fun i => LRX9_mile_4[i]?) (show 16 + k - 16 = k by omega))
theorem LBX9_miler_5 (k : Nat) : cX9_mile.data.toList[80 + k]? = LRX9_mile_5[k]? := by
  have h := LBX9_miler_4 (16 + k)
  rw [show 64 + (16 + k) = 80 + k by omega] at h
  rw [h]
  exact (List.getElem?_append_right (l₁ := LBX9_mile_4) (l₂ := LRX9_mile_5) (show 16 ≤ 16 + k by omega)).trans (congrArg (fun i => LRX9_mile_5[i]?) (show 16 + k - 16 = k by omega))
theorem LBX9_miler_6 (k : Nat) : cX9_mile.data.toList[96 + k]? = LRX9_mile_6[k]? := by
  have h := LBX9_miler_5 (16 + k)
  rw [show 80 + (16 + k) = 96 + k by omega] at h
  rw [h]
  exact (List.getElem?_append_right (l₁ := LBX9_mile_5) (l₂ := LRX9_mile_6) (show 16 ≤ 16 + k by omega)).trans (congrArg (fun i => LRX9_mile_6[i]?) (show 16 + k - 16 = k by omega))
theorem dX9_mile_0 : decode cX9_mile 0 = .ok (.aload_n 0, 1) := dk_42_ (show cX9_mile.data.toList[0]? = some 0x2a from (LBX9_miler_0 0).trans (by decide +kernel))
theorem dX9_mile_1 : decode cX9_mile 1 = .ok (.getfield 266, 3) := dk_180_ (show cX9_mile.data.toList[1]? = some 0xb4 from (LBX9_miler_0 1).trans (by decide +kernel)) (show cX9_mile.data.toList[2]? = some 0x01 from (LBX9_miler_0 2).trans (by decide +kernel)) (show cX9_mile.data.toList[3]? = some 0x0a from (LBX9_miler_0 3).trans (by decide +kernel)) (by decide)
theorem dX9_mile_4 : decode cX9_mile 4 = .ok (.ifCond .ne 20, 3) := dk_154_ (show cX9_mile.data.toList[4]? = some 0x9a from (LBX9_miler_0 4).trans (by decide +kernel)) (show cX9_mile.data.toList[5]? = some 0x00 from (LBX9_miler_0 5).trans (by decide +kernel)) (show cX9_mile.data.toList[6]? = some 0x14 from (LBX9_miler_0 6).trans (by decide +kernel)) (by decide)
theorem dX9_mile_24 : decode cX9_mile 24 = .ok (.iconst 0, 1) := dk_3_ (show cX9_mile.data.toList[24]? = some 0x03 from (LBX9_miler_1 8).trans (by decide +kernel))
theorem dX9_mile_25 : decode cX9_mile 25 = .ok (.istore_n 3, 1) := dk_62_ (show cX9_mile.data.toList[25]? = some 0x3e from (LBX9_miler_1 9).trans (by decide +kernel))
theorem dX9_mile_26 : decode cX9_mile 26 = .ok (.iload_n 3, 1) := dk_29_ (show cX9_mile.data.toList[26]? = some 0x1d from (LBX9_miler_1 10).trans (by decide +kernel))
theorem dX9_mile_27 : decode cX9_mile 27 = .ok (.ifCond .eq 8, 3) := dk_153_ (show cX9_mile.data.toList[27]? = some 0x99 from (LBX9_miler_1 11).trans (by decide +kernel)) (show cX9_mile.data.toList[28]? = some 0x00 from (LBX9_miler_1 12).trans (by decide +kernel)) (show cX9_mile.data.toList[29]? = some 0x08 from (LBX9_miler_1 13).trans (by decide +kernel)) (by decide)
theorem dX9_mile_35 : decode cX9_mile 35 = .ok (.aload_n 0, 1) := dk_42_ (show cX9_mile.data.toList[35]? = some 0x2a from (LBX9_miler_2 3).trans (by decide +kernel))
theorem dX9_mile_36 : decode cX9_mile 36 = .ok (.iload_n 3, 1) := dk_29_ (show cX9_mile.data.toList[36]? = some 0x1d from (LBX9_miler_2 4).trans (by decide +kernel))
theorem dX9_mile_37 : decode cX9_mile 37 = .ok (.ifCond .eq 17, 3) := dk_153_ (show cX9_mile.data.toList[37]? = some 0x99 from (LBX9_miler_2 5).trans (by decide +kernel)) (show cX9_mile.data.toList[38]? = some 0x00 from (LBX9_miler_2 6).trans (by decide +kernel)) (show cX9_mile.data.toList[39]? = some 0x11 from (LBX9_miler_2 7).trans (by decide +kernel)) (by decide)
theorem dX9_mile_54 : decode cX9_mile 54 = .ok (.iload_n 1, 1) := dk_27_ (show cX9_mile.data.toList[54]? = some 0x1b from (LBX9_miler_3 6).trans (by decide +kernel))
theorem dX9_mile_55 : decode cX9_mile 55 = .ok (.ifCond .ge 7, 3) := dk_156_ (show cX9_mile.data.toList[55]? = some 0x9c from (LBX9_miler_3 7).trans (by decide +kernel)) (show cX9_mile.data.toList[56]? = some 0x00 from (LBX9_miler_3 8).trans (by decide +kernel)) (show cX9_mile.data.toList[57]? = some 0x07 from (LBX9_miler_3 9).trans (by decide +kernel)) (by decide)
theorem dX9_mile_58 : decode cX9_mile 58 = .ok (.iconst 0, 1) := dk_3_ (show cX9_mile.data.toList[58]? = some 0x03 from (LBX9_miler_3 10).trans (by decide +kernel))
theorem dX9_mile_59 : decode cX9_mile 59 = .ok (.goto 4, 3) := dk_167_ (show cX9_mile.data.toList[59]? = some 0xa7 from (LBX9_miler_3 11).trans (by decide +kernel)) (show cX9_mile.data.toList[60]? = some 0x00 from (LBX9_miler_3 12).trans (by decide +kernel)) (show cX9_mile.data.toList[61]? = some 0x04 from (LBX9_miler_3 13).trans (by decide +kernel)) (by decide)
theorem dX9_mile_62 : decode cX9_mile 62 = .ok (.iload_n 1, 1) := dk_27_ (show cX9_mile.data.toList[62]? = some 0x1b from (LBX9_miler_3 14).trans (by decide +kernel))
theorem dX9_mile_63 : decode cX9_mile 63 = .ok (.iload_n 3, 1) := dk_29_ (show cX9_mile.data.toList[63]? = some 0x1d from (LBX9_miler_3 15).trans (by decide +kernel))
theorem dX9_mile_64 : decode cX9_mile 64 = .ok (.ifCond .eq 17, 3) := dk_153_ (show cX9_mile.data.toList[64]? = some 0x99 from (LBX9_miler_4 0).trans (by decide +kernel)) (show cX9_mile.data.toList[65]? = some 0x00 from (LBX9_miler_4 1).trans (by decide +kernel)) (show cX9_mile.data.toList[66]? = some 0x11 from (LBX9_miler_4 2).trans (by decide +kernel)) (by decide)
theorem dX9_mile_81 : decode cX9_mile 81 = .ok (.iload_n 2, 1) := dk_28_ (show cX9_mile.data.toList[81]? = some 0x1c from (LBX9_miler_5 1).trans (by decide +kernel))
theorem dX9_mile_82 : decode cX9_mile 82 = .ok (.invokevirtual 282, 3) := dk_182_ (show cX9_mile.data.toList[82]? = some 0xb6 from (LBX9_miler_5 2).trans (by decide +kernel)) (show cX9_mile.data.toList[83]? = some 0x01 from (LBX9_miler_5 3).trans (by decide +kernel)) (show cX9_mile.data.toList[84]? = some 0x1a from (LBX9_miler_5 4).trans (by decide +kernel)) (by decide)
theorem dX9_mile_85 : decode cX9_mile 85 = .ok (.aload_n 0, 1) := dk_42_ (show cX9_mile.data.toList[85]? = some 0x2a from (LBX9_miler_5 5).trans (by decide +kernel))
theorem dX9_mile_86 : decode cX9_mile 86 = .ok (.iload_n 3, 1) := dk_29_ (show cX9_mile.data.toList[86]? = some 0x1d from (LBX9_miler_5 6).trans (by decide +kernel))
theorem dX9_mile_87 : decode cX9_mile 87 = .ok (.ifCond .eq 12, 3) := dk_153_ (show cX9_mile.data.toList[87]? = some 0x99 from (LBX9_miler_5 7).trans (by decide +kernel)) (show cX9_mile.data.toList[88]? = some 0x00 from (LBX9_miler_5 8).trans (by decide +kernel)) (show cX9_mile.data.toList[89]? = some 0x0c from (LBX9_miler_5 9).trans (by decide +kernel)) (by decide)
theorem dX9_mile_99 : decode cX9_mile 99 = .ok (.aload_n 0, 1) := dk_42_ (show cX9_mile.data.toList[99]? = some 0x2a from (LBX9_miler_6 3).trans (by decide +kernel))
theorem dX9_mile_100 : decode cX9_mile 100 = .ok (.getfield 275, 3) := dk_180_ (show cX9_mile.data.toList[100]? = some 0xb4 from (LBX9_miler_6 4).trans (by decide +kernel)) (show cX9_mile.data.toList[101]? = some 0x01 from (LBX9_miler_6 5).trans (by decide +kernel)) (show cX9_mile.data.toList[102]? = some 0x13 from (LBX9_miler_6 6).trans (by decide +kernel)) (by decide)
theorem dX9_mile_103 : decode cX9_mile 103 = .ok (.putfield 275, 3) := dk_181_ (show cX9_mile.data.toList[103]? = some 0xb5 from (LBX9_miler_6 7).trans (by decide +kernel)) (show cX9_mile.data.toList[104]? = some 0x01 from (LBX9_miler_6 8).trans (by decide +kernel)) (show cX9_mile.data.toList[105]? = some 0x13 from (LBX9_miler_6 9).trans (by decide +kernel)) (by decide)
theorem dX9_mile_106 : decode cX9_mile 106 = .ok (.return_, 1) := dk_177_ (show cX9_mile.data.toList[106]? = some 0xb1 from (LBX9_miler_6 10).trans (by decide +kernel))
theorem dX9_mile_7 : decode cX9_mile 7 = .ok (.aload_n 0, 1) := dk_42_ (show cX9_mile.data.toList[7]? = some 0x2a from (LBX9_miler_0 7).trans (by decide +kernel))
theorem dX9_mile_8 : decode cX9_mile 8 = .ok (.aload_n 0, 1) := dk_42_ (show cX9_mile.data.toList[8]? = some 0x2a from (LBX9_miler_0 8).trans (by decide +kernel))
theorem dX9_mile_9 : decode cX9_mile 9 = .ok (.getfield 254, 3) := dk_180_ (show cX9_mile.data.toList[9]? = some 0xb4 from (LBX9_miler_0 9).trans (by decide +kernel)) (show cX9_mile.data.toList[10]? = some 0x00 from (LBX9_miler_0 10).trans (by decide +kernel)) (show cX9_mile.data.toList[11]? = some 0xfe from (LBX9_miler_0 11).trans (by decide +kernel)) (by decide)
theorem dX9_mile_12 : decode cX9_mile 12 = .ok (.invokevirtual 257, 3) := dk_182_ (show cX9_mile.data.toList[12]? = some 0xb6 from (LBX9_miler_0 12).trans (by decide +kernel)) (show cX9_mile.data.toList[13]? = some 0x01 from (LBX9_miler_0 13).trans (by decide +kernel)) (show cX9_mile.data.toList[14]? = some 0x01 from (LBX9_miler_0 14).trans (by decide +kernel)) (by decide)
theorem dX9_mile_15 : decode cX9_mile 15 = .ok (.bipush 45, 2) := dk_16_ (show cX9_mile.data.toList[15]? = some 0x10 from (LBX9_miler_0 15).trans (by decide +kernel)) (show cX9_mile.data.toList[16]? = some 0x2d from (LBX9_miler_1 0).trans (by decide +kernel)) (by decide)
theorem dX9_mile_17 : decode cX9_mile 17 = .ok (.if_icmp .ne 7, 3) := dk_160_ (show cX9_mile.data.toList[17]? = some 0xa0 from (LBX9_miler_1 1).trans (by decide +kernel)) (show cX9_mile.data.toList[18]? = some 0x00 from (LBX9_miler_1 2).trans (by decide +kernel)) (show cX9_mile.data.toList[19]? = some 0x07 from (LBX9_miler_1 3).trans (by decide +kernel)) (by decide)
theorem dX9_mile_20 : decode cX9_mile 20 = .ok (.iconst 1, 1) := dk_4_ (show cX9_mile.data.toList[20]? = some 0x04 from (LBX9_miler_1 4).trans (by decide +kernel))
theorem dX9_mile_21 : decode cX9_mile 21 = .ok (.goto 4, 3) := dk_167_ (show cX9_mile.data.toList[21]? = some 0xa7 from (LBX9_miler_1 5).trans (by decide +kernel)) (show cX9_mile.data.toList[22]? = some 0x00 from (LBX9_miler_1 6).trans (by decide +kernel)) (show cX9_mile.data.toList[23]? = some 0x04 from (LBX9_miler_1 7).trans (by decide +kernel)) (by decide)
theorem dX9_mile_30 : decode cX9_mile 30 = .ok (.aload_n 0, 1) := dk_42_ (show cX9_mile.data.toList[30]? = some 0x2a from (LBX9_miler_1 14).trans (by decide +kernel))
theorem dX9_mile_31 : decode cX9_mile 31 = .ok (.iconst 1, 1) := dk_4_ (show cX9_mile.data.toList[31]? = some 0x04 from (LBX9_miler_1 15).trans (by decide +kernel))
theorem dX9_mile_32 : decode cX9_mile 32 = .ok (.invokevirtual 278, 3) := dk_182_ (show cX9_mile.data.toList[32]? = some 0xb6 from (LBX9_miler_2 0).trans (by decide +kernel)) (show cX9_mile.data.toList[33]? = some 0x01 from (LBX9_miler_2 1).trans (by decide +kernel)) (show cX9_mile.data.toList[34]? = some 0x16 from (LBX9_miler_2 2).trans (by decide +kernel)) (by decide)
theorem dX9_mile_40 : decode cX9_mile 40 = .ok (.iload_n 2, 1) := dk_28_ (show cX9_mile.data.toList[40]? = some 0x1c from (LBX9_miler_2 8).trans (by decide +kernel))
theorem dX9_mile_41 : decode cX9_mile 41 = .ok (.ifCond .ge 9, 3) := dk_156_ (show cX9_mile.data.toList[41]? = some 0x9c from (LBX9_miler_2 9).trans (by decide +kernel)) (show cX9_mile.data.toList[42]? = some 0x00 from (LBX9_miler_2 10).trans (by decide +kernel)) (show cX9_mile.data.toList[43]? = some 0x09 from (LBX9_miler_2 11).trans (by decide +kernel)) (by decide)
theorem dX9_mile_50 : decode cX9_mile 50 = .ok (.iconst 0, 1) := dk_3_ (show cX9_mile.data.toList[50]? = some 0x03 from (LBX9_miler_3 2).trans (by decide +kernel))
theorem dX9_mile_51 : decode cX9_mile 51 = .ok (.goto 12, 3) := dk_167_ (show cX9_mile.data.toList[51]? = some 0xa7 from (LBX9_miler_3 3).trans (by decide +kernel)) (show cX9_mile.data.toList[52]? = some 0x00 from (LBX9_miler_3 4).trans (by decide +kernel)) (show cX9_mile.data.toList[53]? = some 0x0c from (LBX9_miler_3 5).trans (by decide +kernel)) (by decide)
theorem dX9_mile_67 : decode cX9_mile 67 = .ok (.iload_n 1, 1) := dk_27_ (show cX9_mile.data.toList[67]? = some 0x1b from (LBX9_miler_4 3).trans (by decide +kernel))
theorem dX9_mile_68 : decode cX9_mile 68 = .ok (.ifCond .le 7, 3) := dk_158_ (show cX9_mile.data.toList[68]? = some 0x9e from (LBX9_miler_4 4).trans (by decide +kernel)) (show cX9_mile.data.toList[69]? = some 0x00 from (LBX9_miler_4 5).trans (by decide +kernel)) (show cX9_mile.data.toList[70]? = some 0x07 from (LBX9_miler_4 6).trans (by decide +kernel)) (by decide)
theorem dX9_mile_71 : decode cX9_mile 71 = .ok (.iconst (-1), 1) := dk_2_ (show cX9_mile.data.toList[71]? = some 0x02 from (LBX9_miler_4 7).trans (by decide +kernel))
theorem dX9_mile_72 : decode cX9_mile 72 = .ok (.goto 10, 3) := dk_167_ (show cX9_mile.data.toList[72]? = some 0xa7 from (LBX9_miler_4 8).trans (by decide +kernel)) (show cX9_mile.data.toList[73]? = some 0x00 from (LBX9_miler_4 9).trans (by decide +kernel)) (show cX9_mile.data.toList[74]? = some 0x0a from (LBX9_miler_4 10).trans (by decide +kernel)) (by decide)
theorem dX9_mile_75 : decode cX9_mile 75 = .ok (.iconst 0, 1) := dk_3_ (show cX9_mile.data.toList[75]? = some 0x03 from (LBX9_miler_4 11).trans (by decide +kernel))
theorem dX9_mile_76 : decode cX9_mile 76 = .ok (.iload_n 1, 1) := dk_27_ (show cX9_mile.data.toList[76]? = some 0x1b from (LBX9_miler_4 12).trans (by decide +kernel))
theorem dX9_mile_77 : decode cX9_mile 77 = .ok (.isub, 1) := dk_100_ (show cX9_mile.data.toList[77]? = some 0x64 from (LBX9_miler_4 13).trans (by decide +kernel))
theorem dX9_mile_78 : decode cX9_mile 78 = .ok (.goto 4, 3) := dk_167_ (show cX9_mile.data.toList[78]? = some 0xa7 from (LBX9_miler_4 14).trans (by decide +kernel)) (show cX9_mile.data.toList[79]? = some 0x00 from (LBX9_miler_4 15).trans (by decide +kernel)) (show cX9_mile.data.toList[80]? = some 0x04 from (LBX9_miler_5 0).trans (by decide +kernel)) (by decide)
theorem dX9_mile_90 : decode cX9_mile 90 = .ok (.iconst 0, 1) := dk_3_ (show cX9_mile.data.toList[90]? = some 0x03 from (LBX9_miler_5 10).trans (by decide +kernel))
theorem dX9_mile_91 : decode cX9_mile 91 = .ok (.aload_n 0, 1) := dk_42_ (show cX9_mile.data.toList[91]? = some 0x2a from (LBX9_miler_5 11).trans (by decide +kernel))
theorem dX9_mile_92 : decode cX9_mile 92 = .ok (.getfield 275, 3) := dk_180_ (show cX9_mile.data.toList[92]? = some 0xb4 from (LBX9_miler_5 12).trans (by decide +kernel)) (show cX9_mile.data.toList[93]? = some 0x01 from (LBX9_miler_5 13).trans (by decide +kernel)) (show cX9_mile.data.toList[94]? = some 0x13 from (LBX9_miler_5 14).trans (by decide +kernel)) (by decide)
theorem dX9_mile_95 : decode cX9_mile 95 = .ok (.isub, 1) := dk_100_ (show cX9_mile.data.toList[95]? = some 0x64 from (LBX9_miler_5 15).trans (by decide +kernel))
theorem dX9_mile_96 : decode cX9_mile 96 = .ok (.goto 7, 3) := dk_167_ (show cX9_mile.data.toList[96]? = some 0xa7 from (LBX9_miler_6 0).trans (by decide +kernel)) (show cX9_mile.data.toList[97]? = some 0x00 from (LBX9_miler_6 1).trans (by decide +kernel)) (show cX9_mile.data.toList[98]? = some 0x07 from (LBX9_miler_6 2).trans (by decide +kernel)) (by decide)
def LRX9_numberHere_5 : List UInt8 := []
def LBX9_numberHere_4 : List UInt8 := [0x07, 0x99, 0x00, 0x07, 0x1b, 0xa7, 0x00, 0x04, 0x02, 0xac]
def LRX9_numberHere_4 : List UInt8 := LBX9_numberHere_4 ++ LRX9_numberHere_5
def LBX9_numberHere_3 : List UInt8 := [0xb4, 0x01, 0x0a, 0x9a, 0x00, 0x15, 0x2a, 0x2a, 0xb4, 0x00, 0xfe, 0xb6, 0x01, 0x01, 0xb8, 0x01]
def LRX9_numberHere_3 : List UInt8 := LBX9_numberHere_3 ++ LRX9_numberHere_4
def LBX9_numberHere_2 : List UInt8 := [0x00, 0x25, 0x1c, 0x2e, 0x60, 0x10, 0x30, 0x64, 0x3c, 0x84, 0x02, 0x01, 0xa7, 0xff, 0xdb, 0x2a]
def LRX9_numberHere_2 : List UInt8 := LBX9_numberHere_2 ++ LRX9_numberHere_3
def LBX9_numberHere_1 : List UInt8 := [0x11, 0x27, 0x0f, 0xa4, 0x00, 0x07, 0x1b, 0xa7, 0x00, 0x11, 0x10, 0x0a, 0x1b, 0x68, 0x2a, 0xb4]
def LRX9_numberHere_1 : List UInt8 := LBX9_numberHere_1 ++ LRX9_numberHere_2
def LBX9_numberHere_0 : List UInt8 := [0x03, 0x3c, 0x2a, 0xb4, 0x00, 0xfe, 0x3d, 0x1c, 0x2a, 0xb4, 0x00, 0xfb, 0xa2, 0x00, 0x23, 0x1b]
def LRX9_numberHere_0 : List UInt8 := LBX9_numberHere_0 ++ LRX9_numberHere_1
set_option maxRecDepth 100000 in
theorem LBX9_numberHere_eq : cX9_numberHere.data.toList = LRX9_numberHere_0 := by decide +kernel
theorem LBX9_numberHerer_0 (k : Nat) : cX9_numberHere.data.toList[0 + k]? = LRX9_numberHere_0[k]? := by rw [LBX9_numberHere_eq, Nat.zero_add]
theorem LBX9_numberHerer_1 (k : Nat) : cX9_numberHere.data.toList[16 + k]? = LRX9_numberHere_1[k]? := by
  have h := LBX9_numberHerer_0 (16 + k)
  rw [show 0 + (16 + k) = 16 + k by omega] at h
  rw [h]
  exact (List.getElem?_append_right (l₁ := LBX9_numberHere_0) (l₂ := LRX9_numberHere_1) (show 16 ≤ 16 + k by omega)).trans (congrArg (fun i => LRX9_numberHere_1[i]?) (show 16 + k - 16 = k by omega))
theorem LBX9_numberHerer_2 (k : Nat) : cX9_numberHere.data.toList[32 + k]? = LRX9_numberHere_2[k]? := by
  have h := LBX9_numberHerer_1 (16 + k)
  rw [show 16 + (16 + k) = 32 + k by omega] at h
  rw [h]
  exact (List.getElem?_append_right (l₁ := LBX9_numberHere_1) (l₂ := LRX9_numberHere_2) (show 16 ≤ 16 + k by omega)).trans (congrArg (fun i => LRX9_numberHere_2[i]?) (show 16 + k - 16 = k by omega))
theorem LBX9_numberHerer_3 (k : Nat) : cX9_numberHere.data.toList[48 + k]? = LRX9_numberHere_3[k]? := by
  have h := LBX9_numberHerer_2 (16 + k)
  rw [show 32 + (16 + k) = 48 + k by omega] at h
  rw [h]
  exact (List.getElem?_append_right (l₁ := LBX9_numberHere_2) (l₂ := LRX9_numberHere_3) (show 16 ≤ 16 + k by omega)).trans (congrArg (fun i => LRX9_numberHere_3[i]?) (show 16 + k - 16 = k by omega))
theorem LBX9_numberHerer_4 (k : Nat) : cX9_numberHere.data.toList[64 + k]? = LRX9_numberHere_4[k]? := by
  have h := LBX9_numberHerer_3 (16 + k)
  rw [show 48 + (16 + k) = 64 + k by omega] at h
  rw [h]
  exact (List.getElem?_append_right (l₁ := LBX9_numberHere_3) (l₂ := LRX9_numberHere_4) (show 16 ≤ 16 + k by omega)).trans (congrArg (fun i => LRX9_numberHere_4[i]?) (show 16 + k - 16 = k by omega))
theorem dX9_numberHere_0 : decode cX9_numberHere 0 = .ok (.iconst 0, 1) := dk_3_ (show cX9_numberHere.data.toList[0]? = some 0x03 from (LBX9_numberHerer_0 0).trans (by decide +kernel))
theorem dX9_numberHere_1 : decode cX9_numberHere 1 = .ok (.istore_n 1, 1) := dk_60_ (show cX9_numberHere.data.toList[1]? = some 0x3c from (LBX9_numberHerer_0 1).trans (by decide +kernel))
theorem dX9_numberHere_2 : decode cX9_numberHere 2 = .ok (.aload_n 0, 1) := dk_42_ (show cX9_numberHere.data.toList[2]? = some 0x2a from (LBX9_numberHerer_0 2).trans (by decide +kernel))
theorem dX9_numberHere_3 : decode cX9_numberHere 3 = .ok (.getfield 254, 3) := dk_180_ (show cX9_numberHere.data.toList[3]? = some 0xb4 from (LBX9_numberHerer_0 3).trans (by decide +kernel)) (show cX9_numberHere.data.toList[4]? = some 0x00 from (LBX9_numberHerer_0 4).trans (by decide +kernel)) (show cX9_numberHere.data.toList[5]? = some 0xfe from (LBX9_numberHerer_0 5).trans (by decide +kernel)) (by decide)
theorem dX9_numberHere_6 : decode cX9_numberHere 6 = .ok (.istore_n 2, 1) := dk_61_ (show cX9_numberHere.data.toList[6]? = some 0x3d from (LBX9_numberHerer_0 6).trans (by decide +kernel))
theorem dX9_numberHere_7 : decode cX9_numberHere 7 = .ok (.iload_n 2, 1) := dk_28_ (show cX9_numberHere.data.toList[7]? = some 0x1c from (LBX9_numberHerer_0 7).trans (by decide +kernel))
theorem dX9_numberHere_8 : decode cX9_numberHere 8 = .ok (.aload_n 0, 1) := dk_42_ (show cX9_numberHere.data.toList[8]? = some 0x2a from (LBX9_numberHerer_0 8).trans (by decide +kernel))
theorem dX9_numberHere_9 : decode cX9_numberHere 9 = .ok (.getfield 251, 3) := dk_180_ (show cX9_numberHere.data.toList[9]? = some 0xb4 from (LBX9_numberHerer_0 9).trans (by decide +kernel)) (show cX9_numberHere.data.toList[10]? = some 0x00 from (LBX9_numberHerer_0 10).trans (by decide +kernel)) (show cX9_numberHere.data.toList[11]? = some 0xfb from (LBX9_numberHerer_0 11).trans (by decide +kernel)) (by decide)
theorem dX9_numberHere_12 : decode cX9_numberHere 12 = .ok (.if_icmp .ge 35, 3) := dk_162_ (show cX9_numberHere.data.toList[12]? = some 0xa2 from (LBX9_numberHerer_0 12).trans (by decide +kernel)) (show cX9_numberHere.data.toList[13]? = some 0x00 from (LBX9_numberHerer_0 13).trans (by decide +kernel)) (show cX9_numberHere.data.toList[14]? = some 0x23 from (LBX9_numberHerer_0 14).trans (by decide +kernel)) (by decide)
theorem dX9_numberHere_15 : decode cX9_numberHere 15 = .ok (.iload_n 1, 1) := dk_27_ (show cX9_numberHere.data.toList[15]? = some 0x1b from (LBX9_numberHerer_0 15).trans (by decide +kernel))
theorem dX9_numberHere_16 : decode cX9_numberHere 16 = .ok (.sipush 9999, 3) := dk_17_ (show cX9_numberHere.data.toList[16]? = some 0x11 from (LBX9_numberHerer_1 0).trans (by decide +kernel)) (show cX9_numberHere.data.toList[17]? = some 0x27 from (LBX9_numberHerer_1 1).trans (by decide +kernel)) (show cX9_numberHere.data.toList[18]? = some 0x0f from (LBX9_numberHerer_1 2).trans (by decide +kernel)) (by decide)
theorem dX9_numberHere_19 : decode cX9_numberHere 19 = .ok (.if_icmp .le 7, 3) := dk_164_ (show cX9_numberHere.data.toList[19]? = some 0xa4 from (LBX9_numberHerer_1 3).trans (by decide +kernel)) (show cX9_numberHere.data.toList[20]? = some 0x00 from (LBX9_numberHerer_1 4).trans (by decide +kernel)) (show cX9_numberHere.data.toList[21]? = some 0x07 from (LBX9_numberHerer_1 5).trans (by decide +kernel)) (by decide)
theorem dX9_numberHere_22 : decode cX9_numberHere 22 = .ok (.iload_n 1, 1) := dk_27_ (show cX9_numberHere.data.toList[22]? = some 0x1b from (LBX9_numberHerer_1 6).trans (by decide +kernel))
theorem dX9_numberHere_23 : decode cX9_numberHere 23 = .ok (.goto 17, 3) := dk_167_ (show cX9_numberHere.data.toList[23]? = some 0xa7 from (LBX9_numberHerer_1 7).trans (by decide +kernel)) (show cX9_numberHere.data.toList[24]? = some 0x00 from (LBX9_numberHerer_1 8).trans (by decide +kernel)) (show cX9_numberHere.data.toList[25]? = some 0x11 from (LBX9_numberHerer_1 9).trans (by decide +kernel)) (by decide)
theorem dX9_numberHere_26 : decode cX9_numberHere 26 = .ok (.bipush 10, 2) := dk_16_ (show cX9_numberHere.data.toList[26]? = some 0x10 from (LBX9_numberHerer_1 10).trans (by decide +kernel)) (show cX9_numberHere.data.toList[27]? = some 0x0a from (LBX9_numberHerer_1 11).trans (by decide +kernel)) (by decide)
theorem dX9_numberHere_28 : decode cX9_numberHere 28 = .ok (.iload_n 1, 1) := dk_27_ (show cX9_numberHere.data.toList[28]? = some 0x1b from (LBX9_numberHerer_1 12).trans (by decide +kernel))
theorem dX9_numberHere_29 : decode cX9_numberHere 29 = .ok (.imul, 1) := dk_104_ (show cX9_numberHere.data.toList[29]? = some 0x68 from (LBX9_numberHerer_1 13).trans (by decide +kernel))
theorem dX9_numberHere_30 : decode cX9_numberHere 30 = .ok (.aload_n 0, 1) := dk_42_ (show cX9_numberHere.data.toList[30]? = some 0x2a from (LBX9_numberHerer_1 14).trans (by decide +kernel))
theorem dX9_numberHere_31 : decode cX9_numberHere 31 = .ok (.getfield 37, 3) := dk_180_ (show cX9_numberHere.data.toList[31]? = some 0xb4 from (LBX9_numberHerer_1 15).trans (by decide +kernel)) (show cX9_numberHere.data.toList[32]? = some 0x00 from (LBX9_numberHerer_2 0).trans (by decide +kernel)) (show cX9_numberHere.data.toList[33]? = some 0x25 from (LBX9_numberHerer_2 1).trans (by decide +kernel)) (by decide)
theorem dX9_numberHere_34 : decode cX9_numberHere 34 = .ok (.iload_n 2, 1) := dk_28_ (show cX9_numberHere.data.toList[34]? = some 0x1c from (LBX9_numberHerer_2 2).trans (by decide +kernel))
theorem dX9_numberHere_35 : decode cX9_numberHere 35 = .ok (.iaload, 1) := dk_46_ (show cX9_numberHere.data.toList[35]? = some 0x2e from (LBX9_numberHerer_2 3).trans (by decide +kernel))
theorem dX9_numberHere_36 : decode cX9_numberHere 36 = .ok (.iadd, 1) := dk_96_ (show cX9_numberHere.data.toList[36]? = some 0x60 from (LBX9_numberHerer_2 4).trans (by decide +kernel))
theorem dX9_numberHere_37 : decode cX9_numberHere 37 = .ok (.bipush 48, 2) := dk_16_ (show cX9_numberHere.data.toList[37]? = some 0x10 from (LBX9_numberHerer_2 5).trans (by decide +kernel)) (show cX9_numberHere.data.toList[38]? = some 0x30 from (LBX9_numberHerer_2 6).trans (by decide +kernel)) (by decide)
theorem dX9_numberHere_39 : decode cX9_numberHere 39 = .ok (.isub, 1) := dk_100_ (show cX9_numberHere.data.toList[39]? = some 0x64 from (LBX9_numberHerer_2 7).trans (by decide +kernel))
theorem dX9_numberHere_40 : decode cX9_numberHere 40 = .ok (.istore_n 1, 1) := dk_60_ (show cX9_numberHere.data.toList[40]? = some 0x3c from (LBX9_numberHerer_2 8).trans (by decide +kernel))
theorem dX9_numberHere_41 : decode cX9_numberHere 41 = .ok (.iinc 2 1, 3) := dk_132_ (show cX9_numberHere.data.toList[41]? = some 0x84 from (LBX9_numberHerer_2 9).trans (by decide +kernel)) (show cX9_numberHere.data.toList[42]? = some 0x02 from (LBX9_numberHerer_2 10).trans (by decide +kernel)) (show cX9_numberHere.data.toList[43]? = some 0x01 from (LBX9_numberHerer_2 11).trans (by decide +kernel)) (by decide) (by decide)
theorem dX9_numberHere_44 : decode cX9_numberHere 44 = .ok (.goto (-37), 3) := dk_167_ (show cX9_numberHere.data.toList[44]? = some 0xa7 from (LBX9_numberHerer_2 12).trans (by decide +kernel)) (show cX9_numberHere.data.toList[45]? = some 0xff from (LBX9_numberHerer_2 13).trans (by decide +kernel)) (show cX9_numberHere.data.toList[46]? = some 0xdb from (LBX9_numberHerer_2 14).trans (by decide +kernel)) (by decide)
theorem dX9_numberHere_47 : decode cX9_numberHere 47 = .ok (.aload_n 0, 1) := dk_42_ (show cX9_numberHere.data.toList[47]? = some 0x2a from (LBX9_numberHerer_2 15).trans (by decide +kernel))
theorem dX9_numberHere_48 : decode cX9_numberHere 48 = .ok (.getfield 266, 3) := dk_180_ (show cX9_numberHere.data.toList[48]? = some 0xb4 from (LBX9_numberHerer_3 0).trans (by decide +kernel)) (show cX9_numberHere.data.toList[49]? = some 0x01 from (LBX9_numberHerer_3 1).trans (by decide +kernel)) (show cX9_numberHere.data.toList[50]? = some 0x0a from (LBX9_numberHerer_3 2).trans (by decide +kernel)) (by decide)
theorem dX9_numberHere_51 : decode cX9_numberHere 51 = .ok (.ifCond .ne 21, 3) := dk_154_ (show cX9_numberHere.data.toList[51]? = some 0x9a from (LBX9_numberHerer_3 3).trans (by decide +kernel)) (show cX9_numberHere.data.toList[52]? = some 0x00 from (LBX9_numberHerer_3 4).trans (by decide +kernel)) (show cX9_numberHere.data.toList[53]? = some 0x15 from (LBX9_numberHerer_3 5).trans (by decide +kernel)) (by decide)
theorem dX9_numberHere_72 : decode cX9_numberHere 72 = .ok (.iconst (-1), 1) := dk_2_ (show cX9_numberHere.data.toList[72]? = some 0x02 from (LBX9_numberHerer_4 8).trans (by decide +kernel))
theorem dX9_numberHere_73 : decode cX9_numberHere 73 = .ok (.ireturn, 1) := dk_172_ (show cX9_numberHere.data.toList[73]? = some 0xac from (LBX9_numberHerer_4 9).trans (by decide +kernel))
theorem dX9_numberHere_54 : decode cX9_numberHere 54 = .ok (.aload_n 0, 1) := dk_42_ (show cX9_numberHere.data.toList[54]? = some 0x2a from (LBX9_numberHerer_3 6).trans (by decide +kernel))
theorem dX9_numberHere_55 : decode cX9_numberHere 55 = .ok (.aload_n 0, 1) := dk_42_ (show cX9_numberHere.data.toList[55]? = some 0x2a from (LBX9_numberHerer_3 7).trans (by decide +kernel))
theorem dX9_numberHere_56 : decode cX9_numberHere 56 = .ok (.getfield 254, 3) := dk_180_ (show cX9_numberHere.data.toList[56]? = some 0xb4 from (LBX9_numberHerer_3 8).trans (by decide +kernel)) (show cX9_numberHere.data.toList[57]? = some 0x00 from (LBX9_numberHerer_3 9).trans (by decide +kernel)) (show cX9_numberHere.data.toList[58]? = some 0xfe from (LBX9_numberHerer_3 10).trans (by decide +kernel)) (by decide)
theorem dX9_numberHere_59 : decode cX9_numberHere 59 = .ok (.invokevirtual 257, 3) := dk_182_ (show cX9_numberHere.data.toList[59]? = some 0xb6 from (LBX9_numberHerer_3 11).trans (by decide +kernel)) (show cX9_numberHere.data.toList[60]? = some 0x01 from (LBX9_numberHerer_3 12).trans (by decide +kernel)) (show cX9_numberHere.data.toList[61]? = some 0x01 from (LBX9_numberHerer_3 13).trans (by decide +kernel)) (by decide)
theorem dX9_numberHere_62 : decode cX9_numberHere 62 = .ok (.invokestatic 263, 3) := dk_184_ (show cX9_numberHere.data.toList[62]? = some 0xb8 from (LBX9_numberHerer_3 14).trans (by decide +kernel)) (show cX9_numberHere.data.toList[63]? = some 0x01 from (LBX9_numberHerer_3 15).trans (by decide +kernel)) (show cX9_numberHere.data.toList[64]? = some 0x07 from (LBX9_numberHerer_4 0).trans (by decide +kernel)) (by decide)
theorem dX9_numberHere_65 : decode cX9_numberHere 65 = .ok (.ifCond .eq 7, 3) := dk_153_ (show cX9_numberHere.data.toList[65]? = some 0x99 from (LBX9_numberHerer_4 1).trans (by decide +kernel)) (show cX9_numberHere.data.toList[66]? = some 0x00 from (LBX9_numberHerer_4 2).trans (by decide +kernel)) (show cX9_numberHere.data.toList[67]? = some 0x07 from (LBX9_numberHerer_4 3).trans (by decide +kernel)) (by decide)
theorem dX9_numberHere_68 : decode cX9_numberHere 68 = .ok (.iload_n 1, 1) := dk_27_ (show cX9_numberHere.data.toList[68]? = some 0x1b from (LBX9_numberHerer_4 4).trans (by decide +kernel))
theorem dX9_numberHere_69 : decode cX9_numberHere 69 = .ok (.goto 4, 3) := dk_167_ (show cX9_numberHere.data.toList[69]? = some 0xa7 from (LBX9_numberHerer_4 5).trans (by decide +kernel)) (show cX9_numberHere.data.toList[70]? = some 0x00 from (LBX9_numberHerer_4 6).trans (by decide +kernel)) (show cX9_numberHere.data.toList[71]? = some 0x04 from (LBX9_numberHerer_4 7).trans (by decide +kernel)) (by decide)
theorem uw845 : Cond.constantLong RX9 238 4 ∈ wsU := ut6 (List.mem_of_getElem? (i := 113) rfl) rfl
theorem uw846 : Cond.fieldLink RX9 240 "LongerBackModel" "taped" "I" ∈ wsU := ut4 (List.mem_of_getElem? (i := 225) rfl) rfl
theorem uw847 : Cond.fieldLink RX9 37 "LongerBackModel" "tape" "[I" ∈ wsU := ut4 (List.mem_of_getElem? (i := 224) rfl) rfl
theorem uw848 : Cond.fieldLink RX9 251 "LongerBackModel" "to" "I" ∈ wsU := ut4 (List.mem_of_getElem? (i := 227) rfl) rfl
theorem uw849 : Cond.fieldLink RX9 254 "LongerBackModel" "from" "I" ∈ wsU := ut4 (List.mem_of_getElem? (i := 226) rfl) rfl
theorem uw850 : Cond.methodLink RX9 257 yX9_byteAt ∈ wsU := ut6 (List.mem_of_getElem? (i := 126) rfl) rfl
theorem uw851 : Cond.instanceMethod yX9_byteAt ∈ wsU := ut6 (List.mem_of_getElem? (i := 128) rfl) rfl
theorem uw852 : Cond.selects RX9 yX9_byteAt yX9_byteAt ∈ wsU := us_sel (q := (yX9_byteAt, 27)) (List.mem_of_getElem? (i := 67) (by decide +kernel)) rfl
theorem uw853 : Cond.code yX9_byteAt cX9_byteAt 2 (some .int) ∈ wsU := ut6 (List.mem_of_getElem? (i := 129) rfl) rfl
theorem uw854 : Cond.methodLink RX9 260 yX9_isLetter ∈ wsU := ut6 (List.mem_of_getElem? (i := 130) rfl) rfl
theorem uw855 : Cond.static yX9_isLetter ∈ wsU := ut6 (List.mem_of_getElem? (i := 131) rfl) rfl
theorem uw856 : Cond.initialized yX9_isLetter.cls ∈ wsU := ut1 (List.mem_of_getElem? (i := 10) rfl) rfl
theorem uw857 : Cond.code yX9_isLetter cX9_isLetter 1 (some .boolean) ∈ wsU := ut6 (List.mem_of_getElem? (i := 132) rfl) rfl
theorem uw858 : Cond.methodLink RX9 263 yX9_isDigit ∈ wsU := ut6 (List.mem_of_getElem? (i := 135) rfl) rfl
theorem uw859 : Cond.static yX9_isDigit ∈ wsU := ut6 (List.mem_of_getElem? (i := 136) rfl) rfl
theorem uw860 : Cond.initialized yX9_isDigit.cls ∈ wsU := ut1 (List.mem_of_getElem? (i := 10) rfl) rfl
theorem uw861 : Cond.code yX9_isDigit cX9_isDigit 1 (some .boolean) ∈ wsU := ut6 (List.mem_of_getElem? (i := 137) rfl) rfl
theorem uw862 : Cond.fieldLink RX9 266 "LongerBackModel" "isWrong" "Z" ∈ wsU := ut4 (List.mem_of_getElem? (i := 229) rfl) rfl
theorem uw863 : Cond.methodLink RX9 269 yX9_next ∈ wsU := ut6 (List.mem_of_getElem? (i := 122) rfl) rfl
theorem uw864 : Cond.instanceMethod yX9_next ∈ wsU := ut6 (List.mem_of_getElem? (i := 124) rfl) rfl
theorem uw865 : Cond.selects RX9 yX9_next yX9_next ∈ wsU := us_sel (q := (yX9_next, 27)) (List.mem_of_getElem? (i := 66) (by decide +kernel)) rfl
theorem uw866 : Cond.code yX9_next cX9_next 3 none ∈ wsU := ut6 (List.mem_of_getElem? (i := 125) rfl) rfl
theorem uw867 : Cond.methodLink RX9 272 yX9_isAt ∈ wsU := ut6 (List.mem_of_getElem? (i := 148) rfl) rfl
theorem uw868 : Cond.instanceMethod yX9_isAt ∈ wsU := ut6 (List.mem_of_getElem? (i := 150) rfl) rfl
theorem uw869 : Cond.selects RX9 yX9_isAt yX9_isAt ∈ wsU := us_sel (q := (yX9_isAt, 27)) (List.mem_of_getElem? (i := 70) (by decide +kernel)) rfl
theorem uw870 : Cond.code yX9_isAt cX9_isAt 3 (some .boolean) ∈ wsU := ut6 (List.mem_of_getElem? (i := 151) rfl) rfl
theorem uw871 : Cond.fieldLink RX9 275 "LongerBackModel" "value" "I" ∈ wsU := ut4 (List.mem_of_getElem? (i := 228) rfl) rfl
theorem uw872 : Cond.methodLink RX9 278 yX9_needs ∈ wsU := ut6 (List.mem_of_getElem? (i := 156) rfl) rfl
theorem uw873 : Cond.instanceMethod yX9_needs ∈ wsU := ut6 (List.mem_of_getElem? (i := 158) rfl) rfl
theorem uw874 : Cond.selects RX9 yX9_needs yX9_needs ∈ wsU := us_sel (q := (yX9_needs, 27)) (List.mem_of_getElem? (i := 72) (by decide +kernel)) rfl
theorem uw875 : Cond.code yX9_needs cX9_needs 2 none ∈ wsU := ut6 (List.mem_of_getElem? (i := 159) rfl) rfl
theorem uw876 : Cond.methodLink RX9 282 yX9_number ∈ wsU := ut6 (List.mem_of_getElem? (i := 160) rfl) rfl
theorem uw877 : Cond.instanceMethod yX9_number ∈ wsU := ut6 (List.mem_of_getElem? (i := 162) rfl) rfl
theorem uw878 : Cond.selects RX9 yX9_number yX9_number ∈ wsU := us_sel (q := (yX9_number, 27)) (List.mem_of_getElem? (i := 73) (by decide +kernel)) rfl
theorem uw879 : Cond.code yX9_number cX9_number 6 none ∈ wsU := ut6 (List.mem_of_getElem? (i := 163) rfl) rfl
theorem kf_X9_240 : xWF RX9 240 9 17 RX9 TX9 27 := ⟨inUX9, rfl, by decide, uw846⟩
theorem kf_X9_37 : xWF RX9 37 9 16 RX9 TX9 27 := ⟨inUX9, rfl, by decide, uw847⟩
theorem kf_X9_251 : xWF RX9 251 9 19 RX9 TX9 27 := ⟨inUX9, rfl, by decide, uw848⟩
theorem kf_X9_254 : xWF RX9 254 9 18 RX9 TX9 27 := ⟨inUX9, rfl, by decide, uw849⟩
theorem kv_X9_257 : xWV RX9 257 RX9 yX9_byteAt cX9_byteAt 2 (some .int) 1 := ⟨⟨uw850, uw851, uw852, uw657, uw853⟩, by decide +kernel⟩
theorem ks_X9_260 : xWS RX9 260 yX9_isLetter cX9_isLetter 1 (some .boolean) 1 := ⟨⟨uw854, uw855, uw856, uw857⟩, by decide +kernel⟩
theorem ks_X9_263 : xWS RX9 263 yX9_isDigit cX9_isDigit 1 (some .boolean) 1 := ⟨⟨uw858, uw859, uw860, uw861⟩, by decide +kernel⟩
theorem kf_X9_266 : xWF RX9 266 9 21 RX9 TX9 27 := ⟨inUX9, rfl, by decide, uw862⟩
theorem kv_X9_269 : xWV RX9 269 RX9 yX9_next cX9_next 3 none 0 := ⟨⟨uw863, uw864, uw865, uw657, uw866⟩, by decide +kernel⟩
theorem kv_X9_272 : xWV RX9 272 RX9 yX9_isAt cX9_isAt 3 (some .boolean) 2 := ⟨⟨uw867, uw868, uw869, uw657, uw870⟩, by decide +kernel⟩
theorem kf_X9_275 : xWF RX9 275 9 20 RX9 TX9 27 := ⟨inUX9, rfl, by decide, uw871⟩
theorem kv_X9_278 : xWV RX9 278 RX9 yX9_needs cX9_needs 2 none 1 := ⟨⟨uw872, uw873, uw874, uw657, uw875⟩, by decide +kernel⟩
theorem kv_X9_282 : xWV RX9 282 RX9 yX9_number cX9_number 6 none 2 := ⟨⟨uw876, uw877, uw878, uw657, uw879⟩, by decide +kernel⟩
set_option maxHeartbeats 4000000 in
set_option maxRecDepth 100000 in
theorem c_X9_feed (l : Launch) (D : va_G) (cI cJ cZ cS : ClassId) (ta : Nat) (sa sv : Nat → Nat) (sz : Nat) (h0 : Nat) (ys : Nat) (yk : Nat) (yo : Nat) (yt : Nat) (mk0 : Int32) (yfa : Nat) (yfe : Nat) (mL : Int32) (mS : Int32) (mM : Int32) (yro : Nat) (yhe : Nat) (ygr : Nat) (mF : Int32) (mC : Int32) (mY : Int32) (yta : Nat) (mz : Nat) (mf : Nat) (mt : Nat) (mv : Int32) (mw : Int32) (ywa : Nat) (ybi : Nat) (ysi : Nat) (ynu : Nat) (ymo : Nat) (tp : Nat → Int32) (mq : Nat → Int32) (p0 : Int32) (p1 : Int32) (hz : mz ≤ 120) : Met l yX9_feed (Cond.code yX9_feed cX9_feed 4 (some .int) :: wsU) ({ frames := 1, cells := 0, slots := 0, locals := 25 }) (va_Pc [.ref h0, .int p0, .int p1] (XW D (xT cI cJ cZ cS) ta sa sv [(h0, .inr (9, [.ref ys, .ref yk, .ref yo, .ref yt, .int mk0, .ref yfa, .ref yfe, .int mL, .int mS, .int mM, .ref yro, .ref yhe, .ref ygr, .int mF, .int mC, .int mY, .ref yta, .int (nI (mz)), .int (nI (mf)), .int (nI (mt)), .int mv, .int mw, .ref ywa, .ref ybi, .ref ysi, .ref ynu, .ref ymo])), (yta, .inl (cI, 120, .inl tp)), (yt, .inl (cI, 7, .inl mq))] sz)) (XQi (fun (r : Int32) (u : Nat × (Nat → Int32) × (Nat → Int32)) => match u with | (z2, tp2, mq2) => ((r = sp_fr mz p1)) ∧ (z2 = sp_fz mz p1) ∧ (tp2 = fdT tp mz p0 p1) ∧ (z2 ≤ 120)) D (fun (u : Nat × (Nat → Int32) × (Nat → Int32)) => match u with | (z2, tp2, mq2) => [(h0, .inr (9, [.ref ys, .ref yk, .ref yo, .ref yt, .int mk0, .ref yfa, .ref yfe, .int mL, .int mS, .int mM, .ref yro, .ref yhe, .ref ygr, .int mF, .int mC, .int mY, .ref yta, .int (nI (z2)), .int (nI (mf)), .int (nI (mt)), .int mv, .int mw, .ref ywa, .ref ybi, .ref ysi, .ref ynu, .ref ymo])), (yta, .inl (cI, 120, .inl tp2)), (yt, .inl (cI, 7, .inl mq2))]) (va_A [(h0, .inr (9, [.ref ys, .ref yk, .ref yo, .ref yt, .int mk0, .ref yfa, .ref yfe, .int mL, .int mS, .int mM, .ref yro, .ref yhe, .ref ygr, .int mF, .int mC, .int mY, .ref yta, .int (nI (mz)), .int (nI (mf)), .int (nI (mt)), .int mv, .int mw, .ref ywa, .ref ybi, .ref ysi, .ref ynu, .ref ymo])), (yta, .inl (cI, 120, .inl tp)), (yt, .inl (cI, 7, .inl mq))] sz)) 0 0 (va_A [(h0, .inr (9, [.ref ys, .ref yk, .ref yo, .ref yt, .int mk0, .ref yfa, .ref yfe, .int mL, .int mS, .int mM, .ref yro, .ref yhe, .ref ygr, .int mF, .int mC, .int mY, .ref yta, .int (nI (mz)), .int (nI (mf)), .int (nI (mt)), .int mv, .int mw, .ref ywa, .ref ybi, .ref ysi, .ref ynu, .ref ymo])), (yta, .inl (cI, 120, .inl tp)), (yt, .inl (cI, 7, .inl mq))] sz) := by
  refine xh (QA := fun A => XQi (fun (r : Int32) (u : Nat × (Nat → Int32) × (Nat → Int32)) => match u with | (z2, tp2, mq2) => ((r = sp_fr mz p1)) ∧ (z2 = sp_fz mz p1) ∧ (tp2 = fdT tp mz p0 p1) ∧ (z2 ≤ 120)) D (fun (u : Nat × (Nat → Int32) × (Nat → Int32)) => match u with | (z2, tp2, mq2) => [(h0, .inr (9, [.ref ys, .ref yk, .ref yo, .ref yt, .int mk0, .ref yfa, .ref yfe, .int mL, .int mS, .int mM, .ref yro, .ref yhe, .ref ygr, .int mF, .int mC, .int mY, .ref yta, .int (nI (z2)), .int (nI (mf)), .int (nI (mt)), .int mv, .int mw, .ref ywa, .ref ybi, .ref ysi, .ref ynu, .ref ymo])), (yta, .inl (cI, 120, .inl tp2)), (yt, .inl (cI, 7, .inl mq2))]) A) (fr := fun A => A) (by decide) (Nat.le_of_ble_eq_true rfl) ?_
  intro p e s m below meth c ls A hF hr hlk hin hsz hP hK hD hN hZ hA hS hl
  have hF : CallFix p m c cX9_feed 4 s _ _ RX9 := hF
  have hx := hF.1
  have hb := hF.2.1
  have hml := hF.2.2.1
  have hown := hF.2.2.2.1
  have hu : ∀ w ∈ wsU, w.before _ s = true := fun w h => hF.2.2.2.2 w (List.mem_cons_of_mem _ h)
  have hl : lv_has ls 4 [(0, .ref h0), (1, .int p0), (2, .int p1)] := hl
  refine lv_iload_n hx hb dX9_feed_0 rfl (lv_at hl 2 rfl) ?_
  refine lv_i2l (v := p1.toInt64) hx hb dX9_feed_1 rfl ?_
  refine lv_lconst (v := 1) hx hb dX9_feed_2 (by decide) ?_
  refine xl_l (y := (1 : Int32).toInt64) (by decide) ?_
  refine lv_ldc2 (v := 4) hx hb hown (hu _ uw845) dX9_feed_3 ?_
  refine xl_l (y := (4 : Int32).toInt64) (by decide) ?_
  refine xc_Sr hF (c_X9_in l D cI cJ cZ cS ta sa sv s.heap.size p1 1 4 ) ks_X9_57 ⟨rfl, rfl, Nat.le_of_ble_eq_true rfl, Nat.le_of_ble_eq_true rfl⟩ ⟨Nat.le_of_ble_eq_true rfl, Nat.le_of_ble_eq_true rfl⟩ hK hN hZ hP hD hS hA [] rfl rfl rfl hl.1 rfl (Nat.le_of_ble_eq_true rfl) dX9_feed_6 (fun r_1 hw_r_1 => ?_)
  rcases hw_r_1 with ⟨rfl, h_2, h_3⟩ | ⟨rfl, h_4⟩
  · skip
    refine lv_if_ne (tgt := 19) hx hb dX9_feed_9 (by decide) (fun c_5 => ?_) (fun c_5 => absurd c_5 (by decide))
    rcases x_f4 h_2 h_3 with rfl | rfl | rfl | rfl
    · skip
      refine lv_aload_n hx hb dX9_feed_19 rfl (lv_at hl 0 rfl) ?_
      refine xg hF kf_X9_240 hK hP 0 rfl rfl dX9_feed_20 ?_
      refine lv_iload_n hx hb dX9_feed_23 rfl (lv_at hl 2 rfl) ?_
      refine lv_iadd hx hb dX9_feed_24 ?_
      refine xl_i (y := nI (mz + 1)) (nI_add mz 1) ?_
      refine lv_bipush (v := 120) hx hb dX9_feed_25 (by decide) ?_
      refine lv_icmp_le (tgt := 37) hx hb dX9_feed_27 (by decide) (fun c_6 => ?_) (fun c_6 => ?_)
      · skip
        have nc_6 : mz + 1 ≤ 120 := xn_le (a := (mz + 1)) (b := 120) (by omega) (by omega) c_6
        refine lv_iload_n hx hb dX9_feed_37 rfl (lv_at hl 2 rfl) ?_
        refine lv_iconst (v := 1) hx hb dX9_feed_38 (by decide) ?_
        refine lv_isub hx hb dX9_feed_39 ?_
        refine xl_i (y := 0) (by decide) ?_
        refine lv_istore_n (lv' := [(3, .int 0), (0, .ref h0), (1, .int p0), (2, .int 1)]) hx hb dX9_feed_40 rfl hl (by decide) rfl (fun ls hl => ?_)
        refine lv_iload_n hx hb dX9_feed_41 rfl (lv_at hl 0 rfl) ?_
        refine lv_if_lt (tgt := 80) hx hb dX9_feed_42 (by decide) (fun c_7 => absurd c_7 (by decide)) (fun c_7 => ?_)
        refine lv_aload_n hx hb dX9_feed_45 rfl (lv_at hl 1 rfl) ?_
        refine xg hF kf_X9_37 hK hP 0 rfl rfl dX9_feed_46 ?_
        refine lv_aload_n hx hb dX9_feed_49 rfl (lv_at hl 1 rfl) ?_
        refine xg hF kf_X9_240 hK hP 0 rfl rfl dX9_feed_50 ?_
        refine lv_iload_n hx hb dX9_feed_53 rfl (lv_at hl 2 rfl) ?_
        refine lv_bipush (v := 8) hx hb dX9_feed_54 (by decide) ?_
        refine lv_iload_n hx hb dX9_feed_56 rfl (lv_at hl 0 rfl) ?_
        refine lv_imul hx hb dX9_feed_57 ?_
        refine xl_i (y := 0) (by decide) ?_
        refine lv_ishr hx hb dX9_feed_58 ?_
        refine lv_topi (fun x_8 ex_8 => ?_)
        refine lv_sipush (v := 255) hx hb dX9_feed_59 (by decide) ?_
        refine lv_iand hx hb dX9_feed_62 ?_
        refine xl_i (y := fdv p0 0) (by rw [ex_8]; exact fdvM _ (by decide)) ?_
        refine va_iast hx hb hK hP hD hS 1 0 rfl rfl (vp_in_nI (show mz < 120 by omega) (by decide)) dX9_feed_63 (fun H locs hP hD hS => ?_)
        rw [nI_clamp (show mz < 2 ^ 31 by omega)] at hP hD
        obtain ⟨f_9, ef_9⟩ : ∃ g, g = upd tp mz (fdv p0 0) := ⟨_, rfl⟩
        rw [← ef_9] at hP hD
        have hP : va_P D vwCl [(h0, .inr (9, [.ref ys, .ref yk, .ref yo, .ref yt, .int mk0, .ref yfa, .ref yfe, .int mL, .int mS, .int mM, .ref yro, .ref yhe, .ref ygr, .int mF, .int mC, .int mY, .ref yta, .int (nI (mz)), .int (nI (mf)), .int (nI (mt)), .int mv, .int mw, .ref ywa, .ref ybi, .ref ysi, .ref ynu, .ref ymo])), (yta, .inl (cI, 120, .inl f_9)), (yt, .inl (cI, 7, .inl mq))] H := hP
        have hD : va_D A [(h0, .inr (9, [.ref ys, .ref yk, .ref yo, .ref yt, .int mk0, .ref yfa, .ref yfe, .int mL, .int mS, .int mM, .ref yro, .ref yhe, .ref ygr, .int mF, .int mC, .int mY, .ref yta, .int (nI (mz)), .int (nI (mf)), .int (nI (mt)), .int mv, .int mw, .ref ywa, .ref ybi, .ref ysi, .ref ynu, .ref ymo])), (yta, .inl (cI, 120, .inl f_9)), (yt, .inl (cI, 7, .inl mq))] := hD
        refine lv_aload_n hx hb dX9_feed_64 rfl (lv_at hl 1 rfl) ?_
        refine lv_dup hx hb dX9_feed_65 rfl ?_
        refine xg hF kf_X9_240 hK hP 0 rfl rfl dX9_feed_66 ?_
        refine lv_iconst (v := 1) hx hb dX9_feed_69 (by decide) ?_
        refine lv_iadd hx hb dX9_feed_70 ?_
        refine xl_i (y := nI (mz + 1)) (nI_add mz 1) ?_
        refine xp hF kf_X9_240 tyX9_ok nmX9 hK hP hD hS 0 rfl rfl rfl rfl (Nat.le_of_ble_eq_true rfl) dX9_feed_71 (fun H locs hP hD hS => ?_)
        have hP : va_P D vwCl [(h0, .inr (9, [.ref ys, .ref yk, .ref yo, .ref yt, .int mk0, .ref yfa, .ref yfe, .int mL, .int mS, .int mM, .ref yro, .ref yhe, .ref ygr, .int mF, .int mC, .int mY, .ref yta, .int (nI (mz + 1)), .int (nI (mf)), .int (nI (mt)), .int mv, .int mw, .ref ywa, .ref ybi, .ref ysi, .ref ynu, .ref ymo])), (yta, .inl (cI, 120, .inl f_9)), (yt, .inl (cI, 7, .inl mq))] H := hP
        have hD : va_D A [(h0, .inr (9, [.ref ys, .ref yk, .ref yo, .ref yt, .int mk0, .ref yfa, .ref yfe, .int mL, .int mS, .int mM, .ref yro, .ref yhe, .ref ygr, .int mF, .int mC, .int mY, .ref yta, .int (nI (mz + 1)), .int (nI (mf)), .int (nI (mt)), .int mv, .int mw, .ref ywa, .ref ybi, .ref ysi, .ref ynu, .ref ymo])), (yta, .inl (cI, 120, .inl f_9)), (yt, .inl (cI, 7, .inl mq))] := hD
        refine lv_iinc (v := (-1)) (lv' := [(3, .int (-1)), (0, .ref h0), (1, .int p0), (2, .int 1)]) hx hb dX9_feed_74 hl (k := 0) rfl (by decide) (by decide) rfl (fun ls hl => ?_)
        refine lv_goto (tgt := 41) hx hb dX9_feed_77 (by decide) ?_
        refine lv_iload_n hx hb dX9_feed_41 rfl (lv_at hl 0 rfl) ?_
        refine lv_if_lt (tgt := 80) hx hb dX9_feed_42 (by decide) (fun c_10 => ?_) (fun c_10 => absurd (by decide) c_10)
        refine lv_aload_n hx hb dX9_feed_80 rfl (lv_at hl 1 rfl) ?_
        refine xg hF kf_X9_240 hK hP 0 rfl rfl dX9_feed_81 ?_
        exact W.iret (v := nI (mz + 1)) hx hb hr (fun t ht hW => ⟨⟨nI (mz + 1), (mz + 1, f_9, mq), rfl, ⟨(sp_f1 (p := 1) (c := 1) (by decide) (by decide) (by omega)).2.symm, (sp_f1 (p := 1) (c := 1) (by decide) (by decide) (by omega)).1.symm, (by rw [ef_9]; exact fdT_1 (by omega)), (by first | assumption | omega)⟩, by rw [ht]; exact hP.sub [0, 1, 2] rfl, hD.sub [0, 1, 2] (by decide) rfl⟩, hS.F ht⟩) hS.2.2 dX9_feed_84 hlk
      · skip
        have nc_6 : 120 < mz + 1 := xn_nle (a := (mz + 1)) (b := 120) (by omega) (by omega) c_6
        refine lv_aload_n hx hb dX9_feed_30 rfl (lv_at hl 0 rfl) ?_
        refine lv_ldc (v := (-1000000002)) hx hb hown (hu _ uw676) dX9_feed_31 ?_
        refine xc_Vi (wr := [(yta, .inl (cI, 120, .inl tp))]) hF (c_X9_finds_F l D cI cJ cZ cS ta sa sv s.heap.size h0 ys yk yo yt mk0 yfa yfe mL mS mM yro yhe ygr mF mC mY yta mz mf mt mv mw ywa ybi ysi ynu ymo mq ) kv_X9_70 ⟨rfl, rfl, Nat.le_of_ble_eq_true rfl, Nat.le_of_ble_eq_true rfl⟩ ⟨Nat.le_of_ble_eq_true rfl, Nat.le_of_ble_eq_true rfl⟩ hK hN hZ hP hD hS hA [0, 2] [1] rfl rfl rfl rfl (by decide) 0 rfl rfl rfl rfl hl.1 rfl (Nat.le_of_ble_eq_true rfl) dX9_feed_33 (fun r_11 u_r_11 H locs hw_r_11 hP hD hS => ?_)
        obtain ⟨mq2_12, rfl⟩ : ∃ z, z = u_r_11 := ⟨_, rfl⟩
        try dsimp only at hw_r_11
        have hP : va_P D vwCl [(yta, .inl (cI, 120, .inl tp)), (h0, .inr (9, [.ref ys, .ref yk, .ref yo, .ref yt, .int mk0, .ref yfa, .ref yfe, .int mL, .int mS, .int mM, .ref yro, .ref yhe, .ref ygr, .int mF, .int mC, .int mY, .ref yta, .int (nI (mz)), .int (nI (mf)), .int (nI (mt)), .int mv, .int mw, .ref ywa, .ref ybi, .ref ysi, .ref ynu, .ref ymo])), (yt, .inl (cI, 7, .inl mq2_12))] H := hP
        have hD : va_D A [(yta, .inl (cI, 120, .inl tp)), (h0, .inr (9, [.ref ys, .ref yk, .ref yo, .ref yt, .int mk0, .ref yfa, .ref yfe, .int mL, .int mS, .int mM, .ref yro, .ref yhe, .ref ygr, .int mF, .int mC, .int mY, .ref yta, .int (nI (mz)), .int (nI (mf)), .int (nI (mt)), .int mv, .int mw, .ref ywa, .ref ybi, .ref ysi, .ref ynu, .ref ymo])), (yt, .inl (cI, 7, .inl mq2_12))] := hD
        subst hw_r_11
        exact W.iret (v := (-1000000002)) hx hb hr (fun t ht hW => ⟨⟨(-1000000002), (mz, tp, mq2_12), rfl, ⟨(sp_f2 (p := 1) (c := 1) (by decide) (by decide) (by omega)).2.symm, (sp_f2 (p := 1) (c := 1) (by decide) (by decide) (by omega)).1.symm, fdT_f1 (by omega), (by first | assumption | omega)⟩, by rw [ht]; exact hP.sub [1, 0, 2] rfl, hD.sub [1, 0, 2] (by decide) rfl⟩, hS.F ht⟩) hS.2.2 dX9_feed_36 hlk
    · skip
      refine lv_aload_n hx hb dX9_feed_19 rfl (lv_at hl 0 rfl) ?_
      refine xg hF kf_X9_240 hK hP 0 rfl rfl dX9_feed_20 ?_
      refine lv_iload_n hx hb dX9_feed_23 rfl (lv_at hl 2 rfl) ?_
      refine lv_iadd hx hb dX9_feed_24 ?_
      refine xl_i (y := nI (mz + 2)) (nI_add mz 2) ?_
      refine lv_bipush (v := 120) hx hb dX9_feed_25 (by decide) ?_
      refine lv_icmp_le (tgt := 37) hx hb dX9_feed_27 (by decide) (fun c_13 => ?_) (fun c_13 => ?_)
      · skip
        have nc_13 : mz + 2 ≤ 120 := xn_le (a := (mz + 2)) (b := 120) (by omega) (by omega) c_13
        refine lv_iload_n hx hb dX9_feed_37 rfl (lv_at hl 2 rfl) ?_
        refine lv_iconst (v := 1) hx hb dX9_feed_38 (by decide) ?_
        refine lv_isub hx hb dX9_feed_39 ?_
        refine xl_i (y := 1) (by decide) ?_
        refine lv_istore_n (lv' := [(3, .int 1), (0, .ref h0), (1, .int p0), (2, .int 2)]) hx hb dX9_feed_40 rfl hl (by decide) rfl (fun ls hl => ?_)
        refine lv_iload_n hx hb dX9_feed_41 rfl (lv_at hl 0 rfl) ?_
        refine lv_if_lt (tgt := 80) hx hb dX9_feed_42 (by decide) (fun c_14 => absurd c_14 (by decide)) (fun c_14 => ?_)
        refine lv_aload_n hx hb dX9_feed_45 rfl (lv_at hl 1 rfl) ?_
        refine xg hF kf_X9_37 hK hP 0 rfl rfl dX9_feed_46 ?_
        refine lv_aload_n hx hb dX9_feed_49 rfl (lv_at hl 1 rfl) ?_
        refine xg hF kf_X9_240 hK hP 0 rfl rfl dX9_feed_50 ?_
        refine lv_iload_n hx hb dX9_feed_53 rfl (lv_at hl 2 rfl) ?_
        refine lv_bipush (v := 8) hx hb dX9_feed_54 (by decide) ?_
        refine lv_iload_n hx hb dX9_feed_56 rfl (lv_at hl 0 rfl) ?_
        refine lv_imul hx hb dX9_feed_57 ?_
        refine xl_i (y := 8) (by decide) ?_
        refine lv_ishr hx hb dX9_feed_58 ?_
        refine lv_topi (fun x_15 ex_15 => ?_)
        refine lv_sipush (v := 255) hx hb dX9_feed_59 (by decide) ?_
        refine lv_iand hx hb dX9_feed_62 ?_
        refine xl_i (y := fdv p0 8) (by rw [ex_15]; exact fdvM _ (by decide)) ?_
        refine va_iast hx hb hK hP hD hS 1 0 rfl rfl (vp_in_nI (show mz < 120 by omega) (by decide)) dX9_feed_63 (fun H locs hP hD hS => ?_)
        rw [nI_clamp (show mz < 2 ^ 31 by omega)] at hP hD
        obtain ⟨f_16, ef_16⟩ : ∃ g, g = upd tp mz (fdv p0 8) := ⟨_, rfl⟩
        rw [← ef_16] at hP hD
        have hP : va_P D vwCl [(h0, .inr (9, [.ref ys, .ref yk, .ref yo, .ref yt, .int mk0, .ref yfa, .ref yfe, .int mL, .int mS, .int mM, .ref yro, .ref yhe, .ref ygr, .int mF, .int mC, .int mY, .ref yta, .int (nI (mz)), .int (nI (mf)), .int (nI (mt)), .int mv, .int mw, .ref ywa, .ref ybi, .ref ysi, .ref ynu, .ref ymo])), (yta, .inl (cI, 120, .inl f_16)), (yt, .inl (cI, 7, .inl mq))] H := hP
        have hD : va_D A [(h0, .inr (9, [.ref ys, .ref yk, .ref yo, .ref yt, .int mk0, .ref yfa, .ref yfe, .int mL, .int mS, .int mM, .ref yro, .ref yhe, .ref ygr, .int mF, .int mC, .int mY, .ref yta, .int (nI (mz)), .int (nI (mf)), .int (nI (mt)), .int mv, .int mw, .ref ywa, .ref ybi, .ref ysi, .ref ynu, .ref ymo])), (yta, .inl (cI, 120, .inl f_16)), (yt, .inl (cI, 7, .inl mq))] := hD
        refine lv_aload_n hx hb dX9_feed_64 rfl (lv_at hl 1 rfl) ?_
        refine lv_dup hx hb dX9_feed_65 rfl ?_
        refine xg hF kf_X9_240 hK hP 0 rfl rfl dX9_feed_66 ?_
        refine lv_iconst (v := 1) hx hb dX9_feed_69 (by decide) ?_
        refine lv_iadd hx hb dX9_feed_70 ?_
        refine xl_i (y := nI (mz + 1)) (nI_add mz 1) ?_
        refine xp hF kf_X9_240 tyX9_ok nmX9 hK hP hD hS 0 rfl rfl rfl rfl (Nat.le_of_ble_eq_true rfl) dX9_feed_71 (fun H locs hP hD hS => ?_)
        have hP : va_P D vwCl [(h0, .inr (9, [.ref ys, .ref yk, .ref yo, .ref yt, .int mk0, .ref yfa, .ref yfe, .int mL, .int mS, .int mM, .ref yro, .ref yhe, .ref ygr, .int mF, .int mC, .int mY, .ref yta, .int (nI (mz + 1)), .int (nI (mf)), .int (nI (mt)), .int mv, .int mw, .ref ywa, .ref ybi, .ref ysi, .ref ynu, .ref ymo])), (yta, .inl (cI, 120, .inl f_16)), (yt, .inl (cI, 7, .inl mq))] H := hP
        have hD : va_D A [(h0, .inr (9, [.ref ys, .ref yk, .ref yo, .ref yt, .int mk0, .ref yfa, .ref yfe, .int mL, .int mS, .int mM, .ref yro, .ref yhe, .ref ygr, .int mF, .int mC, .int mY, .ref yta, .int (nI (mz + 1)), .int (nI (mf)), .int (nI (mt)), .int mv, .int mw, .ref ywa, .ref ybi, .ref ysi, .ref ynu, .ref ymo])), (yta, .inl (cI, 120, .inl f_16)), (yt, .inl (cI, 7, .inl mq))] := hD
        refine lv_iinc (v := 0) (lv' := [(3, .int 0), (0, .ref h0), (1, .int p0), (2, .int 2)]) hx hb dX9_feed_74 hl (k := 0) rfl (by decide) (by decide) rfl (fun ls hl => ?_)
        refine lv_goto (tgt := 41) hx hb dX9_feed_77 (by decide) ?_
        refine lv_iload_n hx hb dX9_feed_41 rfl (lv_at hl 0 rfl) ?_
        refine lv_if_lt (tgt := 80) hx hb dX9_feed_42 (by decide) (fun c_17 => absurd c_17 (by decide)) (fun c_17 => ?_)
        refine lv_aload_n hx hb dX9_feed_45 rfl (lv_at hl 1 rfl) ?_
        refine xg hF kf_X9_37 hK hP 0 rfl rfl dX9_feed_46 ?_
        refine lv_aload_n hx hb dX9_feed_49 rfl (lv_at hl 1 rfl) ?_
        refine xg hF kf_X9_240 hK hP 0 rfl rfl dX9_feed_50 ?_
        refine lv_iload_n hx hb dX9_feed_53 rfl (lv_at hl 2 rfl) ?_
        refine lv_bipush (v := 8) hx hb dX9_feed_54 (by decide) ?_
        refine lv_iload_n hx hb dX9_feed_56 rfl (lv_at hl 0 rfl) ?_
        refine lv_imul hx hb dX9_feed_57 ?_
        refine xl_i (y := 0) (by decide) ?_
        refine lv_ishr hx hb dX9_feed_58 ?_
        refine lv_topi (fun x_18 ex_18 => ?_)
        refine lv_sipush (v := 255) hx hb dX9_feed_59 (by decide) ?_
        refine lv_iand hx hb dX9_feed_62 ?_
        refine xl_i (y := fdv p0 0) (by rw [ex_18]; exact fdvM _ (by decide)) ?_
        refine va_iast hx hb hK hP hD hS 1 0 rfl rfl (vp_in_nI (show mz + 1 < 120 by omega) (by decide)) dX9_feed_63 (fun H locs hP hD hS => ?_)
        rw [nI_clamp (show mz + 1 < 2 ^ 31 by omega)] at hP hD
        obtain ⟨f_19, ef_19⟩ : ∃ g, g = upd f_16 (mz + 1) (fdv p0 0) := ⟨_, rfl⟩
        rw [← ef_19] at hP hD
        have hP : va_P D vwCl [(h0, .inr (9, [.ref ys, .ref yk, .ref yo, .ref yt, .int mk0, .ref yfa, .ref yfe, .int mL, .int mS, .int mM, .ref yro, .ref yhe, .ref ygr, .int mF, .int mC, .int mY, .ref yta, .int (nI (mz + 1)), .int (nI (mf)), .int (nI (mt)), .int mv, .int mw, .ref ywa, .ref ybi, .ref ysi, .ref ynu, .ref ymo])), (yta, .inl (cI, 120, .inl f_19)), (yt, .inl (cI, 7, .inl mq))] H := hP
        have hD : va_D A [(h0, .inr (9, [.ref ys, .ref yk, .ref yo, .ref yt, .int mk0, .ref yfa, .ref yfe, .int mL, .int mS, .int mM, .ref yro, .ref yhe, .ref ygr, .int mF, .int mC, .int mY, .ref yta, .int (nI (mz + 1)), .int (nI (mf)), .int (nI (mt)), .int mv, .int mw, .ref ywa, .ref ybi, .ref ysi, .ref ynu, .ref ymo])), (yta, .inl (cI, 120, .inl f_19)), (yt, .inl (cI, 7, .inl mq))] := hD
        refine lv_aload_n hx hb dX9_feed_64 rfl (lv_at hl 1 rfl) ?_
        refine lv_dup hx hb dX9_feed_65 rfl ?_
        refine xg hF kf_X9_240 hK hP 0 rfl rfl dX9_feed_66 ?_
        refine lv_iconst (v := 1) hx hb dX9_feed_69 (by decide) ?_
        refine lv_iadd hx hb dX9_feed_70 ?_
        refine xl_i (y := nI (mz + 1 + 1)) (nI_add (mz + 1) 1) ?_
        refine xp hF kf_X9_240 tyX9_ok nmX9 hK hP hD hS 0 rfl rfl rfl rfl (Nat.le_of_ble_eq_true rfl) dX9_feed_71 (fun H locs hP hD hS => ?_)
        have hP : va_P D vwCl [(h0, .inr (9, [.ref ys, .ref yk, .ref yo, .ref yt, .int mk0, .ref yfa, .ref yfe, .int mL, .int mS, .int mM, .ref yro, .ref yhe, .ref ygr, .int mF, .int mC, .int mY, .ref yta, .int (nI (mz + 1 + 1)), .int (nI (mf)), .int (nI (mt)), .int mv, .int mw, .ref ywa, .ref ybi, .ref ysi, .ref ynu, .ref ymo])), (yta, .inl (cI, 120, .inl f_19)), (yt, .inl (cI, 7, .inl mq))] H := hP
        have hD : va_D A [(h0, .inr (9, [.ref ys, .ref yk, .ref yo, .ref yt, .int mk0, .ref yfa, .ref yfe, .int mL, .int mS, .int mM, .ref yro, .ref yhe, .ref ygr, .int mF, .int mC, .int mY, .ref yta, .int (nI (mz + 1 + 1)), .int (nI (mf)), .int (nI (mt)), .int mv, .int mw, .ref ywa, .ref ybi, .ref ysi, .ref ynu, .ref ymo])), (yta, .inl (cI, 120, .inl f_19)), (yt, .inl (cI, 7, .inl mq))] := hD
        refine lv_iinc (v := (-1)) (lv' := [(3, .int (-1)), (0, .ref h0), (1, .int p0), (2, .int 2)]) hx hb dX9_feed_74 hl (k := 0) rfl (by decide) (by decide) rfl (fun ls hl => ?_)
        refine lv_goto (tgt := 41) hx hb dX9_feed_77 (by decide) ?_
        refine lv_iload_n hx hb dX9_feed_41 rfl (lv_at hl 0 rfl) ?_
        refine lv_if_lt (tgt := 80) hx hb dX9_feed_42 (by decide) (fun c_20 => ?_) (fun c_20 => absurd (by decide) c_20)
        refine lv_aload_n hx hb dX9_feed_80 rfl (lv_at hl 1 rfl) ?_
        refine xg hF kf_X9_240 hK hP 0 rfl rfl dX9_feed_81 ?_
        exact W.iret (v := nI (mz + 1 + 1)) hx hb hr (fun t ht hW => ⟨⟨nI (mz + 1 + 1), (mz + 1 + 1, f_19, mq), rfl, ⟨(sp_f1 (p := 2) (c := 2) (by decide) (by decide) (by omega)).2.symm, (sp_f1 (p := 2) (c := 2) (by decide) (by decide) (by omega)).1.symm, (by rw [ef_19, ef_16]; exact fdT_2 (by omega)), (by first | assumption | omega)⟩, by rw [ht]; exact hP.sub [0, 1, 2] rfl, hD.sub [0, 1, 2] (by decide) rfl⟩, hS.F ht⟩) hS.2.2 dX9_feed_84 hlk
      · skip
        have nc_13 : 120 < mz + 2 := xn_nle (a := (mz + 2)) (b := 120) (by omega) (by omega) c_13
        refine lv_aload_n hx hb dX9_feed_30 rfl (lv_at hl 0 rfl) ?_
        refine lv_ldc (v := (-1000000002)) hx hb hown (hu _ uw676) dX9_feed_31 ?_
        refine xc_Vi (wr := [(yta, .inl (cI, 120, .inl tp))]) hF (c_X9_finds_F l D cI cJ cZ cS ta sa sv s.heap.size h0 ys yk yo yt mk0 yfa yfe mL mS mM yro yhe ygr mF mC mY yta mz mf mt mv mw ywa ybi ysi ynu ymo mq ) kv_X9_70 ⟨rfl, rfl, Nat.le_of_ble_eq_true rfl, Nat.le_of_ble_eq_true rfl⟩ ⟨Nat.le_of_ble_eq_true rfl, Nat.le_of_ble_eq_true rfl⟩ hK hN hZ hP hD hS hA [0, 2] [1] rfl rfl rfl rfl (by decide) 0 rfl rfl rfl rfl hl.1 rfl (Nat.le_of_ble_eq_true rfl) dX9_feed_33 (fun r_21 u_r_21 H locs hw_r_21 hP hD hS => ?_)
        obtain ⟨mq2_22, rfl⟩ : ∃ z, z = u_r_21 := ⟨_, rfl⟩
        try dsimp only at hw_r_21
        have hP : va_P D vwCl [(yta, .inl (cI, 120, .inl tp)), (h0, .inr (9, [.ref ys, .ref yk, .ref yo, .ref yt, .int mk0, .ref yfa, .ref yfe, .int mL, .int mS, .int mM, .ref yro, .ref yhe, .ref ygr, .int mF, .int mC, .int mY, .ref yta, .int (nI (mz)), .int (nI (mf)), .int (nI (mt)), .int mv, .int mw, .ref ywa, .ref ybi, .ref ysi, .ref ynu, .ref ymo])), (yt, .inl (cI, 7, .inl mq2_22))] H := hP
        have hD : va_D A [(yta, .inl (cI, 120, .inl tp)), (h0, .inr (9, [.ref ys, .ref yk, .ref yo, .ref yt, .int mk0, .ref yfa, .ref yfe, .int mL, .int mS, .int mM, .ref yro, .ref yhe, .ref ygr, .int mF, .int mC, .int mY, .ref yta, .int (nI (mz)), .int (nI (mf)), .int (nI (mt)), .int mv, .int mw, .ref ywa, .ref ybi, .ref ysi, .ref ynu, .ref ymo])), (yt, .inl (cI, 7, .inl mq2_22))] := hD
        subst hw_r_21
        exact W.iret (v := (-1000000002)) hx hb hr (fun t ht hW => ⟨⟨(-1000000002), (mz, tp, mq2_22), rfl, ⟨(sp_f2 (p := 2) (c := 2) (by decide) (by decide) (by omega)).2.symm, (sp_f2 (p := 2) (c := 2) (by decide) (by decide) (by omega)).1.symm, fdT_f2 (by omega), (by first | assumption | omega)⟩, by rw [ht]; exact hP.sub [1, 0, 2] rfl, hD.sub [1, 0, 2] (by decide) rfl⟩, hS.F ht⟩) hS.2.2 dX9_feed_36 hlk
    · skip
      refine lv_aload_n hx hb dX9_feed_19 rfl (lv_at hl 0 rfl) ?_
      refine xg hF kf_X9_240 hK hP 0 rfl rfl dX9_feed_20 ?_
      refine lv_iload_n hx hb dX9_feed_23 rfl (lv_at hl 2 rfl) ?_
      refine lv_iadd hx hb dX9_feed_24 ?_
      refine xl_i (y := nI (mz + 3)) (nI_add mz 3) ?_
      refine lv_bipush (v := 120) hx hb dX9_feed_25 (by decide) ?_
      refine lv_icmp_le (tgt := 37) hx hb dX9_feed_27 (by decide) (fun c_23 => ?_) (fun c_23 => ?_)
      · skip
        have nc_23 : mz + 3 ≤ 120 := xn_le (a := (mz + 3)) (b := 120) (by omega) (by omega) c_23
        refine lv_iload_n hx hb dX9_feed_37 rfl (lv_at hl 2 rfl) ?_
        refine lv_iconst (v := 1) hx hb dX9_feed_38 (by decide) ?_
        refine lv_isub hx hb dX9_feed_39 ?_
        refine xl_i (y := 2) (by decide) ?_
        refine lv_istore_n (lv' := [(3, .int 2), (0, .ref h0), (1, .int p0), (2, .int 3)]) hx hb dX9_feed_40 rfl hl (by decide) rfl (fun ls hl => ?_)
        refine lv_iload_n hx hb dX9_feed_41 rfl (lv_at hl 0 rfl) ?_
        refine lv_if_lt (tgt := 80) hx hb dX9_feed_42 (by decide) (fun c_24 => absurd c_24 (by decide)) (fun c_24 => ?_)
        refine lv_aload_n hx hb dX9_feed_45 rfl (lv_at hl 1 rfl) ?_
        refine xg hF kf_X9_37 hK hP 0 rfl rfl dX9_feed_46 ?_
        refine lv_aload_n hx hb dX9_feed_49 rfl (lv_at hl 1 rfl) ?_
        refine xg hF kf_X9_240 hK hP 0 rfl rfl dX9_feed_50 ?_
        refine lv_iload_n hx hb dX9_feed_53 rfl (lv_at hl 2 rfl) ?_
        refine lv_bipush (v := 8) hx hb dX9_feed_54 (by decide) ?_
        refine lv_iload_n hx hb dX9_feed_56 rfl (lv_at hl 0 rfl) ?_
        refine lv_imul hx hb dX9_feed_57 ?_
        refine xl_i (y := 16) (by decide) ?_
        refine lv_ishr hx hb dX9_feed_58 ?_
        refine lv_topi (fun x_25 ex_25 => ?_)
        refine lv_sipush (v := 255) hx hb dX9_feed_59 (by decide) ?_
        refine lv_iand hx hb dX9_feed_62 ?_
        refine xl_i (y := fdv p0 16) (by rw [ex_25]; exact fdvM _ (by decide)) ?_
        refine va_iast hx hb hK hP hD hS 1 0 rfl rfl (vp_in_nI (show mz < 120 by omega) (by decide)) dX9_feed_63 (fun H locs hP hD hS => ?_)
        rw [nI_clamp (show mz < 2 ^ 31 by omega)] at hP hD
        obtain ⟨f_26, ef_26⟩ : ∃ g, g = upd tp mz (fdv p0 16) := ⟨_, rfl⟩
        rw [← ef_26] at hP hD
        have hP : va_P D vwCl [(h0, .inr (9, [.ref ys, .ref yk, .ref yo, .ref yt, .int mk0, .ref yfa, .ref yfe, .int mL, .int mS, .int mM, .ref yro, .ref yhe, .ref ygr, .int mF, .int mC, .int mY, .ref yta, .int (nI (mz)), .int (nI (mf)), .int (nI (mt)), .int mv, .int mw, .ref ywa, .ref ybi, .ref ysi, .ref ynu, .ref ymo])), (yta, .inl (cI, 120, .inl f_26)), (yt, .inl (cI, 7, .inl mq))] H := hP
        have hD : va_D A [(h0, .inr (9, [.ref ys, .ref yk, .ref yo, .ref yt, .int mk0, .ref yfa, .ref yfe, .int mL, .int mS, .int mM, .ref yro, .ref yhe, .ref ygr, .int mF, .int mC, .int mY, .ref yta, .int (nI (mz)), .int (nI (mf)), .int (nI (mt)), .int mv, .int mw, .ref ywa, .ref ybi, .ref ysi, .ref ynu, .ref ymo])), (yta, .inl (cI, 120, .inl f_26)), (yt, .inl (cI, 7, .inl mq))] := hD
        refine lv_aload_n hx hb dX9_feed_64 rfl (lv_at hl 1 rfl) ?_
        refine lv_dup hx hb dX9_feed_65 rfl ?_
        refine xg hF kf_X9_240 hK hP 0 rfl rfl dX9_feed_66 ?_
        refine lv_iconst (v := 1) hx hb dX9_feed_69 (by decide) ?_
        refine lv_iadd hx hb dX9_feed_70 ?_
        refine xl_i (y := nI (mz + 1)) (nI_add mz 1) ?_
        refine xp hF kf_X9_240 tyX9_ok nmX9 hK hP hD hS 0 rfl rfl rfl rfl (Nat.le_of_ble_eq_true rfl) dX9_feed_71 (fun H locs hP hD hS => ?_)
        have hP : va_P D vwCl [(h0, .inr (9, [.ref ys, .ref yk, .ref yo, .ref yt, .int mk0, .ref yfa, .ref yfe, .int mL, .int mS, .int mM, .ref yro, .ref yhe, .ref ygr, .int mF, .int mC, .int mY, .ref yta, .int (nI (mz + 1)), .int (nI (mf)), .int (nI (mt)), .int mv, .int mw, .ref ywa, .ref ybi, .ref ysi, .ref ynu, .ref ymo])), (yta, .inl (cI, 120, .inl f_26)), (yt, .inl (cI, 7, .inl mq))] H := hP
        have hD : va_D A [(h0, .inr (9, [.ref ys, .ref yk, .ref yo, .ref yt, .int mk0, .ref yfa, .ref yfe, .int mL, .int mS, .int mM, .ref yro, .ref yhe, .ref ygr, .int mF, .int mC, .int mY, .ref yta, .int (nI (mz + 1)), .int (nI (mf)), .int (nI (mt)), .int mv, .int mw, .ref ywa, .ref ybi, .ref ysi, .ref ynu, .ref ymo])), (yta, .inl (cI, 120, .inl f_26)), (yt, .inl (cI, 7, .inl mq))] := hD
        refine lv_iinc (v := 1) (lv' := [(3, .int 1), (0, .ref h0), (1, .int p0), (2, .int 3)]) hx hb dX9_feed_74 hl (k := 0) rfl (by decide) (by decide) rfl (fun ls hl => ?_)
        refine lv_goto (tgt := 41) hx hb dX9_feed_77 (by decide) ?_
        refine lv_iload_n hx hb dX9_feed_41 rfl (lv_at hl 0 rfl) ?_
        refine lv_if_lt (tgt := 80) hx hb dX9_feed_42 (by decide) (fun c_27 => absurd c_27 (by decide)) (fun c_27 => ?_)
        refine lv_aload_n hx hb dX9_feed_45 rfl (lv_at hl 1 rfl) ?_
        refine xg hF kf_X9_37 hK hP 0 rfl rfl dX9_feed_46 ?_
        refine lv_aload_n hx hb dX9_feed_49 rfl (lv_at hl 1 rfl) ?_
        refine xg hF kf_X9_240 hK hP 0 rfl rfl dX9_feed_50 ?_
        refine lv_iload_n hx hb dX9_feed_53 rfl (lv_at hl 2 rfl) ?_
        refine lv_bipush (v := 8) hx hb dX9_feed_54 (by decide) ?_
        refine lv_iload_n hx hb dX9_feed_56 rfl (lv_at hl 0 rfl) ?_
        refine lv_imul hx hb dX9_feed_57 ?_
        refine xl_i (y := 8) (by decide) ?_
        refine lv_ishr hx hb dX9_feed_58 ?_
        refine lv_topi (fun x_28 ex_28 => ?_)
        refine lv_sipush (v := 255) hx hb dX9_feed_59 (by decide) ?_
        refine lv_iand hx hb dX9_feed_62 ?_
        refine xl_i (y := fdv p0 8) (by rw [ex_28]; exact fdvM _ (by decide)) ?_
        refine va_iast hx hb hK hP hD hS 1 0 rfl rfl (vp_in_nI (show mz + 1 < 120 by omega) (by decide)) dX9_feed_63 (fun H locs hP hD hS => ?_)
        rw [nI_clamp (show mz + 1 < 2 ^ 31 by omega)] at hP hD
        obtain ⟨f_29, ef_29⟩ : ∃ g, g = upd f_26 (mz + 1) (fdv p0 8) := ⟨_, rfl⟩
        rw [← ef_29] at hP hD
        have hP : va_P D vwCl [(h0, .inr (9, [.ref ys, .ref yk, .ref yo, .ref yt, .int mk0, .ref yfa, .ref yfe, .int mL, .int mS, .int mM, .ref yro, .ref yhe, .ref ygr, .int mF, .int mC, .int mY, .ref yta, .int (nI (mz + 1)), .int (nI (mf)), .int (nI (mt)), .int mv, .int mw, .ref ywa, .ref ybi, .ref ysi, .ref ynu, .ref ymo])), (yta, .inl (cI, 120, .inl f_29)), (yt, .inl (cI, 7, .inl mq))] H := hP
        have hD : va_D A [(h0, .inr (9, [.ref ys, .ref yk, .ref yo, .ref yt, .int mk0, .ref yfa, .ref yfe, .int mL, .int mS, .int mM, .ref yro, .ref yhe, .ref ygr, .int mF, .int mC, .int mY, .ref yta, .int (nI (mz + 1)), .int (nI (mf)), .int (nI (mt)), .int mv, .int mw, .ref ywa, .ref ybi, .ref ysi, .ref ynu, .ref ymo])), (yta, .inl (cI, 120, .inl f_29)), (yt, .inl (cI, 7, .inl mq))] := hD
        refine lv_aload_n hx hb dX9_feed_64 rfl (lv_at hl 1 rfl) ?_
        refine lv_dup hx hb dX9_feed_65 rfl ?_
        refine xg hF kf_X9_240 hK hP 0 rfl rfl dX9_feed_66 ?_
        refine lv_iconst (v := 1) hx hb dX9_feed_69 (by decide) ?_
        refine lv_iadd hx hb dX9_feed_70 ?_
        refine xl_i (y := nI (mz + 1 + 1)) (nI_add (mz + 1) 1) ?_
        refine xp hF kf_X9_240 tyX9_ok nmX9 hK hP hD hS 0 rfl rfl rfl rfl (Nat.le_of_ble_eq_true rfl) dX9_feed_71 (fun H locs hP hD hS => ?_)
        have hP : va_P D vwCl [(h0, .inr (9, [.ref ys, .ref yk, .ref yo, .ref yt, .int mk0, .ref yfa, .ref yfe, .int mL, .int mS, .int mM, .ref yro, .ref yhe, .ref ygr, .int mF, .int mC, .int mY, .ref yta, .int (nI (mz + 1 + 1)), .int (nI (mf)), .int (nI (mt)), .int mv, .int mw, .ref ywa, .ref ybi, .ref ysi, .ref ynu, .ref ymo])), (yta, .inl (cI, 120, .inl f_29)), (yt, .inl (cI, 7, .inl mq))] H := hP
        have hD : va_D A [(h0, .inr (9, [.ref ys, .ref yk, .ref yo, .ref yt, .int mk0, .ref yfa, .ref yfe, .int mL, .int mS, .int mM, .ref yro, .ref yhe, .ref ygr, .int mF, .int mC, .int mY, .ref yta, .int (nI (mz + 1 + 1)), .int (nI (mf)), .int (nI (mt)), .int mv, .int mw, .ref ywa, .ref ybi, .ref ysi, .ref ynu, .ref ymo])), (yta, .inl (cI, 120, .inl f_29)), (yt, .inl (cI, 7, .inl mq))] := hD
        refine lv_iinc (v := 0) (lv' := [(3, .int 0), (0, .ref h0), (1, .int p0), (2, .int 3)]) hx hb dX9_feed_74 hl (k := 0) rfl (by decide) (by decide) rfl (fun ls hl => ?_)
        refine lv_goto (tgt := 41) hx hb dX9_feed_77 (by decide) ?_
        refine lv_iload_n hx hb dX9_feed_41 rfl (lv_at hl 0 rfl) ?_
        refine lv_if_lt (tgt := 80) hx hb dX9_feed_42 (by decide) (fun c_30 => absurd c_30 (by decide)) (fun c_30 => ?_)
        refine lv_aload_n hx hb dX9_feed_45 rfl (lv_at hl 1 rfl) ?_
        refine xg hF kf_X9_37 hK hP 0 rfl rfl dX9_feed_46 ?_
        refine lv_aload_n hx hb dX9_feed_49 rfl (lv_at hl 1 rfl) ?_
        refine xg hF kf_X9_240 hK hP 0 rfl rfl dX9_feed_50 ?_
        refine lv_iload_n hx hb dX9_feed_53 rfl (lv_at hl 2 rfl) ?_
        refine lv_bipush (v := 8) hx hb dX9_feed_54 (by decide) ?_
        refine lv_iload_n hx hb dX9_feed_56 rfl (lv_at hl 0 rfl) ?_
        refine lv_imul hx hb dX9_feed_57 ?_
        refine xl_i (y := 0) (by decide) ?_
        refine lv_ishr hx hb dX9_feed_58 ?_
        refine lv_topi (fun x_31 ex_31 => ?_)
        refine lv_sipush (v := 255) hx hb dX9_feed_59 (by decide) ?_
        refine lv_iand hx hb dX9_feed_62 ?_
        refine xl_i (y := fdv p0 0) (by rw [ex_31]; exact fdvM _ (by decide)) ?_
        refine va_iast hx hb hK hP hD hS 1 0 rfl rfl (vp_in_nI (show mz + 1 + 1 < 120 by omega) (by decide)) dX9_feed_63 (fun H locs hP hD hS => ?_)
        rw [nI_clamp (show mz + 1 + 1 < 2 ^ 31 by omega)] at hP hD
        obtain ⟨f_32, ef_32⟩ : ∃ g, g = upd f_29 (mz + 1 + 1) (fdv p0 0) := ⟨_, rfl⟩
        rw [← ef_32] at hP hD
        have hP : va_P D vwCl [(h0, .inr (9, [.ref ys, .ref yk, .ref yo, .ref yt, .int mk0, .ref yfa, .ref yfe, .int mL, .int mS, .int mM, .ref yro, .ref yhe, .ref ygr, .int mF, .int mC, .int mY, .ref yta, .int (nI (mz + 1 + 1)), .int (nI (mf)), .int (nI (mt)), .int mv, .int mw, .ref ywa, .ref ybi, .ref ysi, .ref ynu, .ref ymo])), (yta, .inl (cI, 120, .inl f_32)), (yt, .inl (cI, 7, .inl mq))] H := hP
        have hD : va_D A [(h0, .inr (9, [.ref ys, .ref yk, .ref yo, .ref yt, .int mk0, .ref yfa, .ref yfe, .int mL, .int mS, .int mM, .ref yro, .ref yhe, .ref ygr, .int mF, .int mC, .int mY, .ref yta, .int (nI (mz + 1 + 1)), .int (nI (mf)), .int (nI (mt)), .int mv, .int mw, .ref ywa, .ref ybi, .ref ysi, .ref ynu, .ref ymo])), (yta, .inl (cI, 120, .inl f_32)), (yt, .inl (cI, 7, .inl mq))] := hD
        refine lv_aload_n hx hb dX9_feed_64 rfl (lv_at hl 1 rfl) ?_
        refine lv_dup hx hb dX9_feed_65 rfl ?_
        refine xg hF kf_X9_240 hK hP 0 rfl rfl dX9_feed_66 ?_
        refine lv_iconst (v := 1) hx hb dX9_feed_69 (by decide) ?_
        refine lv_iadd hx hb dX9_feed_70 ?_
        refine xl_i (y := nI (mz + 1 + 1 + 1)) (nI_add (mz + 1 + 1) 1) ?_
        refine xp hF kf_X9_240 tyX9_ok nmX9 hK hP hD hS 0 rfl rfl rfl rfl (Nat.le_of_ble_eq_true rfl) dX9_feed_71 (fun H locs hP hD hS => ?_)
        have hP : va_P D vwCl [(h0, .inr (9, [.ref ys, .ref yk, .ref yo, .ref yt, .int mk0, .ref yfa, .ref yfe, .int mL, .int mS, .int mM, .ref yro, .ref yhe, .ref ygr, .int mF, .int mC, .int mY, .ref yta, .int (nI (mz + 1 + 1 + 1)), .int (nI (mf)), .int (nI (mt)), .int mv, .int mw, .ref ywa, .ref ybi, .ref ysi, .ref ynu, .ref ymo])), (yta, .inl (cI, 120, .inl f_32)), (yt, .inl (cI, 7, .inl mq))] H := hP
        have hD : va_D A [(h0, .inr (9, [.ref ys, .ref yk, .ref yo, .ref yt, .int mk0, .ref yfa, .ref yfe, .int mL, .int mS, .int mM, .ref yro, .ref yhe, .ref ygr, .int mF, .int mC, .int mY, .ref yta, .int (nI (mz + 1 + 1 + 1)), .int (nI (mf)), .int (nI (mt)), .int mv, .int mw, .ref ywa, .ref ybi, .ref ysi, .ref ynu, .ref ymo])), (yta, .inl (cI, 120, .inl f_32)), (yt, .inl (cI, 7, .inl mq))] := hD
        refine lv_iinc (v := (-1)) (lv' := [(3, .int (-1)), (0, .ref h0), (1, .int p0), (2, .int 3)]) hx hb dX9_feed_74 hl (k := 0) rfl (by decide) (by decide) rfl (fun ls hl => ?_)
        refine lv_goto (tgt := 41) hx hb dX9_feed_77 (by decide) ?_
        refine lv_iload_n hx hb dX9_feed_41 rfl (lv_at hl 0 rfl) ?_
        refine lv_if_lt (tgt := 80) hx hb dX9_feed_42 (by decide) (fun c_33 => ?_) (fun c_33 => absurd (by decide) c_33)
        refine lv_aload_n hx hb dX9_feed_80 rfl (lv_at hl 1 rfl) ?_
        refine xg hF kf_X9_240 hK hP 0 rfl rfl dX9_feed_81 ?_
        exact W.iret (v := nI (mz + 1 + 1 + 1)) hx hb hr (fun t ht hW => ⟨⟨nI (mz + 1 + 1 + 1), (mz + 1 + 1 + 1, f_32, mq), rfl, ⟨(sp_f1 (p := 3) (c := 3) (by decide) (by decide) (by omega)).2.symm, (sp_f1 (p := 3) (c := 3) (by decide) (by decide) (by omega)).1.symm, (by rw [ef_32, ef_29, ef_26]; exact fdT_3 (by omega)), (by first | assumption | omega)⟩, by rw [ht]; exact hP.sub [0, 1, 2] rfl, hD.sub [0, 1, 2] (by decide) rfl⟩, hS.F ht⟩) hS.2.2 dX9_feed_84 hlk
      · skip
        have nc_23 : 120 < mz + 3 := xn_nle (a := (mz + 3)) (b := 120) (by omega) (by omega) c_23
        refine lv_aload_n hx hb dX9_feed_30 rfl (lv_at hl 0 rfl) ?_
        refine lv_ldc (v := (-1000000002)) hx hb hown (hu _ uw676) dX9_feed_31 ?_
        refine xc_Vi (wr := [(yta, .inl (cI, 120, .inl tp))]) hF (c_X9_finds_F l D cI cJ cZ cS ta sa sv s.heap.size h0 ys yk yo yt mk0 yfa yfe mL mS mM yro yhe ygr mF mC mY yta mz mf mt mv mw ywa ybi ysi ynu ymo mq ) kv_X9_70 ⟨rfl, rfl, Nat.le_of_ble_eq_true rfl, Nat.le_of_ble_eq_true rfl⟩ ⟨Nat.le_of_ble_eq_true rfl, Nat.le_of_ble_eq_true rfl⟩ hK hN hZ hP hD hS hA [0, 2] [1] rfl rfl rfl rfl (by decide) 0 rfl rfl rfl rfl hl.1 rfl (Nat.le_of_ble_eq_true rfl) dX9_feed_33 (fun r_34 u_r_34 H locs hw_r_34 hP hD hS => ?_)
        obtain ⟨mq2_35, rfl⟩ : ∃ z, z = u_r_34 := ⟨_, rfl⟩
        try dsimp only at hw_r_34
        have hP : va_P D vwCl [(yta, .inl (cI, 120, .inl tp)), (h0, .inr (9, [.ref ys, .ref yk, .ref yo, .ref yt, .int mk0, .ref yfa, .ref yfe, .int mL, .int mS, .int mM, .ref yro, .ref yhe, .ref ygr, .int mF, .int mC, .int mY, .ref yta, .int (nI (mz)), .int (nI (mf)), .int (nI (mt)), .int mv, .int mw, .ref ywa, .ref ybi, .ref ysi, .ref ynu, .ref ymo])), (yt, .inl (cI, 7, .inl mq2_35))] H := hP
        have hD : va_D A [(yta, .inl (cI, 120, .inl tp)), (h0, .inr (9, [.ref ys, .ref yk, .ref yo, .ref yt, .int mk0, .ref yfa, .ref yfe, .int mL, .int mS, .int mM, .ref yro, .ref yhe, .ref ygr, .int mF, .int mC, .int mY, .ref yta, .int (nI (mz)), .int (nI (mf)), .int (nI (mt)), .int mv, .int mw, .ref ywa, .ref ybi, .ref ysi, .ref ynu, .ref ymo])), (yt, .inl (cI, 7, .inl mq2_35))] := hD
        subst hw_r_34
        exact W.iret (v := (-1000000002)) hx hb hr (fun t ht hW => ⟨⟨(-1000000002), (mz, tp, mq2_35), rfl, ⟨(sp_f2 (p := 3) (c := 3) (by decide) (by decide) (by omega)).2.symm, (sp_f2 (p := 3) (c := 3) (by decide) (by decide) (by omega)).1.symm, fdT_f3 (by omega), (by first | assumption | omega)⟩, by rw [ht]; exact hP.sub [1, 0, 2] rfl, hD.sub [1, 0, 2] (by decide) rfl⟩, hS.F ht⟩) hS.2.2 dX9_feed_36 hlk
    · skip
      refine lv_aload_n hx hb dX9_feed_19 rfl (lv_at hl 0 rfl) ?_
      refine xg hF kf_X9_240 hK hP 0 rfl rfl dX9_feed_20 ?_
      refine lv_iload_n hx hb dX9_feed_23 rfl (lv_at hl 2 rfl) ?_
      refine lv_iadd hx hb dX9_feed_24 ?_
      refine xl_i (y := nI (mz + 4)) (nI_add mz 4) ?_
      refine lv_bipush (v := 120) hx hb dX9_feed_25 (by decide) ?_
      refine lv_icmp_le (tgt := 37) hx hb dX9_feed_27 (by decide) (fun c_36 => ?_) (fun c_36 => ?_)
      · skip
        have nc_36 : mz + 4 ≤ 120 := xn_le (a := (mz + 4)) (b := 120) (by omega) (by omega) c_36
        refine lv_iload_n hx hb dX9_feed_37 rfl (lv_at hl 2 rfl) ?_
        refine lv_iconst (v := 1) hx hb dX9_feed_38 (by decide) ?_
        refine lv_isub hx hb dX9_feed_39 ?_
        refine xl_i (y := 3) (by decide) ?_
        refine lv_istore_n (lv' := [(3, .int 3), (0, .ref h0), (1, .int p0), (2, .int 4)]) hx hb dX9_feed_40 rfl hl (by decide) rfl (fun ls hl => ?_)
        refine lv_iload_n hx hb dX9_feed_41 rfl (lv_at hl 0 rfl) ?_
        refine lv_if_lt (tgt := 80) hx hb dX9_feed_42 (by decide) (fun c_37 => absurd c_37 (by decide)) (fun c_37 => ?_)
        refine lv_aload_n hx hb dX9_feed_45 rfl (lv_at hl 1 rfl) ?_
        refine xg hF kf_X9_37 hK hP 0 rfl rfl dX9_feed_46 ?_
        refine lv_aload_n hx hb dX9_feed_49 rfl (lv_at hl 1 rfl) ?_
        refine xg hF kf_X9_240 hK hP 0 rfl rfl dX9_feed_50 ?_
        refine lv_iload_n hx hb dX9_feed_53 rfl (lv_at hl 2 rfl) ?_
        refine lv_bipush (v := 8) hx hb dX9_feed_54 (by decide) ?_
        refine lv_iload_n hx hb dX9_feed_56 rfl (lv_at hl 0 rfl) ?_
        refine lv_imul hx hb dX9_feed_57 ?_
        refine xl_i (y := 24) (by decide) ?_
        refine lv_ishr hx hb dX9_feed_58 ?_
        refine lv_topi (fun x_38 ex_38 => ?_)
        refine lv_sipush (v := 255) hx hb dX9_feed_59 (by decide) ?_
        refine lv_iand hx hb dX9_feed_62 ?_
        refine xl_i (y := fdv p0 24) (by rw [ex_38]; exact fdvM _ (by decide)) ?_
        refine va_iast hx hb hK hP hD hS 1 0 rfl rfl (vp_in_nI (show mz < 120 by omega) (by decide)) dX9_feed_63 (fun H locs hP hD hS => ?_)
        rw [nI_clamp (show mz < 2 ^ 31 by omega)] at hP hD
        obtain ⟨f_39, ef_39⟩ : ∃ g, g = upd tp mz (fdv p0 24) := ⟨_, rfl⟩
        rw [← ef_39] at hP hD
        have hP : va_P D vwCl [(h0, .inr (9, [.ref ys, .ref yk, .ref yo, .ref yt, .int mk0, .ref yfa, .ref yfe, .int mL, .int mS, .int mM, .ref yro, .ref yhe, .ref ygr, .int mF, .int mC, .int mY, .ref yta, .int (nI (mz)), .int (nI (mf)), .int (nI (mt)), .int mv, .int mw, .ref ywa, .ref ybi, .ref ysi, .ref ynu, .ref ymo])), (yta, .inl (cI, 120, .inl f_39)), (yt, .inl (cI, 7, .inl mq))] H := hP
        have hD : va_D A [(h0, .inr (9, [.ref ys, .ref yk, .ref yo, .ref yt, .int mk0, .ref yfa, .ref yfe, .int mL, .int mS, .int mM, .ref yro, .ref yhe, .ref ygr, .int mF, .int mC, .int mY, .ref yta, .int (nI (mz)), .int (nI (mf)), .int (nI (mt)), .int mv, .int mw, .ref ywa, .ref ybi, .ref ysi, .ref ynu, .ref ymo])), (yta, .inl (cI, 120, .inl f_39)), (yt, .inl (cI, 7, .inl mq))] := hD
        refine lv_aload_n hx hb dX9_feed_64 rfl (lv_at hl 1 rfl) ?_
        refine lv_dup hx hb dX9_feed_65 rfl ?_
        refine xg hF kf_X9_240 hK hP 0 rfl rfl dX9_feed_66 ?_
        refine lv_iconst (v := 1) hx hb dX9_feed_69 (by decide) ?_
        refine lv_iadd hx hb dX9_feed_70 ?_
        refine xl_i (y := nI (mz + 1)) (nI_add mz 1) ?_
        refine xp hF kf_X9_240 tyX9_ok nmX9 hK hP hD hS 0 rfl rfl rfl rfl (Nat.le_of_ble_eq_true rfl) dX9_feed_71 (fun H locs hP hD hS => ?_)
        have hP : va_P D vwCl [(h0, .inr (9, [.ref ys, .ref yk, .ref yo, .ref yt, .int mk0, .ref yfa, .ref yfe, .int mL, .int mS, .int mM, .ref yro, .ref yhe, .ref ygr, .int mF, .int mC, .int mY, .ref yta, .int (nI (mz + 1)), .int (nI (mf)), .int (nI (mt)), .int mv, .int mw, .ref ywa, .ref ybi, .ref ysi, .ref ynu, .ref ymo])), (yta, .inl (cI, 120, .inl f_39)), (yt, .inl (cI, 7, .inl mq))] H := hP
        have hD : va_D A [(h0, .inr (9, [.ref ys, .ref yk, .ref yo, .ref yt, .int mk0, .ref yfa, .ref yfe, .int mL, .int mS, .int mM, .ref yro, .ref yhe, .ref ygr, .int mF, .int mC, .int mY, .ref yta, .int (nI (mz + 1)), .int (nI (mf)), .int (nI (mt)), .int mv, .int mw, .ref ywa, .ref ybi, .ref ysi, .ref ynu, .ref ymo])), (yta, .inl (cI, 120, .inl f_39)), (yt, .inl (cI, 7, .inl mq))] := hD
        refine lv_iinc (v := 2) (lv' := [(3, .int 2), (0, .ref h0), (1, .int p0), (2, .int 4)]) hx hb dX9_feed_74 hl (k := 0) rfl (by decide) (by decide) rfl (fun ls hl => ?_)
        refine lv_goto (tgt := 41) hx hb dX9_feed_77 (by decide) ?_
        refine lv_iload_n hx hb dX9_feed_41 rfl (lv_at hl 0 rfl) ?_
        refine lv_if_lt (tgt := 80) hx hb dX9_feed_42 (by decide) (fun c_40 => absurd c_40 (by decide)) (fun c_40 => ?_)
        refine lv_aload_n hx hb dX9_feed_45 rfl (lv_at hl 1 rfl) ?_
        refine xg hF kf_X9_37 hK hP 0 rfl rfl dX9_feed_46 ?_
        refine lv_aload_n hx hb dX9_feed_49 rfl (lv_at hl 1 rfl) ?_
        refine xg hF kf_X9_240 hK hP 0 rfl rfl dX9_feed_50 ?_
        refine lv_iload_n hx hb dX9_feed_53 rfl (lv_at hl 2 rfl) ?_
        refine lv_bipush (v := 8) hx hb dX9_feed_54 (by decide) ?_
        refine lv_iload_n hx hb dX9_feed_56 rfl (lv_at hl 0 rfl) ?_
        refine lv_imul hx hb dX9_feed_57 ?_
        refine xl_i (y := 16) (by decide) ?_
        refine lv_ishr hx hb dX9_feed_58 ?_
        refine lv_topi (fun x_41 ex_41 => ?_)
        refine lv_sipush (v := 255) hx hb dX9_feed_59 (by decide) ?_
        refine lv_iand hx hb dX9_feed_62 ?_
        refine xl_i (y := fdv p0 16) (by rw [ex_41]; exact fdvM _ (by decide)) ?_
        refine va_iast hx hb hK hP hD hS 1 0 rfl rfl (vp_in_nI (show mz + 1 < 120 by omega) (by decide)) dX9_feed_63 (fun H locs hP hD hS => ?_)
        rw [nI_clamp (show mz + 1 < 2 ^ 31 by omega)] at hP hD
        obtain ⟨f_42, ef_42⟩ : ∃ g, g = upd f_39 (mz + 1) (fdv p0 16) := ⟨_, rfl⟩
        rw [← ef_42] at hP hD
        have hP : va_P D vwCl [(h0, .inr (9, [.ref ys, .ref yk, .ref yo, .ref yt, .int mk0, .ref yfa, .ref yfe, .int mL, .int mS, .int mM, .ref yro, .ref yhe, .ref ygr, .int mF, .int mC, .int mY, .ref yta, .int (nI (mz + 1)), .int (nI (mf)), .int (nI (mt)), .int mv, .int mw, .ref ywa, .ref ybi, .ref ysi, .ref ynu, .ref ymo])), (yta, .inl (cI, 120, .inl f_42)), (yt, .inl (cI, 7, .inl mq))] H := hP
        have hD : va_D A [(h0, .inr (9, [.ref ys, .ref yk, .ref yo, .ref yt, .int mk0, .ref yfa, .ref yfe, .int mL, .int mS, .int mM, .ref yro, .ref yhe, .ref ygr, .int mF, .int mC, .int mY, .ref yta, .int (nI (mz + 1)), .int (nI (mf)), .int (nI (mt)), .int mv, .int mw, .ref ywa, .ref ybi, .ref ysi, .ref ynu, .ref ymo])), (yta, .inl (cI, 120, .inl f_42)), (yt, .inl (cI, 7, .inl mq))] := hD
        refine lv_aload_n hx hb dX9_feed_64 rfl (lv_at hl 1 rfl) ?_
        refine lv_dup hx hb dX9_feed_65 rfl ?_
        refine xg hF kf_X9_240 hK hP 0 rfl rfl dX9_feed_66 ?_
        refine lv_iconst (v := 1) hx hb dX9_feed_69 (by decide) ?_
        refine lv_iadd hx hb dX9_feed_70 ?_
        refine xl_i (y := nI (mz + 1 + 1)) (nI_add (mz + 1) 1) ?_
        refine xp hF kf_X9_240 tyX9_ok nmX9 hK hP hD hS 0 rfl rfl rfl rfl (Nat.le_of_ble_eq_true rfl) dX9_feed_71 (fun H locs hP hD hS => ?_)
        have hP : va_P D vwCl [(h0, .inr (9, [.ref ys, .ref yk, .ref yo, .ref yt, .int mk0, .ref yfa, .ref yfe, .int mL, .int mS, .int mM, .ref yro, .ref yhe, .ref ygr, .int mF, .int mC, .int mY, .ref yta, .int (nI (mz + 1 + 1)), .int (nI (mf)), .int (nI (mt)), .int mv, .int mw, .ref ywa, .ref ybi, .ref ysi, .ref ynu, .ref ymo])), (yta, .inl (cI, 120, .inl f_42)), (yt, .inl (cI, 7, .inl mq))] H := hP
        have hD : va_D A [(h0, .inr (9, [.ref ys, .ref yk, .ref yo, .ref yt, .int mk0, .ref yfa, .ref yfe, .int mL, .int mS, .int mM, .ref yro, .ref yhe, .ref ygr, .int mF, .int mC, .int mY, .ref yta, .int (nI (mz + 1 + 1)), .int (nI (mf)), .int (nI (mt)), .int mv, .int mw, .ref ywa, .ref ybi, .ref ysi, .ref ynu, .ref ymo])), (yta, .inl (cI, 120, .inl f_42)), (yt, .inl (cI, 7, .inl mq))] := hD
        refine lv_iinc (v := 1) (lv' := [(3, .int 1), (0, .ref h0), (1, .int p0), (2, .int 4)]) hx hb dX9_feed_74 hl (k := 0) rfl (by decide) (by decide) rfl (fun ls hl => ?_)
        refine lv_goto (tgt := 41) hx hb dX9_feed_77 (by decide) ?_
        refine lv_iload_n hx hb dX9_feed_41 rfl (lv_at hl 0 rfl) ?_
        refine lv_if_lt (tgt := 80) hx hb dX9_feed_42 (by decide) (fun c_43 => absurd c_43 (by decide)) (fun c_43 => ?_)
        refine lv_aload_n hx hb dX9_feed_45 rfl (lv_at hl 1 rfl) ?_
        refine xg hF kf_X9_37 hK hP 0 rfl rfl dX9_feed_46 ?_
        refine lv_aload_n hx hb dX9_feed_49 rfl (lv_at hl 1 rfl) ?_
        refine xg hF kf_X9_240 hK hP 0 rfl rfl dX9_feed_50 ?_
        refine lv_iload_n hx hb dX9_feed_53 rfl (lv_at hl 2 rfl) ?_
        refine lv_bipush (v := 8) hx hb dX9_feed_54 (by decide) ?_
        refine lv_iload_n hx hb dX9_feed_56 rfl (lv_at hl 0 rfl) ?_
        refine lv_imul hx hb dX9_feed_57 ?_
        refine xl_i (y := 8) (by decide) ?_
        refine lv_ishr hx hb dX9_feed_58 ?_
        refine lv_topi (fun x_44 ex_44 => ?_)
        refine lv_sipush (v := 255) hx hb dX9_feed_59 (by decide) ?_
        refine lv_iand hx hb dX9_feed_62 ?_
        refine xl_i (y := fdv p0 8) (by rw [ex_44]; exact fdvM _ (by decide)) ?_
        refine va_iast hx hb hK hP hD hS 1 0 rfl rfl (vp_in_nI (show mz + 1 + 1 < 120 by omega) (by decide)) dX9_feed_63 (fun H locs hP hD hS => ?_)
        rw [nI_clamp (show mz + 1 + 1 < 2 ^ 31 by omega)] at hP hD
        obtain ⟨f_45, ef_45⟩ : ∃ g, g = upd f_42 (mz + 1 + 1) (fdv p0 8) := ⟨_, rfl⟩
        rw [← ef_45] at hP hD
        have hP : va_P D vwCl [(h0, .inr (9, [.ref ys, .ref yk, .ref yo, .ref yt, .int mk0, .ref yfa, .ref yfe, .int mL, .int mS, .int mM, .ref yro, .ref yhe, .ref ygr, .int mF, .int mC, .int mY, .ref yta, .int (nI (mz + 1 + 1)), .int (nI (mf)), .int (nI (mt)), .int mv, .int mw, .ref ywa, .ref ybi, .ref ysi, .ref ynu, .ref ymo])), (yta, .inl (cI, 120, .inl f_45)), (yt, .inl (cI, 7, .inl mq))] H := hP
        have hD : va_D A [(h0, .inr (9, [.ref ys, .ref yk, .ref yo, .ref yt, .int mk0, .ref yfa, .ref yfe, .int mL, .int mS, .int mM, .ref yro, .ref yhe, .ref ygr, .int mF, .int mC, .int mY, .ref yta, .int (nI (mz + 1 + 1)), .int (nI (mf)), .int (nI (mt)), .int mv, .int mw, .ref ywa, .ref ybi, .ref ysi, .ref ynu, .ref ymo])), (yta, .inl (cI, 120, .inl f_45)), (yt, .inl (cI, 7, .inl mq))] := hD
        refine lv_aload_n hx hb dX9_feed_64 rfl (lv_at hl 1 rfl) ?_
        refine lv_dup hx hb dX9_feed_65 rfl ?_
        refine xg hF kf_X9_240 hK hP 0 rfl rfl dX9_feed_66 ?_
        refine lv_iconst (v := 1) hx hb dX9_feed_69 (by decide) ?_
        refine lv_iadd hx hb dX9_feed_70 ?_
        refine xl_i (y := nI (mz + 1 + 1 + 1)) (nI_add (mz + 1 + 1) 1) ?_
        refine xp hF kf_X9_240 tyX9_ok nmX9 hK hP hD hS 0 rfl rfl rfl rfl (Nat.le_of_ble_eq_true rfl) dX9_feed_71 (fun H locs hP hD hS => ?_)
        have hP : va_P D vwCl [(h0, .inr (9, [.ref ys, .ref yk, .ref yo, .ref yt, .int mk0, .ref yfa, .ref yfe, .int mL, .int mS, .int mM, .ref yro, .ref yhe, .ref ygr, .int mF, .int mC, .int mY, .ref yta, .int (nI (mz + 1 + 1 + 1)), .int (nI (mf)), .int (nI (mt)), .int mv, .int mw, .ref ywa, .ref ybi, .ref ysi, .ref ynu, .ref ymo])), (yta, .inl (cI, 120, .inl f_45)), (yt, .inl (cI, 7, .inl mq))] H := hP
        have hD : va_D A [(h0, .inr (9, [.ref ys, .ref yk, .ref yo, .ref yt, .int mk0, .ref yfa, .ref yfe, .int mL, .int mS, .int mM, .ref yro, .ref yhe, .ref ygr, .int mF, .int mC, .int mY, .ref yta, .int (nI (mz + 1 + 1 + 1)), .int (nI (mf)), .int (nI (mt)), .int mv, .int mw, .ref ywa, .ref ybi, .ref ysi, .ref ynu, .ref ymo])), (yta, .inl (cI, 120, .inl f_45)), (yt, .inl (cI, 7, .inl mq))] := hD
        refine lv_iinc (v := 0) (lv' := [(3, .int 0), (0, .ref h0), (1, .int p0), (2, .int 4)]) hx hb dX9_feed_74 hl (k := 0) rfl (by decide) (by decide) rfl (fun ls hl => ?_)
        refine lv_goto (tgt := 41) hx hb dX9_feed_77 (by decide) ?_
        refine lv_iload_n hx hb dX9_feed_41 rfl (lv_at hl 0 rfl) ?_
        refine lv_if_lt (tgt := 80) hx hb dX9_feed_42 (by decide) (fun c_46 => absurd c_46 (by decide)) (fun c_46 => ?_)
        refine lv_aload_n hx hb dX9_feed_45 rfl (lv_at hl 1 rfl) ?_
        refine xg hF kf_X9_37 hK hP 0 rfl rfl dX9_feed_46 ?_
        refine lv_aload_n hx hb dX9_feed_49 rfl (lv_at hl 1 rfl) ?_
        refine xg hF kf_X9_240 hK hP 0 rfl rfl dX9_feed_50 ?_
        refine lv_iload_n hx hb dX9_feed_53 rfl (lv_at hl 2 rfl) ?_
        refine lv_bipush (v := 8) hx hb dX9_feed_54 (by decide) ?_
        refine lv_iload_n hx hb dX9_feed_56 rfl (lv_at hl 0 rfl) ?_
        refine lv_imul hx hb dX9_feed_57 ?_
        refine xl_i (y := 0) (by decide) ?_
        refine lv_ishr hx hb dX9_feed_58 ?_
        refine lv_topi (fun x_47 ex_47 => ?_)
        refine lv_sipush (v := 255) hx hb dX9_feed_59 (by decide) ?_
        refine lv_iand hx hb dX9_feed_62 ?_
        refine xl_i (y := fdv p0 0) (by rw [ex_47]; exact fdvM _ (by decide)) ?_
        refine va_iast hx hb hK hP hD hS 1 0 rfl rfl (vp_in_nI (show mz + 1 + 1 + 1 < 120 by omega) (by decide)) dX9_feed_63 (fun H locs hP hD hS => ?_)
        rw [nI_clamp (show mz + 1 + 1 + 1 < 2 ^ 31 by omega)] at hP hD
        obtain ⟨f_48, ef_48⟩ : ∃ g, g = upd f_45 (mz + 1 + 1 + 1) (fdv p0 0) := ⟨_, rfl⟩
        rw [← ef_48] at hP hD
        have hP : va_P D vwCl [(h0, .inr (9, [.ref ys, .ref yk, .ref yo, .ref yt, .int mk0, .ref yfa, .ref yfe, .int mL, .int mS, .int mM, .ref yro, .ref yhe, .ref ygr, .int mF, .int mC, .int mY, .ref yta, .int (nI (mz + 1 + 1 + 1)), .int (nI (mf)), .int (nI (mt)), .int mv, .int mw, .ref ywa, .ref ybi, .ref ysi, .ref ynu, .ref ymo])), (yta, .inl (cI, 120, .inl f_48)), (yt, .inl (cI, 7, .inl mq))] H := hP
        have hD : va_D A [(h0, .inr (9, [.ref ys, .ref yk, .ref yo, .ref yt, .int mk0, .ref yfa, .ref yfe, .int mL, .int mS, .int mM, .ref yro, .ref yhe, .ref ygr, .int mF, .int mC, .int mY, .ref yta, .int (nI (mz + 1 + 1 + 1)), .int (nI (mf)), .int (nI (mt)), .int mv, .int mw, .ref ywa, .ref ybi, .ref ysi, .ref ynu, .ref ymo])), (yta, .inl (cI, 120, .inl f_48)), (yt, .inl (cI, 7, .inl mq))] := hD
        refine lv_aload_n hx hb dX9_feed_64 rfl (lv_at hl 1 rfl) ?_
        refine lv_dup hx hb dX9_feed_65 rfl ?_
        refine xg hF kf_X9_240 hK hP 0 rfl rfl dX9_feed_66 ?_
        refine lv_iconst (v := 1) hx hb dX9_feed_69 (by decide) ?_
        refine lv_iadd hx hb dX9_feed_70 ?_
        refine xl_i (y := nI (mz + 1 + 1 + 1 + 1)) (nI_add (mz + 1 + 1 + 1) 1) ?_
        refine xp hF kf_X9_240 tyX9_ok nmX9 hK hP hD hS 0 rfl rfl rfl rfl (Nat.le_of_ble_eq_true rfl) dX9_feed_71 (fun H locs hP hD hS => ?_)
        have hP : va_P D vwCl [(h0, .inr (9, [.ref ys, .ref yk, .ref yo, .ref yt, .int mk0, .ref yfa, .ref yfe, .int mL, .int mS, .int mM, .ref yro, .ref yhe, .ref ygr, .int mF, .int mC, .int mY, .ref yta, .int (nI (mz + 1 + 1 + 1 + 1)), .int (nI (mf)), .int (nI (mt)), .int mv, .int mw, .ref ywa, .ref ybi, .ref ysi, .ref ynu, .ref ymo])), (yta, .inl (cI, 120, .inl f_48)), (yt, .inl (cI, 7, .inl mq))] H := hP
        have hD : va_D A [(h0, .inr (9, [.ref ys, .ref yk, .ref yo, .ref yt, .int mk0, .ref yfa, .ref yfe, .int mL, .int mS, .int mM, .ref yro, .ref yhe, .ref ygr, .int mF, .int mC, .int mY, .ref yta, .int (nI (mz + 1 + 1 + 1 + 1)), .int (nI (mf)), .int (nI (mt)), .int mv, .int mw, .ref ywa, .ref ybi, .ref ysi, .ref ynu, .ref ymo])), (yta, .inl (cI, 120, .inl f_48)), (yt, .inl (cI, 7, .inl mq))] := hD
        refine lv_iinc (v := (-1)) (lv' := [(3, .int (-1)), (0, .ref h0), (1, .int p0), (2, .int 4)]) hx hb dX9_feed_74 hl (k := 0) rfl (by decide) (by decide) rfl (fun ls hl => ?_)
        refine lv_goto (tgt := 41) hx hb dX9_feed_77 (by decide) ?_
        refine lv_iload_n hx hb dX9_feed_41 rfl (lv_at hl 0 rfl) ?_
        refine lv_if_lt (tgt := 80) hx hb dX9_feed_42 (by decide) (fun c_49 => ?_) (fun c_49 => absurd (by decide) c_49)
        refine lv_aload_n hx hb dX9_feed_80 rfl (lv_at hl 1 rfl) ?_
        refine xg hF kf_X9_240 hK hP 0 rfl rfl dX9_feed_81 ?_
        exact W.iret (v := nI (mz + 1 + 1 + 1 + 1)) hx hb hr (fun t ht hW => ⟨⟨nI (mz + 1 + 1 + 1 + 1), (mz + 1 + 1 + 1 + 1, f_48, mq), rfl, ⟨(sp_f1 (p := 4) (c := 4) (by decide) (by decide) (by omega)).2.symm, (sp_f1 (p := 4) (c := 4) (by decide) (by decide) (by omega)).1.symm, (by rw [ef_48, ef_45, ef_42, ef_39]; exact fdT_4 (by omega)), (by first | assumption | omega)⟩, by rw [ht]; exact hP.sub [0, 1, 2] rfl, hD.sub [0, 1, 2] (by decide) rfl⟩, hS.F ht⟩) hS.2.2 dX9_feed_84 hlk
      · skip
        have nc_36 : 120 < mz + 4 := xn_nle (a := (mz + 4)) (b := 120) (by omega) (by omega) c_36
        refine lv_aload_n hx hb dX9_feed_30 rfl (lv_at hl 0 rfl) ?_
        refine lv_ldc (v := (-1000000002)) hx hb hown (hu _ uw676) dX9_feed_31 ?_
        refine xc_Vi (wr := [(yta, .inl (cI, 120, .inl tp))]) hF (c_X9_finds_F l D cI cJ cZ cS ta sa sv s.heap.size h0 ys yk yo yt mk0 yfa yfe mL mS mM yro yhe ygr mF mC mY yta mz mf mt mv mw ywa ybi ysi ynu ymo mq ) kv_X9_70 ⟨rfl, rfl, Nat.le_of_ble_eq_true rfl, Nat.le_of_ble_eq_true rfl⟩ ⟨Nat.le_of_ble_eq_true rfl, Nat.le_of_ble_eq_true rfl⟩ hK hN hZ hP hD hS hA [0, 2] [1] rfl rfl rfl rfl (by decide) 0 rfl rfl rfl rfl hl.1 rfl (Nat.le_of_ble_eq_true rfl) dX9_feed_33 (fun r_50 u_r_50 H locs hw_r_50 hP hD hS => ?_)
        obtain ⟨mq2_51, rfl⟩ : ∃ z, z = u_r_50 := ⟨_, rfl⟩
        try dsimp only at hw_r_50
        have hP : va_P D vwCl [(yta, .inl (cI, 120, .inl tp)), (h0, .inr (9, [.ref ys, .ref yk, .ref yo, .ref yt, .int mk0, .ref yfa, .ref yfe, .int mL, .int mS, .int mM, .ref yro, .ref yhe, .ref ygr, .int mF, .int mC, .int mY, .ref yta, .int (nI (mz)), .int (nI (mf)), .int (nI (mt)), .int mv, .int mw, .ref ywa, .ref ybi, .ref ysi, .ref ynu, .ref ymo])), (yt, .inl (cI, 7, .inl mq2_51))] H := hP
        have hD : va_D A [(yta, .inl (cI, 120, .inl tp)), (h0, .inr (9, [.ref ys, .ref yk, .ref yo, .ref yt, .int mk0, .ref yfa, .ref yfe, .int mL, .int mS, .int mM, .ref yro, .ref yhe, .ref ygr, .int mF, .int mC, .int mY, .ref yta, .int (nI (mz)), .int (nI (mf)), .int (nI (mt)), .int mv, .int mw, .ref ywa, .ref ybi, .ref ysi, .ref ynu, .ref ymo])), (yt, .inl (cI, 7, .inl mq2_51))] := hD
        subst hw_r_50
        exact W.iret (v := (-1000000002)) hx hb hr (fun t ht hW => ⟨⟨(-1000000002), (mz, tp, mq2_51), rfl, ⟨(sp_f2 (p := 4) (c := 4) (by decide) (by decide) (by omega)).2.symm, (sp_f2 (p := 4) (c := 4) (by decide) (by decide) (by omega)).1.symm, fdT_f4 (by omega), (by first | assumption | omega)⟩, by rw [ht]; exact hP.sub [1, 0, 2] rfl, hD.sub [1, 0, 2] (by decide) rfl⟩, hS.F ht⟩) hS.2.2 dX9_feed_36 hlk
  · skip
    refine lv_if_ne (tgt := 19) hx hb dX9_feed_9 (by decide) (fun c_52 => absurd (by decide) c_52) (fun c_52 => ?_)
    refine lv_aload_n hx hb dX9_feed_12 rfl (lv_at hl 0 rfl) ?_
    refine lv_ldc (v := (-1000000001)) hx hb hown (hu _ uw648) dX9_feed_13 ?_
    refine xc_Vi (wr := [(yta, .inl (cI, 120, .inl tp))]) hF (c_X9_finds_B l D cI cJ cZ cS ta sa sv s.heap.size h0 ys yk yo yt mk0 yfa yfe mL mS mM yro yhe ygr mF mC mY yta mz mf mt mv mw ywa ybi ysi ynu ymo mq ) kv_X9_70 ⟨rfl, rfl, Nat.le_of_ble_eq_true rfl, Nat.le_of_ble_eq_true rfl⟩ ⟨Nat.le_of_ble_eq_true rfl, Nat.le_of_ble_eq_true rfl⟩ hK hN hZ hP hD hS hA [0, 2] [1] rfl rfl rfl rfl (by decide) 0 rfl rfl rfl rfl hl.1 rfl (Nat.le_of_ble_eq_true rfl) dX9_feed_15 (fun r_53 u_r_53 H locs hw_r_53 hP hD hS => ?_)
    obtain ⟨mq2_54, rfl⟩ : ∃ z, z = u_r_53 := ⟨_, rfl⟩
    try dsimp only at hw_r_53
    have hP : va_P D vwCl [(yta, .inl (cI, 120, .inl tp)), (h0, .inr (9, [.ref ys, .ref yk, .ref yo, .ref yt, .int mk0, .ref yfa, .ref yfe, .int mL, .int mS, .int mM, .ref yro, .ref yhe, .ref ygr, .int mF, .int mC, .int mY, .ref yta, .int (nI (mz)), .int (nI (mf)), .int (nI (mt)), .int mv, .int mw, .ref ywa, .ref ybi, .ref ysi, .ref ynu, .ref ymo])), (yt, .inl (cI, 7, .inl mq2_54))] H := hP
    have hD : va_D A [(yta, .inl (cI, 120, .inl tp)), (h0, .inr (9, [.ref ys, .ref yk, .ref yo, .ref yt, .int mk0, .ref yfa, .ref yfe, .int mL, .int mS, .int mM, .ref yro, .ref yhe, .ref ygr, .int mF, .int mC, .int mY, .ref yta, .int (nI (mz)), .int (nI (mf)), .int (nI (mt)), .int mv, .int mw, .ref ywa, .ref ybi, .ref ysi, .ref ynu, .ref ymo])), (yt, .inl (cI, 7, .inl mq2_54))] := hD
    subst hw_r_53
    exact W.iret (v := (-1000000001)) hx hb hr (fun t ht hW => ⟨⟨(-1000000001), (mz, tp, mq2_54), rfl, ⟨(sp_f3 h_4).2.symm, (sp_f3 h_4).1.symm, fdT_b h_4, (by first | assumption | omega)⟩, by rw [ht]; exact hP.sub [1, 0, 2] rfl, hD.sub [1, 0, 2] (by decide) rfl⟩, hS.F ht⟩) hS.2.2 dX9_feed_18 hlk
set_option maxHeartbeats 4000000 in
set_option maxRecDepth 100000 in
theorem c_X9_wipe (l : Launch) (D : va_G) (cI cJ cZ cS : ClassId) (ta : Nat) (sa sv : Nat → Nat) (sz : Nat) (h0 : Nat) (ys : Nat) (yk : Nat) (yo : Nat) (yt : Nat) (mk0 : Int32) (yfa : Nat) (yfe : Nat) (mL : Int32) (mS : Int32) (mM : Int32) (yro : Nat) (yhe : Nat) (ygr : Nat) (mF : Int32) (mC : Int32) (mY : Int32) (yta : Nat) (mz : Nat) (mf : Nat) (mt : Nat) (mv : Int32) (mw : Int32) (ywa : Nat) (ybi : Nat) (ysi : Nat) (ynu : Nat) (ymo : Nat) (hz : mz ≤ 120) : Met l yX9_wipe (Cond.code yX9_wipe cX9_wipe 2 (some .int) :: wsU) ({ frames := 0, cells := 0, slots := 0, locals := 0 }) (va_Pc [.ref h0] (XW D (xT cI cJ cZ cS) ta sa sv [(h0, .inr (9, [.ref ys, .ref yk, .ref yo, .ref yt, .int mk0, .ref yfa, .ref yfe, .int mL, .int mS, .int mM, .ref yro, .ref yhe, .ref ygr, .int mF, .int mC, .int mY, .ref yta, .int (nI (mz)), .int (nI (mf)), .int (nI (mt)), .int mv, .int mw, .ref ywa, .ref ybi, .ref ysi, .ref ynu, .ref ymo]))] sz)) (XQi (fun (r : Int32) (_ : Unit) => ((r = nI (mz)))) D (fun _ : Unit => [(h0, .inr (9, [.ref ys, .ref yk, .ref yo, .ref yt, .int mk0, .ref yfa, .ref yfe, .int mL, .int mS, .int mM, .ref yro, .ref yhe, .ref ygr, .int mF, .int mC, .int mY, .ref yta, .int 0, .int (nI (mf)), .int (nI (mt)), .int mv, .int mw, .ref ywa, .ref ybi, .ref ysi, .ref ynu, .ref ymo]))]) (va_A [(h0, .inr (9, [.ref ys, .ref yk, .ref yo, .ref yt, .int mk0, .ref yfa, .ref yfe, .int mL, .int mS, .int mM, .ref yro, .ref yhe, .ref ygr, .int mF, .int mC, .int mY, .ref yta, .int (nI (mz)), .int (nI (mf)), .int (nI (mt)), .int mv, .int mw, .ref ywa, .ref ybi, .ref ysi, .ref ynu, .ref ymo]))] sz)) 0 0 (va_A [(h0, .inr (9, [.ref ys, .ref yk, .ref yo, .ref yt, .int mk0, .ref yfa, .ref yfe, .int mL, .int mS, .int mM, .ref yro, .ref yhe, .ref ygr, .int mF, .int mC, .int mY, .ref yta, .int (nI (mz)), .int (nI (mf)), .int (nI (mt)), .int mv, .int mw, .ref ywa, .ref ybi, .ref ysi, .ref ynu, .ref ymo]))] sz) := by
  refine xh (QA := fun A => XQi (fun (r : Int32) (_ : Unit) => ((r = nI (mz)))) D (fun _ : Unit => [(h0, .inr (9, [.ref ys, .ref yk, .ref yo, .ref yt, .int mk0, .ref yfa, .ref yfe, .int mL, .int mS, .int mM, .ref yro, .ref yhe, .ref ygr, .int mF, .int mC, .int mY, .ref yta, .int 0, .int (nI (mf)), .int (nI (mt)), .int mv, .int mw, .ref ywa, .ref ybi, .ref ysi, .ref ynu, .ref ymo]))]) A) (fr := fun A => A) (by decide) (Nat.le_of_ble_eq_true rfl) ?_
  intro p e s m below meth c ls A hF hr hlk hin hsz hP hK hD hN hZ hA hS hl
  have hF : CallFix p m c cX9_wipe 2 s _ _ RX9 := hF
  have hx := hF.1
  have hb := hF.2.1
  have hml := hF.2.2.1
  have hown := hF.2.2.2.1
  have hu : ∀ w ∈ wsU, w.before _ s = true := fun w h => hF.2.2.2.2 w (List.mem_cons_of_mem _ h)
  have hl : lv_has ls 2 [(0, .ref h0)] := hl
  refine lv_aload_n hx hb dX9_wipe_0 rfl (lv_at hl 0 rfl) ?_
  refine xg hF kf_X9_240 hK hP 0 rfl rfl dX9_wipe_1 ?_
  refine lv_istore_n (lv' := [(1, .int (nI (mz))), (0, .ref h0)]) hx hb dX9_wipe_4 rfl hl (by decide) rfl (fun ls hl => ?_)
  refine lv_aload_n hx hb dX9_wipe_5 rfl (lv_at hl 1 rfl) ?_
  refine lv_iconst (v := 0) hx hb dX9_wipe_6 (by decide) ?_
  refine xp hF kf_X9_240 tyX9_ok nmX9 hK hP hD hS 0 rfl rfl rfl rfl (Nat.le_of_ble_eq_true rfl) dX9_wipe_7 (fun H locs hP hD hS => ?_)
  have hP : va_P D vwCl [(h0, .inr (9, [.ref ys, .ref yk, .ref yo, .ref yt, .int mk0, .ref yfa, .ref yfe, .int mL, .int mS, .int mM, .ref yro, .ref yhe, .ref ygr, .int mF, .int mC, .int mY, .ref yta, .int 0, .int (nI (mf)), .int (nI (mt)), .int mv, .int mw, .ref ywa, .ref ybi, .ref ysi, .ref ynu, .ref ymo]))] H := hP
  have hD : va_D A [(h0, .inr (9, [.ref ys, .ref yk, .ref yo, .ref yt, .int mk0, .ref yfa, .ref yfe, .int mL, .int mS, .int mM, .ref yro, .ref yhe, .ref ygr, .int mF, .int mC, .int mY, .ref yta, .int 0, .int (nI (mf)), .int (nI (mt)), .int mv, .int mw, .ref ywa, .ref ybi, .ref ysi, .ref ynu, .ref ymo]))] := hD
  refine lv_iload_n hx hb dX9_wipe_10 rfl (lv_at hl 0 rfl) ?_
  exact W.iret (v := nI (mz)) hx hb hr (fun t ht hW => ⟨⟨nI (mz), (), rfl, rfl, by rw [ht]; exact hP.sub [0] rfl, hD.sub [0] (by decide) rfl⟩, hS.F ht⟩) hS.2.2 dX9_wipe_11 hlk
set_option maxHeartbeats 4000000 in
set_option maxRecDepth 100000 in
theorem c_X9_byteAt (l : Launch) (D : va_G) (cI cJ cZ cS : ClassId) (ta : Nat) (sa sv : Nat → Nat) (sz : Nat) (h0 : Nat) (ys : Nat) (yk : Nat) (yo : Nat) (yt : Nat) (mk0 : Int32) (yfa : Nat) (yfe : Nat) (mL : Int32) (mS : Int32) (mM : Int32) (yro : Nat) (yhe : Nat) (ygr : Nat) (mF : Int32) (mC : Int32) (mY : Int32) (yta : Nat) (mz : Nat) (mf : Nat) (mt : Nat) (mv : Int32) (mw : Int32) (ywa : Nat) (ybi : Nat) (ysi : Nat) (ynu : Nat) (ymo : Nat) (tp : Nat → Int32) (k : Nat) (bb : Nat → Int32) (hz : mz ≤ 120) (hbb : bA tp mz = bb) (hk : k ≤ 200) : Met l yX9_byteAt (Cond.code yX9_byteAt cX9_byteAt 2 (some .int) :: wsU) ({ frames := 0, cells := 0, slots := 0, locals := 0 }) (va_Pc [.ref h0, .int (nI (k))] (XW D (xT cI cJ cZ cS) ta sa sv [(h0, .inr (9, [.ref ys, .ref yk, .ref yo, .ref yt, .int mk0, .ref yfa, .ref yfe, .int mL, .int mS, .int mM, .ref yro, .ref yhe, .ref ygr, .int mF, .int mC, .int mY, .ref yta, .int (nI (mz)), .int (nI (mf)), .int (nI (mt)), .int mv, .int mw, .ref ywa, .ref ybi, .ref ysi, .ref ynu, .ref ymo])), (yta, .inl (cI, 120, .inl tp))] sz)) (vp_Si (fun r : Int32 => (r = bb k ∧ (k < mz)) ∨ (r = (-1) ∧ (mz ≤ k)))) 0 0 (fun _ => False) := by
  refine xh (QA := fun _ => vp_Si (fun r : Int32 => (r = bb k ∧ (k < mz)) ∨ (r = (-1) ∧ (mz ≤ k)))) (fr := fun _ _ => False) (by decide) (Nat.le_of_ble_eq_true rfl) ?_
  intro p e s m below meth c ls A hF hr hlk hin hsz hP hK hD hN hZ hA hS hl
  have hF : CallFix p m c cX9_byteAt 2 s _ _ RX9 := hF
  have hx := hF.1
  have hb := hF.2.1
  have hml := hF.2.2.1
  have hown := hF.2.2.2.1
  have hu : ∀ w ∈ wsU, w.before _ s = true := fun w h => hF.2.2.2.2 w (List.mem_cons_of_mem _ h)
  have hl : lv_has ls 2 [(0, .ref h0), (1, .int (nI (k)))] := hl
  refine lv_iload_n hx hb dX9_byteAt_0 rfl (lv_at hl 1 rfl) ?_
  refine lv_aload_n hx hb dX9_byteAt_1 rfl (lv_at hl 0 rfl) ?_
  refine xg hF kf_X9_240 hK hP 0 rfl rfl dX9_byteAt_2 ?_
  refine lv_icmp_ge (tgt := 17) hx hb dX9_byteAt_5 (by decide) (fun c_1 => ?_) (fun c_1 => ?_)
  · skip
    have nc_1 : mz ≤ k := xn_le (a := mz) (b := k) (by omega) (by omega) c_1
    refine lv_iconst (v := (-1)) hx hb dX9_byteAt_17 (by decide) ?_
    exact W.iret (v := (-1)) hx hb hr (fun t ht hW => ⟨(-1), rfl, (by first | exact Or.inl ⟨rfl, (by first | assumption | omega | exact Or.inl (by first | assumption | omega) | exact Or.inr (by first | assumption | omega))⟩ | exact Or.inr (⟨rfl, (by first | assumption | omega | exact Or.inl (by first | assumption | omega) | exact Or.inr (by first | assumption | omega))⟩)), ht⟩) (fun q h => by cases h) dX9_byteAt_18 hlk
  · skip
    have nc_1 : k < mz := xn_nle (a := mz) (b := k) (by omega) (by omega) c_1
    refine lv_aload_n hx hb dX9_byteAt_8 rfl (lv_at hl 0 rfl) ?_
    refine xg hF kf_X9_37 hK hP 0 rfl rfl dX9_byteAt_9 ?_
    refine lv_iload_n hx hb dX9_byteAt_12 rfl (lv_at hl 1 rfl) ?_
    refine va_iald hx hb hK hP 1 0 rfl rfl (vp_in_nI (show k < 120 by omega) (by decide)) dX9_byteAt_13 ?_
    refine xl_i (y := tp k) (congrArg tp (nI_clamp (show k < 2 ^ 31 by omega))) ?_
    refine xl_i (y := bb k) (bb_in hbb (by omega)) ?_
    refine lv_goto (tgt := 18) hx hb dX9_byteAt_14 (by decide) ?_
    exact W.iret (v := bb k) hx hb hr (fun t ht hW => ⟨bb k, rfl, (by first | exact Or.inl ⟨rfl, (by first | assumption | omega | exact Or.inl (by first | assumption | omega) | exact Or.inr (by first | assumption | omega))⟩), ht⟩) (fun q h => by cases h) dX9_byteAt_18 hlk
set_option maxHeartbeats 4000000 in
set_option maxRecDepth 100000 in
theorem c_X9_isLetterF (l : Launch) (D : va_G) (cI cJ cZ cS : ClassId) (ta : Nat) (sa sv : Nat → Nat) (sz : Nat) (p0 : Int32) : Met l yX9_isLetter (Cond.code yX9_isLetter cX9_isLetter 1 (some .boolean) :: wsU) ({ frames := 1, cells := 0, slots := 0, locals := 25 }) (va_Pc [.int p0] (XW D (xT cI cJ cZ cS) ta sa sv [] sz)) (vp_Si (fun r : Int32 => (r = 1 ∧ (¬ p0 < 97) ∧ (¬ 122 < p0)) ∨ (r = 0 ∧ (p0 < 97 ∨ 122 < p0)))) 0 0 (fun _ => False) := by
  refine xh (QA := fun _ => vp_Si (fun r : Int32 => (r = 1 ∧ (¬ p0 < 97) ∧ (¬ 122 < p0)) ∨ (r = 0 ∧ (p0 < 97 ∨ 122 < p0)))) (fr := fun _ _ => False) (by decide) (Nat.le_of_ble_eq_true rfl) ?_
  intro p e s m below meth c ls A hF hr hlk hin hsz hP hK hD hN hZ hA hS hl
  have hF : CallFix p m c cX9_isLetter 1 s _ _ RX9 := hF
  have hx := hF.1
  have hb := hF.2.1
  have hml := hF.2.2.1
  have hown := hF.2.2.2.1
  have hu : ∀ w ∈ wsU, w.before _ s = true := fun w h => hF.2.2.2.2 w (List.mem_cons_of_mem _ h)
  have hl : lv_has ls 1 [(0, .int p0)] := hl
  refine lv_iload_n hx hb dX9_isLetter_0 rfl (lv_at hl 0 rfl) ?_
  refine lv_i2l (v := p0.toInt64) hx hb dX9_isLetter_1 rfl ?_
  refine lv_ldc2 (v := 97) hx hb hown (hu _ uw668) dX9_isLetter_2 ?_
  refine xl_l (y := (97 : Int32).toInt64) (by decide) ?_
  refine lv_ldc2 (v := 122) hx hb hown (hu _ uw669) dX9_isLetter_5 ?_
  refine xl_l (y := (122 : Int32).toInt64) (by decide) ?_
  refine xc_Sr hF (c_X9_in l D cI cJ cZ cS ta sa sv s.heap.size p0 97 122 ) ks_X9_57 ⟨rfl, rfl, Nat.le_of_ble_eq_true rfl, Nat.le_of_ble_eq_true rfl⟩ ⟨Nat.le_of_ble_eq_true rfl, Nat.le_of_ble_eq_true rfl⟩ hK hN hZ hP hD hS hA [] rfl rfl rfl hl.1 rfl (Nat.le_of_ble_eq_true rfl) dX9_isLetter_8 (fun r_1 hw_r_1 => ?_)
  rcases hw_r_1 with ⟨rfl, h_2, h_3⟩ | ⟨rfl, h_4⟩
  · skip
    exact W.zret (v := 1) hx hb hr rfl (fun t ht hW => ⟨1, rfl, (by first | exact Or.inl ⟨rfl, (by first | assumption | omega | exact Or.inl (by first | assumption | omega) | exact Or.inr (by first | assumption | omega)), (by first | assumption | omega | exact Or.inl (by first | assumption | omega) | exact Or.inr (by first | assumption | omega))⟩), ht⟩) (fun q h => by cases h) dX9_isLetter_11 hlk
  · skip
    exact W.zret (v := 0) hx hb hr rfl (fun t ht hW => ⟨0, rfl, (by first | exact Or.inr (⟨rfl, (by first | assumption | omega | exact Or.inl (by first | assumption | omega) | exact Or.inr (by first | assumption | omega))⟩)), ht⟩) (fun q h => by cases h) dX9_isLetter_11 hlk
set_option maxHeartbeats 4000000 in
set_option maxRecDepth 100000 in
theorem c_X9_isLetterM (l : Launch) (D : va_G) (cI cJ cZ cS : ClassId) (ta : Nat) (sa sv : Nat → Nat) (sz : Nat) : Met l yX9_isLetter (Cond.code yX9_isLetter cX9_isLetter 1 (some .boolean) :: wsU) ({ frames := 1, cells := 0, slots := 0, locals := 25 }) (va_Pc [.int (-1)] (XW D (xT cI cJ cZ cS) ta sa sv [] sz)) (vp_Si (fun r : Int32 => (r = 0))) 0 0 (fun _ => False) := by
  refine xh (QA := fun _ => vp_Si (fun r : Int32 => (r = 0))) (fr := fun _ _ => False) (by decide) (Nat.le_of_ble_eq_true rfl) ?_
  intro p e s m below meth c ls A hF hr hlk hin hsz hP hK hD hN hZ hA hS hl
  have hF : CallFix p m c cX9_isLetter 1 s _ _ RX9 := hF
  have hx := hF.1
  have hb := hF.2.1
  have hml := hF.2.2.1
  have hown := hF.2.2.2.1
  have hu : ∀ w ∈ wsU, w.before _ s = true := fun w h => hF.2.2.2.2 w (List.mem_cons_of_mem _ h)
  have hl : lv_has ls 1 [(0, .int (-1))] := hl
  refine lv_iload_n hx hb dX9_isLetter_0 rfl (lv_at hl 0 rfl) ?_
  refine lv_i2l (v := ((-1) : Int32).toInt64) hx hb dX9_isLetter_1 rfl ?_
  refine lv_ldc2 (v := 97) hx hb hown (hu _ uw668) dX9_isLetter_2 ?_
  refine xl_l (y := (97 : Int32).toInt64) (by decide) ?_
  refine lv_ldc2 (v := 122) hx hb hown (hu _ uw669) dX9_isLetter_5 ?_
  refine xl_l (y := (122 : Int32).toInt64) (by decide) ?_
  refine xc_Sr hF (c_X9_in l D cI cJ cZ cS ta sa sv s.heap.size ((-1) : Int32) 97 122 ) ks_X9_57 ⟨rfl, rfl, Nat.le_of_ble_eq_true rfl, Nat.le_of_ble_eq_true rfl⟩ ⟨Nat.le_of_ble_eq_true rfl, Nat.le_of_ble_eq_true rfl⟩ hK hN hZ hP hD hS hA [] rfl rfl rfl hl.1 rfl (Nat.le_of_ble_eq_true rfl) dX9_isLetter_8 (fun r_1 hw_r_1 => ?_)
  rcases hw_r_1 with ⟨rfl, h_2, h_3⟩ | ⟨rfl, h_4⟩
  · exact absurd (by decide) h_2
  · skip
    exact W.zret (v := 0) hx hb hr rfl (fun t ht hW => ⟨0, rfl, (by first | exact rfl), ht⟩) (fun q h => by cases h) dX9_isLetter_11 hlk
set_option maxHeartbeats 4000000 in
set_option maxRecDepth 100000 in
theorem c_X9_isDigitM (l : Launch) (D : va_G) (cI cJ cZ cS : ClassId) (ta : Nat) (sa sv : Nat → Nat) (sz : Nat) : Met l yX9_isDigit (Cond.code yX9_isDigit cX9_isDigit 1 (some .boolean) :: wsU) ({ frames := 1, cells := 0, slots := 0, locals := 25 }) (va_Pc [.int (-1)] (XW D (xT cI cJ cZ cS) ta sa sv [] sz)) (vp_Si (fun r : Int32 => (r = 0))) 0 0 (fun _ => False) := by
  refine xh (QA := fun _ => vp_Si (fun r : Int32 => (r = 0))) (fr := fun _ _ => False) (by decide) (Nat.le_of_ble_eq_true rfl) ?_
  intro p e s m below meth c ls A hF hr hlk hin hsz hP hK hD hN hZ hA hS hl
  have hF : CallFix p m c cX9_isDigit 1 s _ _ RX9 := hF
  have hx := hF.1
  have hb := hF.2.1
  have hml := hF.2.2.1
  have hown := hF.2.2.2.1
  have hu : ∀ w ∈ wsU, w.before _ s = true := fun w h => hF.2.2.2.2 w (List.mem_cons_of_mem _ h)
  have hl : lv_has ls 1 [(0, .int (-1))] := hl
  refine lv_iload_n hx hb dX9_isDigit_0 rfl (lv_at hl 0 rfl) ?_
  refine lv_i2l (v := ((-1) : Int32).toInt64) hx hb dX9_isDigit_1 rfl ?_
  refine lv_ldc2 (v := 48) hx hb hown (hu _ uw670) dX9_isDigit_2 ?_
  refine xl_l (y := (48 : Int32).toInt64) (by decide) ?_
  refine lv_ldc2 (v := 57) hx hb hown (hu _ uw671) dX9_isDigit_5 ?_
  refine xl_l (y := (57 : Int32).toInt64) (by decide) ?_
  refine xc_Sr hF (c_X9_in l D cI cJ cZ cS ta sa sv s.heap.size ((-1) : Int32) 48 57 ) ks_X9_57 ⟨rfl, rfl, Nat.le_of_ble_eq_true rfl, Nat.le_of_ble_eq_true rfl⟩ ⟨Nat.le_of_ble_eq_true rfl, Nat.le_of_ble_eq_true rfl⟩ hK hN hZ hP hD hS hA [] rfl rfl rfl hl.1 rfl (Nat.le_of_ble_eq_true rfl) dX9_isDigit_8 (fun r_1 hw_r_1 => ?_)
  rcases hw_r_1 with ⟨rfl, h_2, h_3⟩ | ⟨rfl, h_4⟩
  · exact absurd (by decide) h_2
  · skip
    exact W.zret (v := 0) hx hb hr rfl (fun t ht hW => ⟨0, rfl, (by first | exact rfl), ht⟩) (fun q h => by cases h) dX9_isDigit_11 hlk
set_option maxHeartbeats 4000000 in
set_option maxRecDepth 100000 in
theorem c_X9_isPlaceM (l : Launch) (D : va_G) (cI cJ cZ cS : ClassId) (ta : Nat) (sa sv : Nat → Nat) (sz : Nat) (h0 : Nat) (ys : Nat) (yk : Nat) (yo : Nat) (yt : Nat) (mk0 : Int32) (yfa : Nat) (yfe : Nat) (mL : Int32) (mS : Int32) (mM : Int32) (yro : Nat) (yhe : Nat) (ygr : Nat) (mF : Int32) (mC : Int32) (mY : Int32) (yta : Nat) (mz : Nat) (mf : Nat) (mt : Nat) (mv : Int32) (mw : Int32) (ywa : Nat) (ybi : Nat) (ysi : Nat) (ynu : Nat) (ymo : Nat) (ms : Nat → Int32) (P : Nat) (Rn : Nat) (Wn : Nat) (fae : Nat → Int32) (fal : Nat → Int32) (fau : Nat → Int32) (fao : Nat → Int32) (farn : Nat → Int32) (farp : Nat → Int32) (fak : Nat → Int32) (fawn : Nat → Int32) (fawp : Nat → Int32) (fat : Nat → Int32) (fas : Nat → Int32) (hs0 : ms 0 = nI P) (hs1 : ms 1 = nI Rn) (hs2 : ms 2 = nI Wn) (hsS : SI ms) (hsM : MI ms) (hsp : P ≤ 10) (hsr : Rn ≤ 8) (hsw : Wn ≤ 8) (hsR : RI Rn ms) (hsG : FR P ms fae fal fau fao farn farp fak fawn fawp fat fas) : Met l yX9_isPlace (Cond.code yX9_isPlace cX9_isPlace 2 (some .boolean) :: wsU) ({ frames := 1, cells := 0, slots := 0, locals := 25 }) (va_Pc [.ref h0, .int (-1)] (XW D (xT cI cJ cZ cS) ta sa sv [(h0, .inr (9, [.ref ys, .ref yk, .ref yo, .ref yt, .int mk0, .ref yfa, .ref yfe, .int mL, .int mS, .int mM, .ref yro, .ref yhe, .ref ygr, .int mF, .int mC, .int mY, .ref yta, .int (nI (mz)), .int (nI (mf)), .int (nI (mt)), .int mv, .int mw, .ref ywa, .ref ybi, .ref ysi, .ref ynu, .ref ymo])), (ys, .inl (cI, 449, .inl ms))] sz)) (vp_Si (fun r : Int32 => (r = 0))) 0 0 (fun _ => False) := by
  refine xh (QA := fun _ => vp_Si (fun r : Int32 => (r = 0))) (fr := fun _ _ => False) (by decide) (Nat.le_of_ble_eq_true rfl) ?_
  intro p e s m below meth c ls A hF hr hlk hin hsz hP hK hD hN hZ hA hS hl
  have hF : CallFix p m c cX9_isPlace 2 s _ _ RX9 := hF
  have hx := hF.1
  have hb := hF.2.1
  have hml := hF.2.2.1
  have hown := hF.2.2.2.1
  have hu : ∀ w ∈ wsU, w.before _ s = true := fun w h => hF.2.2.2.2 w (List.mem_cons_of_mem _ h)
  have hl : lv_has ls 2 [(0, .ref h0), (1, .int (-1))] := hl
  refine lv_iload_n hx hb dX9_isPlace_0 rfl (lv_at hl 1 rfl) ?_
  refine lv_i2l (v := ((-1) : Int32).toInt64) hx hb dX9_isPlace_1 rfl ?_
  refine lv_lconst (v := 0) hx hb dX9_isPlace_2 (by decide) ?_
  refine xl_l (y := (0 : Int32).toInt64) (by decide) ?_
  refine lv_aload_n hx hb dX9_isPlace_3 rfl (lv_at hl 0 rfl) ?_
  refine xg hF kf_X9_7 hK hP 0 rfl rfl dX9_isPlace_4 ?_
  refine lv_iconst (v := 0) hx hb dX9_isPlace_7 (by decide) ?_
  refine va_iald hx hb hK hP 1 0 rfl rfl (xin 0 449 (by decide) (by decide)) dX9_isPlace_8 ?_
  refine xl_i (y := nI (P)) hs0 ?_
  refine lv_iconst (v := 1) hx hb dX9_isPlace_9 (by decide) ?_
  refine lv_isub hx hb dX9_isPlace_10 ?_
  refine lv_topi (fun x_1 ex_1 => ?_)
  refine lv_i2l (v := x_1.toInt64) hx hb dX9_isPlace_11 rfl ?_
  refine xc_Sr hF (c_X9_in l D cI cJ cZ cS ta sa sv s.heap.size ((-1) : Int32) 0 x_1 ) ks_X9_57 ⟨rfl, rfl, Nat.le_of_ble_eq_true rfl, Nat.le_of_ble_eq_true rfl⟩ ⟨Nat.le_of_ble_eq_true rfl, Nat.le_of_ble_eq_true rfl⟩ hK hN hZ hP hD hS hA [] rfl rfl rfl hl.1 rfl (Nat.le_of_ble_eq_true rfl) dX9_isPlace_12 (fun r_2 hw_r_2 => ?_)
  rcases hw_r_2 with ⟨rfl, h_3, h_4⟩ | ⟨rfl, h_5⟩
  · exact absurd (by decide) h_3
  · skip
    exact W.zret (v := 0) hx hb hr rfl (fun t ht hW => ⟨0, rfl, (by first | exact rfl), ht⟩) (fun q h => by cases h) dX9_isPlace_15 hlk
set_option maxHeartbeats 4000000 in
set_option maxRecDepth 100000 in
theorem c_X9_next (l : Launch) (D : va_G) (cI cJ cZ cS : ClassId) (ta : Nat) (sa sv : Nat → Nat) (sz : Nat) (h0 : Nat) (ys : Nat) (yk : Nat) (yo : Nat) (yt : Nat) (mk0 : Int32) (yfa : Nat) (yfe : Nat) (mL : Int32) (mS : Int32) (mM : Int32) (yro : Nat) (yhe : Nat) (ygr : Nat) (mF : Int32) (mC : Int32) (mY : Int32) (yta : Nat) (mz : Nat) (mf : Nat) (mt : Nat) (mv : Int32) (mw : Int32) (ywa : Nat) (ybi : Nat) (ysi : Nat) (ynu : Nat) (ymo : Nat) (tp : Nat → Int32) (bb : Nat → Int32) (hz : mz ≤ 120) (hbb : bA tp mz = bb) (k2 : mt ≤ mz) : Met l yX9_next (Cond.code yX9_next cX9_next 3 none :: wsU) ({ frames := 2, cells := 0, slots := 0, locals := 45 }) (va_Pc [.ref h0] (XW D (xT cI cJ cZ cS) ta sa sv [(h0, .inr (9, [.ref ys, .ref yk, .ref yo, .ref yt, .int mk0, .ref yfa, .ref yfe, .int mL, .int mS, .int mM, .ref yro, .ref yhe, .ref ygr, .int mF, .int mC, .int mY, .ref yta, .int (nI (mz)), .int (nI (mf)), .int (nI (mt)), .int mv, .int mw, .ref ywa, .ref ybi, .ref ysi, .ref ynu, .ref ymo])), (yta, .inl (cI, 120, .inl tp))] sz)) (XQv (fun (u : Nat × Nat) => match u with | (f2, t2) => (f2 = nf bb mz mt) ∧ (t2 = nx bb mz mt)) D (fun (u : Nat × Nat) => match u with | (f2, t2) => [(h0, .inr (9, [.ref ys, .ref yk, .ref yo, .ref yt, .int mk0, .ref yfa, .ref yfe, .int mL, .int mS, .int mM, .ref yro, .ref yhe, .ref ygr, .int mF, .int mC, .int mY, .ref yta, .int (nI (mz)), .int (nI (f2)), .int (nI (t2)), .int mv, .int mw, .ref ywa, .ref ybi, .ref ysi, .ref ynu, .ref ymo])), (yta, .inl (cI, 120, .inl tp))]) (va_A [(h0, .inr (9, [.ref ys, .ref yk, .ref yo, .ref yt, .int mk0, .ref yfa, .ref yfe, .int mL, .int mS, .int mM, .ref yro, .ref yhe, .ref ygr, .int mF, .int mC, .int mY, .ref yta, .int (nI (mz)), .int (nI (mf)), .int (nI (mt)), .int mv, .int mw, .ref ywa, .ref ybi, .ref ysi, .ref ynu, .ref ymo])), (yta, .inl (cI, 120, .inl tp))] sz)) 0 0 (va_A [(h0, .inr (9, [.ref ys, .ref yk, .ref yo, .ref yt, .int mk0, .ref yfa, .ref yfe, .int mL, .int mS, .int mM, .ref yro, .ref yhe, .ref ygr, .int mF, .int mC, .int mY, .ref yta, .int (nI (mz)), .int (nI (mf)), .int (nI (mt)), .int mv, .int mw, .ref ywa, .ref ybi, .ref ysi, .ref ynu, .ref ymo])), (yta, .inl (cI, 120, .inl tp))] sz) := by
  refine xh (QA := fun A => XQv (fun (u : Nat × Nat) => match u with | (f2, t2) => (f2 = nf bb mz mt) ∧ (t2 = nx bb mz mt)) D (fun (u : Nat × Nat) => match u with | (f2, t2) => [(h0, .inr (9, [.ref ys, .ref yk, .ref yo, .ref yt, .int mk0, .ref yfa, .ref yfe, .int mL, .int mS, .int mM, .ref yro, .ref yhe, .ref ygr, .int mF, .int mC, .int mY, .ref yta, .int (nI (mz)), .int (nI (f2)), .int (nI (t2)), .int mv, .int mw, .ref ywa, .ref ybi, .ref ysi, .ref ynu, .ref ymo])), (yta, .inl (cI, 120, .inl tp))]) A) (fr := fun A => A) (by decide) (Nat.le_of_ble_eq_true rfl) ?_
  intro p e s m below meth c ls A hF hr hlk hin hsz hP hK hD hN hZ hA hS hl
  have hF : CallFix p m c cX9_next 3 s _ _ RX9 := hF
  have hx := hF.1
  have hb := hF.2.1
  have hml := hF.2.2.1
  have hown := hF.2.2.2.1
  have hu : ∀ w ∈ wsU, w.before _ s = true := fun w h => hF.2.2.2.2 w (List.mem_cons_of_mem _ h)
  have hl : lv_has ls 3 [(0, .ref h0)] := hl
  refine lv_aload_n hx hb dX9_next_0 rfl (lv_at hl 0 rfl) ?_
  refine lv_aload_n hx hb dX9_next_1 rfl (lv_at hl 0 rfl) ?_
  refine xg hF kf_X9_251 hK hP 0 rfl rfl dX9_next_2 ?_
  refine xp hF kf_X9_254 tyX9_ok nmX9 hK hP hD hS 0 rfl rfl rfl rfl (Nat.le_of_ble_eq_true rfl) dX9_next_5 (fun H locs hP hD hS => ?_)
  have hP : va_P D vwCl [(h0, .inr (9, [.ref ys, .ref yk, .ref yo, .ref yt, .int mk0, .ref yfa, .ref yfe, .int mL, .int mS, .int mM, .ref yro, .ref yhe, .ref ygr, .int mF, .int mC, .int mY, .ref yta, .int (nI (mz)), .int (nI (mt)), .int (nI (mt)), .int mv, .int mw, .ref ywa, .ref ybi, .ref ysi, .ref ynu, .ref ymo])), (yta, .inl (cI, 120, .inl tp))] H := hP
  have hD : va_D A [(h0, .inr (9, [.ref ys, .ref yk, .ref yo, .ref yt, .int mk0, .ref yfa, .ref yfe, .int mL, .int mS, .int mM, .ref yro, .ref yhe, .ref ygr, .int mF, .int mC, .int mY, .ref yta, .int (nI (mz)), .int (nI (mt)), .int (nI (mt)), .int mv, .int mw, .ref ywa, .ref ybi, .ref ysi, .ref ynu, .ref ymo])), (yta, .inl (cI, 120, .inl tp))] := hD
  suffices loop_8 : ∀ (n_8 : Nat) (f8 : Nat) (H : Heap) (locs : List Loc) (ls : Array Slot), mz - f8 < n_8 → (f8 ≤ mz) → (mt ≤ f8) → (skp bb (mz - f8) f8 = nf bb mz mt) → va_P D vwCl [(h0, .inr (9, [.ref ys, .ref yk, .ref yo, .ref yt, .int mk0, .ref yfa, .ref yfe, .int mL, .int mS, .int mM, .ref yro, .ref yhe, .ref ygr, .int mF, .int mC, .int mY, .ref yta, .int (nI (mz)), .int (nI (f8)), .int (nI (mt)), .int mv, .int mw, .ref ywa, .ref ybi, .ref ysi, .ref ynu, .ref ymo])), (yta, .inl (cI, 120, .inl tp))] H → va_D A [(h0, .inr (9, [.ref ys, .ref yk, .ref yo, .ref yt, .int mk0, .ref yfa, .ref yfe, .int mL, .int mS, .int mM, .ref yro, .ref yhe, .ref ygr, .int mF, .int mC, .int mY, .ref yta, .int (nI (mz)), .int (nI (f8)), .int (nI (mt)), .int mv, .int mw, .ref ywa, .ref ybi, .ref ysi, .ref ynu, .ref ymo])), (yta, .inl (cI, 120, .inl tp))] → va_S A s.heap H locs → lv_has ls 3 [(0, .ref h0)] → W p l e ({ frames := 2, cells := 0, slots := 0, locals := 45 }) s m ([.ref h0] : List Value).toArray below meth c H locs 0 0 (MQ below (XQv (fun (u : Nat × Nat) => match u with | (f2, t2) => (f2 = nf bb mz mt) ∧ (t2 = nx bb mz mt)) D (fun (u : Nat × Nat) => match u with | (f2, t2) => [(h0, .inr (9, [.ref ys, .ref yk, .ref yo, .ref yt, .int mk0, .ref yfa, .ref yfe, .int mL, .int mS, .int mM, .ref yro, .ref yhe, .ref ygr, .int mF, .int mC, .int mY, .ref yta, .int (nI (mz)), .int (nI (f2)), .int (nI (t2)), .int mv, .int mw, .ref ywa, .ref ybi, .ref ysi, .ref ynu, .ref ymo])), (yta, .inl (cI, 120, .inl tp))]) A) ([.ref h0] : List Value).toArray s 0 0 A) (F0 m 8 ls []) by
    exact loop_8 _ mt _ _ _ (Nat.lt_succ_self _) (by omega) (by omega) rfl hP hD hS (lv_sub hl [0] rfl)
  intro n_8
  induction n_8 with
  | zero =>
    intro f8 H locs ls hm_8
    exact absurd hm_8 (Nat.not_lt_zero _)
  | succ n_8 ih_8 =>
    intro f8 H locs ls hm_8 hf8 hg8 hs hP hD hS hl
    refine lv_aload_n hx hb dX9_next_8 rfl (lv_at hl 0 rfl) ?_
    refine lv_aload_n hx hb dX9_next_9 rfl (lv_at hl 0 rfl) ?_
    refine xg hF kf_X9_254 hK hP 0 rfl rfl dX9_next_10 ?_
    refine xc_Vr hF (c_X9_byteAt l D cI cJ cZ cS ta sa sv H.size h0 ys yk yo yt mk0 yfa yfe mL mS mM yro yhe ygr mF mC mY yta mz f8 mt mv mw ywa ybi ysi ynu ymo tp f8 bb (by omega) hbb (by omega)) kv_X9_257 ⟨rfl, rfl, Nat.le_of_ble_eq_true rfl, Nat.le_of_ble_eq_true rfl⟩ ⟨Nat.le_of_ble_eq_true rfl, Nat.le_of_ble_eq_true rfl⟩ hK hN hZ hP hD hS hA [0, 1] rfl rfl 0 rfl rfl rfl rfl hl.1 rfl (Nat.le_of_ble_eq_true rfl) dX9_next_13 (fun r_1 hw_r_1 => ?_)
    rcases hw_r_1 with ⟨rfl, h_2⟩ | ⟨rfl, h_3⟩
    · skip
      refine lv_bipush (v := 32) hx hb dX9_next_16 (by decide) ?_
      refine lv_icmp_ne (tgt := 34) hx hb dX9_next_18 (by decide) (fun c_4 => ?_) (fun c_4 => ?_)
      · skip
        have hn9 : nf bb mz mt = f8 := hs.symm.trans (skp_stop c_4)
        refine lv_aload_n hx hb dX9_next_34 rfl (lv_at hl 0 rfl) ?_
        refine lv_aload_n hx hb dX9_next_35 rfl (lv_at hl 0 rfl) ?_
        refine xg hF kf_X9_254 hK hP 0 rfl rfl dX9_next_36 ?_
        refine xc_Vr hF (c_X9_byteAt l D cI cJ cZ cS ta sa sv H.size h0 ys yk yo yt mk0 yfa yfe mL mS mM yro yhe ygr mF mC mY yta mz f8 mt mv mw ywa ybi ysi ynu ymo tp f8 bb (by omega) hbb (by omega)) kv_X9_257 ⟨rfl, rfl, Nat.le_of_ble_eq_true rfl, Nat.le_of_ble_eq_true rfl⟩ ⟨Nat.le_of_ble_eq_true rfl, Nat.le_of_ble_eq_true rfl⟩ hK hN hZ hP hD hS hA [0, 1] rfl rfl 0 rfl rfl rfl rfl hl.1 rfl (Nat.le_of_ble_eq_true rfl) dX9_next_39 (fun r_5 hw_r_5 => ?_)
        rcases hw_r_5 with ⟨rfl, h_6⟩ | ⟨rfl, h_7⟩
        · skip
          refine xc_Sr hF (c_X9_isLetterF l D cI cJ cZ cS ta sa sv H.size (bb f8) ) ks_X9_260 ⟨rfl, rfl, Nat.le_of_ble_eq_true rfl, Nat.le_of_ble_eq_true rfl⟩ ⟨Nat.le_of_ble_eq_true rfl, Nat.le_of_ble_eq_true rfl⟩ hK hN hZ hP hD hS hA [] rfl rfl rfl hl.1 rfl (Nat.le_of_ble_eq_true rfl) dX9_next_42 (fun r_8 hw_r_8 => ?_)
          rcases hw_r_8 with ⟨rfl, h_9, h_10⟩ | ⟨rfl, h_11⟩
          · skip
            refine lv_istore_n (lv' := [(1, .int 1), (0, .ref h0)]) hx hb dX9_next_45 rfl hl (by decide) rfl (fun ls hl => ?_)
            refine lv_aload_n hx hb dX9_next_46 rfl (lv_at hl 1 rfl) ?_
            refine lv_aload_n hx hb dX9_next_47 rfl (lv_at hl 1 rfl) ?_
            refine xg hF kf_X9_254 hK hP 0 rfl rfl dX9_next_48 ?_
            refine xc_Vr hF (c_X9_byteAt l D cI cJ cZ cS ta sa sv H.size h0 ys yk yo yt mk0 yfa yfe mL mS mM yro yhe ygr mF mC mY yta mz f8 mt mv mw ywa ybi ysi ynu ymo tp f8 bb (by omega) hbb (by omega)) kv_X9_257 ⟨rfl, rfl, Nat.le_of_ble_eq_true rfl, Nat.le_of_ble_eq_true rfl⟩ ⟨Nat.le_of_ble_eq_true rfl, Nat.le_of_ble_eq_true rfl⟩ hK hN hZ hP hD hS hA [0, 1] rfl rfl 0 rfl rfl rfl rfl hl.1 rfl (Nat.le_of_ble_eq_true rfl) dX9_next_51 (fun r_12 hw_r_12 => ?_)
            rcases hw_r_12 with ⟨rfl, h_13⟩ | ⟨rfl, h_14⟩
            · skip
              refine xc_Sr hF (c_X9_isDigit l D cI cJ cZ cS ta sa sv H.size (bb f8) ) ks_X9_263 ⟨rfl, rfl, Nat.le_of_ble_eq_true rfl, Nat.le_of_ble_eq_true rfl⟩ ⟨Nat.le_of_ble_eq_true rfl, Nat.le_of_ble_eq_true rfl⟩ hK hN hZ hP hD hS hA [] rfl rfl rfl hl.1 rfl (Nat.le_of_ble_eq_true rfl) dX9_next_54 (fun r_15 hw_r_15 => ?_)
              rcases hw_r_15 with ⟨rfl, h_16, h_17⟩ | ⟨rfl, h_18⟩
              · exact absurd (show isL (bb f8) from ⟨h_9, h_10⟩) (x_LD ⟨h_16, h_17⟩)
              · skip
                refine lv_istore_n (lv' := [(2, .int 0), (1, .int 1), (0, .ref h0)]) hx hb dX9_next_57 rfl hl (by decide) rfl (fun ls hl => ?_)
                refine lv_aload_n hx hb dX9_next_58 rfl (lv_at hl 2 rfl) ?_
                refine lv_aload_n hx hb dX9_next_59 rfl (lv_at hl 2 rfl) ?_
                refine xg hF kf_X9_254 hK hP 0 rfl rfl dX9_next_60 ?_
                refine lv_aload_n hx hb dX9_next_63 rfl (lv_at hl 2 rfl) ?_
                refine xg hF kf_X9_240 hK hP 0 rfl rfl dX9_next_64 ?_
                refine lv_icmp_ge (tgt := 79) hx hb dX9_next_67 (by decide) (fun c_19 => by have nc_19 : mz ≤ f8 := xn_le (a := mz) (b := f8) (by omega) (by omega) c_19; omega) (fun c_19 => ?_)
                have nc_19 : f8 < mz := xn_nle (a := mz) (b := f8) (by omega) (by omega) c_19
                refine lv_aload_n hx hb dX9_next_70 rfl (lv_at hl 2 rfl) ?_
                refine xg hF kf_X9_254 hK hP 0 rfl rfl dX9_next_71 ?_
                refine lv_iconst (v := 1) hx hb dX9_next_74 (by decide) ?_
                refine lv_iadd hx hb dX9_next_75 ?_
                refine xl_i (y := nI (f8 + 1)) (nI_add f8 1) ?_
                refine lv_goto (tgt := 83) hx hb dX9_next_76 (by decide) ?_
                refine xp hF kf_X9_251 tyX9_ok nmX9 hK hP hD hS 0 rfl rfl rfl rfl (Nat.le_of_ble_eq_true rfl) dX9_next_83 (fun H locs hP hD hS => ?_)
                have hP : va_P D vwCl [(h0, .inr (9, [.ref ys, .ref yk, .ref yo, .ref yt, .int mk0, .ref yfa, .ref yfe, .int mL, .int mS, .int mM, .ref yro, .ref yhe, .ref ygr, .int mF, .int mC, .int mY, .ref yta, .int (nI (mz)), .int (nI (f8)), .int (nI (f8 + 1)), .int mv, .int mw, .ref ywa, .ref ybi, .ref ysi, .ref ynu, .ref ymo])), (yta, .inl (cI, 120, .inl tp))] H := hP
                have hD : va_D A [(h0, .inr (9, [.ref ys, .ref yk, .ref yo, .ref yt, .int mk0, .ref yfa, .ref yfe, .int mL, .int mS, .int mM, .ref yro, .ref yhe, .ref ygr, .int mF, .int mC, .int mY, .ref yta, .int (nI (mz)), .int (nI (f8)), .int (nI (f8 + 1)), .int mv, .int mw, .ref ywa, .ref ybi, .ref ysi, .ref ynu, .ref ymo])), (yta, .inl (cI, 120, .inl tp))] := hD
                suffices loop_86 : ∀ (n_86 : Nat) (t8 : Nat) (H : Heap) (locs : List Loc) (ls : Array Slot), mz - t8 < n_86 → (t8 ≤ mz) → (f8 < t8) → (rnL bb (mz - t8) t8 = ne bb mz f8) → va_P D vwCl [(h0, .inr (9, [.ref ys, .ref yk, .ref yo, .ref yt, .int mk0, .ref yfa, .ref yfe, .int mL, .int mS, .int mM, .ref yro, .ref yhe, .ref ygr, .int mF, .int mC, .int mY, .ref yta, .int (nI (mz)), .int (nI (f8)), .int (nI (t8)), .int mv, .int mw, .ref ywa, .ref ybi, .ref ysi, .ref ynu, .ref ymo])), (yta, .inl (cI, 120, .inl tp))] H → va_D A [(h0, .inr (9, [.ref ys, .ref yk, .ref yo, .ref yt, .int mk0, .ref yfa, .ref yfe, .int mL, .int mS, .int mM, .ref yro, .ref yhe, .ref ygr, .int mF, .int mC, .int mY, .ref yta, .int (nI (mz)), .int (nI (f8)), .int (nI (t8)), .int mv, .int mw, .ref ywa, .ref ybi, .ref ysi, .ref ynu, .ref ymo])), (yta, .inl (cI, 120, .inl tp))] → va_S A s.heap H locs → lv_has ls 3 [(2, .int 0), (1, .int 1), (0, .ref h0)] → W p l e ({ frames := 2, cells := 0, slots := 0, locals := 45 }) s m ([.ref h0] : List Value).toArray below meth c H locs 0 0 (MQ below (XQv (fun (u : Nat × Nat) => match u with | (f2, t2) => (f2 = nf bb mz mt) ∧ (t2 = nx bb mz mt)) D (fun (u : Nat × Nat) => match u with | (f2, t2) => [(h0, .inr (9, [.ref ys, .ref yk, .ref yo, .ref yt, .int mk0, .ref yfa, .ref yfe, .int mL, .int mS, .int mM, .ref yro, .ref yhe, .ref ygr, .int mF, .int mC, .int mY, .ref yta, .int (nI (mz)), .int (nI (f2)), .int (nI (t2)), .int mv, .int mw, .ref ywa, .ref ybi, .ref ysi, .ref ynu, .ref ymo])), (yta, .inl (cI, 120, .inl tp))]) A) ([.ref h0] : List Value).toArray s 0 0 A) (F0 m 86 ls []) by
                  exact loop_86 _ (f8 + 1) _ _ _ (Nat.lt_succ_self _) (by omega) (by omega) (by unfold ne; rw [if_pos (show f8 < mz by omega), if_pos ⟨h_9, h_10⟩]) hP hD hS (lv_sub hl [0, 1, 2] rfl)
                intro n_86
                induction n_86 with
                | zero =>
                  intro t8 H locs ls hm_86
                  exact absurd hm_86 (Nat.not_lt_zero _)
                | succ n_86 ih_86 =>
                  intro t8 H locs ls hm_86 ht8 hu8 hI8 hP hD hS hl
                  refine lv_iload_n hx hb dX9_next_86 rfl (lv_at hl 1 rfl) ?_
                  refine lv_if_eq (tgt := 104) hx hb dX9_next_87 (by decide) (fun c_20 => absurd c_20 (by decide)) (fun c_20 => ?_)
                  refine lv_aload_n hx hb dX9_next_90 rfl (lv_at hl 2 rfl) ?_
                  refine lv_aload_n hx hb dX9_next_91 rfl (lv_at hl 2 rfl) ?_
                  refine xg hF kf_X9_251 hK hP 0 rfl rfl dX9_next_92 ?_
                  refine xc_Vr hF (c_X9_byteAt l D cI cJ cZ cS ta sa sv H.size h0 ys yk yo yt mk0 yfa yfe mL mS mM yro yhe ygr mF mC mY yta mz f8 t8 mv mw ywa ybi ysi ynu ymo tp t8 bb (by omega) hbb (by omega)) kv_X9_257 ⟨rfl, rfl, Nat.le_of_ble_eq_true rfl, Nat.le_of_ble_eq_true rfl⟩ ⟨Nat.le_of_ble_eq_true rfl, Nat.le_of_ble_eq_true rfl⟩ hK hN hZ hP hD hS hA [0, 1] rfl rfl 0 rfl rfl rfl rfl hl.1 rfl (Nat.le_of_ble_eq_true rfl) dX9_next_95 (fun r_21 hw_r_21 => ?_)
                  rcases hw_r_21 with ⟨rfl, h_22⟩ | ⟨rfl, h_23⟩
                  · skip
                    refine xc_Sr hF (c_X9_isLetterF l D cI cJ cZ cS ta sa sv H.size (bb t8) ) ks_X9_260 ⟨rfl, rfl, Nat.le_of_ble_eq_true rfl, Nat.le_of_ble_eq_true rfl⟩ ⟨Nat.le_of_ble_eq_true rfl, Nat.le_of_ble_eq_true rfl⟩ hK hN hZ hP hD hS hA [] rfl rfl rfl hl.1 rfl (Nat.le_of_ble_eq_true rfl) dX9_next_98 (fun r_24 hw_r_24 => ?_)
                    rcases hw_r_24 with ⟨rfl, h_25, h_26⟩ | ⟨rfl, h_27⟩
                    · skip
                      refine lv_if_ne (tgt := 122) hx hb dX9_next_101 (by decide) (fun c_28 => ?_) (fun c_28 => absurd c_28 (by decide))
                      refine lv_aload_n hx hb dX9_next_122 rfl (lv_at hl 2 rfl) ?_
                      refine lv_dup hx hb dX9_next_123 rfl ?_
                      refine xg hF kf_X9_251 hK hP 0 rfl rfl dX9_next_124 ?_
                      refine lv_iconst (v := 1) hx hb dX9_next_127 (by decide) ?_
                      refine lv_iadd hx hb dX9_next_128 ?_
                      refine xl_i (y := nI (t8 + 1)) (nI_add t8 1) ?_
                      refine xp hF kf_X9_251 tyX9_ok nmX9 hK hP hD hS 0 rfl rfl rfl rfl (Nat.le_of_ble_eq_true rfl) dX9_next_129 (fun H locs hP hD hS => ?_)
                      have hP : va_P D vwCl [(h0, .inr (9, [.ref ys, .ref yk, .ref yo, .ref yt, .int mk0, .ref yfa, .ref yfe, .int mL, .int mS, .int mM, .ref yro, .ref yhe, .ref ygr, .int mF, .int mC, .int mY, .ref yta, .int (nI (mz)), .int (nI (f8)), .int (nI (t8 + 1)), .int mv, .int mw, .ref ywa, .ref ybi, .ref ysi, .ref ynu, .ref ymo])), (yta, .inl (cI, 120, .inl tp))] H := hP
                      have hD : va_D A [(h0, .inr (9, [.ref ys, .ref yk, .ref yo, .ref yt, .int mk0, .ref yfa, .ref yfe, .int mL, .int mS, .int mM, .ref yro, .ref yhe, .ref ygr, .int mF, .int mC, .int mY, .ref yta, .int (nI (mz)), .int (nI (f8)), .int (nI (t8 + 1)), .int mv, .int mw, .ref ywa, .ref ybi, .ref ysi, .ref ynu, .ref ymo])), (yta, .inl (cI, 120, .inl tp))] := hD
                      refine lv_goto (tgt := 86) hx hb dX9_next_132 (by decide) ?_
                      exact ih_86 (t8 + 1) _ _ _ (by omega) (by omega) (by omega) ((rnL_go (by omega) ⟨h_25, h_26⟩).symm.trans hI8) (hP.sub [0, 1] rfl) (hD.sub [0, 1] (by decide) rfl) hS (lv_sub hl [0, 1, 2] rfl)
                    · skip
                      refine lv_if_ne (tgt := 122) hx hb dX9_next_101 (by decide) (fun c_29 => absurd (by decide) c_29) (fun c_29 => ?_)
                      refine lv_iload_n hx hb dX9_next_104 rfl (lv_at hl 0 rfl) ?_
                      refine lv_if_eq (tgt := 135) hx hb dX9_next_105 (by decide) (fun c_30 => ?_) (fun c_30 => absurd (by decide) c_30)
                      exact W.vret hx hb hr (fun t ht hW => ⟨⟨(f8, t8), rfl, ⟨hn9.symm, (by unfold nx; rw [hn9]; exact (rnL_stop (fun q => h_27.elim q.1 q.2)).symm.trans hI8)⟩, by rw [ht]; exact hP.sub [0, 1] rfl, hD.sub [0, 1] (by decide) rfl⟩, hS.F ht⟩) hS.2.2 dX9_next_135 hlk
                  · skip
                    refine xc_Sr hF (c_X9_isLetterM l D cI cJ cZ cS ta sa sv H.size  ) ks_X9_260 ⟨rfl, rfl, Nat.le_of_ble_eq_true rfl, Nat.le_of_ble_eq_true rfl⟩ ⟨Nat.le_of_ble_eq_true rfl, Nat.le_of_ble_eq_true rfl⟩ hK hN hZ hP hD hS hA [] rfl rfl rfl hl.1 rfl (Nat.le_of_ble_eq_true rfl) dX9_next_98 (fun r_31 hw_r_31 => ?_)
                    subst hw_r_31
                    refine lv_if_ne (tgt := 122) hx hb dX9_next_101 (by decide) (fun c_32 => absurd (by decide) c_32) (fun c_32 => ?_)
                    refine lv_iload_n hx hb dX9_next_104 rfl (lv_at hl 0 rfl) ?_
                    refine lv_if_eq (tgt := 135) hx hb dX9_next_105 (by decide) (fun c_33 => ?_) (fun c_33 => absurd (by decide) c_33)
                    exact W.vret hx hb hr (fun t ht hW => ⟨⟨(f8, t8), rfl, ⟨hn9.symm, (by unfold nx; rw [hn9]; exact (rnL_end (by omega)).symm.trans hI8)⟩, by rw [ht]; exact hP.sub [0, 1] rfl, hD.sub [0, 1] (by decide) rfl⟩, hS.F ht⟩) hS.2.2 dX9_next_135 hlk
            · exact absurd h_14 (by omega)
          · skip
            refine lv_istore_n (lv' := [(1, .int 0), (0, .ref h0)]) hx hb dX9_next_45 rfl hl (by decide) rfl (fun ls hl => ?_)
            refine lv_aload_n hx hb dX9_next_46 rfl (lv_at hl 1 rfl) ?_
            refine lv_aload_n hx hb dX9_next_47 rfl (lv_at hl 1 rfl) ?_
            refine xg hF kf_X9_254 hK hP 0 rfl rfl dX9_next_48 ?_
            refine xc_Vr hF (c_X9_byteAt l D cI cJ cZ cS ta sa sv H.size h0 ys yk yo yt mk0 yfa yfe mL mS mM yro yhe ygr mF mC mY yta mz f8 mt mv mw ywa ybi ysi ynu ymo tp f8 bb (by omega) hbb (by omega)) kv_X9_257 ⟨rfl, rfl, Nat.le_of_ble_eq_true rfl, Nat.le_of_ble_eq_true rfl⟩ ⟨Nat.le_of_ble_eq_true rfl, Nat.le_of_ble_eq_true rfl⟩ hK hN hZ hP hD hS hA [0, 1] rfl rfl 0 rfl rfl rfl rfl hl.1 rfl (Nat.le_of_ble_eq_true rfl) dX9_next_51 (fun r_34 hw_r_34 => ?_)
            rcases hw_r_34 with ⟨rfl, h_35⟩ | ⟨rfl, h_36⟩
            · skip
              refine xc_Sr hF (c_X9_isDigit l D cI cJ cZ cS ta sa sv H.size (bb f8) ) ks_X9_263 ⟨rfl, rfl, Nat.le_of_ble_eq_true rfl, Nat.le_of_ble_eq_true rfl⟩ ⟨Nat.le_of_ble_eq_true rfl, Nat.le_of_ble_eq_true rfl⟩ hK hN hZ hP hD hS hA [] rfl rfl rfl hl.1 rfl (Nat.le_of_ble_eq_true rfl) dX9_next_54 (fun r_37 hw_r_37 => ?_)
              rcases hw_r_37 with ⟨rfl, h_38, h_39⟩ | ⟨rfl, h_40⟩
              · skip
                refine lv_istore_n (lv' := [(2, .int 1), (1, .int 0), (0, .ref h0)]) hx hb dX9_next_57 rfl hl (by decide) rfl (fun ls hl => ?_)
                refine lv_aload_n hx hb dX9_next_58 rfl (lv_at hl 2 rfl) ?_
                refine lv_aload_n hx hb dX9_next_59 rfl (lv_at hl 2 rfl) ?_
                refine xg hF kf_X9_254 hK hP 0 rfl rfl dX9_next_60 ?_
                refine lv_aload_n hx hb dX9_next_63 rfl (lv_at hl 2 rfl) ?_
                refine xg hF kf_X9_240 hK hP 0 rfl rfl dX9_next_64 ?_
                refine lv_icmp_ge (tgt := 79) hx hb dX9_next_67 (by decide) (fun c_41 => by have nc_41 : mz ≤ f8 := xn_le (a := mz) (b := f8) (by omega) (by omega) c_41; omega) (fun c_41 => ?_)
                have nc_41 : f8 < mz := xn_nle (a := mz) (b := f8) (by omega) (by omega) c_41
                refine lv_aload_n hx hb dX9_next_70 rfl (lv_at hl 2 rfl) ?_
                refine xg hF kf_X9_254 hK hP 0 rfl rfl dX9_next_71 ?_
                refine lv_iconst (v := 1) hx hb dX9_next_74 (by decide) ?_
                refine lv_iadd hx hb dX9_next_75 ?_
                refine xl_i (y := nI (f8 + 1)) (nI_add f8 1) ?_
                refine lv_goto (tgt := 83) hx hb dX9_next_76 (by decide) ?_
                refine xp hF kf_X9_251 tyX9_ok nmX9 hK hP hD hS 0 rfl rfl rfl rfl (Nat.le_of_ble_eq_true rfl) dX9_next_83 (fun H locs hP hD hS => ?_)
                have hP : va_P D vwCl [(h0, .inr (9, [.ref ys, .ref yk, .ref yo, .ref yt, .int mk0, .ref yfa, .ref yfe, .int mL, .int mS, .int mM, .ref yro, .ref yhe, .ref ygr, .int mF, .int mC, .int mY, .ref yta, .int (nI (mz)), .int (nI (f8)), .int (nI (f8 + 1)), .int mv, .int mw, .ref ywa, .ref ybi, .ref ysi, .ref ynu, .ref ymo])), (yta, .inl (cI, 120, .inl tp))] H := hP
                have hD : va_D A [(h0, .inr (9, [.ref ys, .ref yk, .ref yo, .ref yt, .int mk0, .ref yfa, .ref yfe, .int mL, .int mS, .int mM, .ref yro, .ref yhe, .ref ygr, .int mF, .int mC, .int mY, .ref yta, .int (nI (mz)), .int (nI (f8)), .int (nI (f8 + 1)), .int mv, .int mw, .ref ywa, .ref ybi, .ref ysi, .ref ynu, .ref ymo])), (yta, .inl (cI, 120, .inl tp))] := hD
                suffices loop_86 : ∀ (n_86 : Nat) (t8 : Nat) (H : Heap) (locs : List Loc) (ls : Array Slot), mz - t8 < n_86 → (t8 ≤ mz) → (f8 < t8) → (rnD bb (mz - t8) t8 = ne bb mz f8) → va_P D vwCl [(h0, .inr (9, [.ref ys, .ref yk, .ref yo, .ref yt, .int mk0, .ref yfa, .ref yfe, .int mL, .int mS, .int mM, .ref yro, .ref yhe, .ref ygr, .int mF, .int mC, .int mY, .ref yta, .int (nI (mz)), .int (nI (f8)), .int (nI (t8)), .int mv, .int mw, .ref ywa, .ref ybi, .ref ysi, .ref ynu, .ref ymo])), (yta, .inl (cI, 120, .inl tp))] H → va_D A [(h0, .inr (9, [.ref ys, .ref yk, .ref yo, .ref yt, .int mk0, .ref yfa, .ref yfe, .int mL, .int mS, .int mM, .ref yro, .ref yhe, .ref ygr, .int mF, .int mC, .int mY, .ref yta, .int (nI (mz)), .int (nI (f8)), .int (nI (t8)), .int mv, .int mw, .ref ywa, .ref ybi, .ref ysi, .ref ynu, .ref ymo])), (yta, .inl (cI, 120, .inl tp))] → va_S A s.heap H locs → lv_has ls 3 [(2, .int 1), (1, .int 0), (0, .ref h0)] → W p l e ({ frames := 2, cells := 0, slots := 0, locals := 45 }) s m ([.ref h0] : List Value).toArray below meth c H locs 0 0 (MQ below (XQv (fun (u : Nat × Nat) => match u with | (f2, t2) => (f2 = nf bb mz mt) ∧ (t2 = nx bb mz mt)) D (fun (u : Nat × Nat) => match u with | (f2, t2) => [(h0, .inr (9, [.ref ys, .ref yk, .ref yo, .ref yt, .int mk0, .ref yfa, .ref yfe, .int mL, .int mS, .int mM, .ref yro, .ref yhe, .ref ygr, .int mF, .int mC, .int mY, .ref yta, .int (nI (mz)), .int (nI (f2)), .int (nI (t2)), .int mv, .int mw, .ref ywa, .ref ybi, .ref ysi, .ref ynu, .ref ymo])), (yta, .inl (cI, 120, .inl tp))]) A) ([.ref h0] : List Value).toArray s 0 0 A) (F0 m 86 ls []) by
                  exact loop_86 _ (f8 + 1) _ _ _ (Nat.lt_succ_self _) (by omega) (by omega) (by unfold ne; rw [if_pos (show f8 < mz by omega), if_neg (x_LD ⟨h_38, h_39⟩), if_pos ⟨h_38, h_39⟩]) hP hD hS (lv_sub hl [0, 1, 2] rfl)
                intro n_86
                induction n_86 with
                | zero =>
                  intro t8 H locs ls hm_86
                  exact absurd hm_86 (Nat.not_lt_zero _)
                | succ n_86 ih_86 =>
                  intro t8 H locs ls hm_86 ht8 hu8 hI8 hP hD hS hl
                  refine lv_iload_n hx hb dX9_next_86 rfl (lv_at hl 1 rfl) ?_
                  refine lv_if_eq (tgt := 104) hx hb dX9_next_87 (by decide) (fun c_42 => ?_) (fun c_42 => absurd (by decide) c_42)
                  refine lv_iload_n hx hb dX9_next_104 rfl (lv_at hl 0 rfl) ?_
                  refine lv_if_eq (tgt := 135) hx hb dX9_next_105 (by decide) (fun c_43 => absurd c_43 (by decide)) (fun c_43 => ?_)
                  refine lv_aload_n hx hb dX9_next_108 rfl (lv_at hl 2 rfl) ?_
                  refine lv_aload_n hx hb dX9_next_109 rfl (lv_at hl 2 rfl) ?_
                  refine xg hF kf_X9_251 hK hP 0 rfl rfl dX9_next_110 ?_
                  refine xc_Vr hF (c_X9_byteAt l D cI cJ cZ cS ta sa sv H.size h0 ys yk yo yt mk0 yfa yfe mL mS mM yro yhe ygr mF mC mY yta mz f8 t8 mv mw ywa ybi ysi ynu ymo tp t8 bb (by omega) hbb (by omega)) kv_X9_257 ⟨rfl, rfl, Nat.le_of_ble_eq_true rfl, Nat.le_of_ble_eq_true rfl⟩ ⟨Nat.le_of_ble_eq_true rfl, Nat.le_of_ble_eq_true rfl⟩ hK hN hZ hP hD hS hA [0, 1] rfl rfl 0 rfl rfl rfl rfl hl.1 rfl (Nat.le_of_ble_eq_true rfl) dX9_next_113 (fun r_44 hw_r_44 => ?_)
                  rcases hw_r_44 with ⟨rfl, h_45⟩ | ⟨rfl, h_46⟩
                  · skip
                    refine xc_Sr hF (c_X9_isDigit l D cI cJ cZ cS ta sa sv H.size (bb t8) ) ks_X9_263 ⟨rfl, rfl, Nat.le_of_ble_eq_true rfl, Nat.le_of_ble_eq_true rfl⟩ ⟨Nat.le_of_ble_eq_true rfl, Nat.le_of_ble_eq_true rfl⟩ hK hN hZ hP hD hS hA [] rfl rfl rfl hl.1 rfl (Nat.le_of_ble_eq_true rfl) dX9_next_116 (fun r_47 hw_r_47 => ?_)
                    rcases hw_r_47 with ⟨rfl, h_48, h_49⟩ | ⟨rfl, h_50⟩
                    · skip
                      refine lv_if_eq (tgt := 135) hx hb dX9_next_119 (by decide) (fun c_51 => absurd c_51 (by decide)) (fun c_51 => ?_)
                      refine lv_aload_n hx hb dX9_next_122 rfl (lv_at hl 2 rfl) ?_
                      refine lv_dup hx hb dX9_next_123 rfl ?_
                      refine xg hF kf_X9_251 hK hP 0 rfl rfl dX9_next_124 ?_
                      refine lv_iconst (v := 1) hx hb dX9_next_127 (by decide) ?_
                      refine lv_iadd hx hb dX9_next_128 ?_
                      refine xl_i (y := nI (t8 + 1)) (nI_add t8 1) ?_
                      refine xp hF kf_X9_251 tyX9_ok nmX9 hK hP hD hS 0 rfl rfl rfl rfl (Nat.le_of_ble_eq_true rfl) dX9_next_129 (fun H locs hP hD hS => ?_)
                      have hP : va_P D vwCl [(h0, .inr (9, [.ref ys, .ref yk, .ref yo, .ref yt, .int mk0, .ref yfa, .ref yfe, .int mL, .int mS, .int mM, .ref yro, .ref yhe, .ref ygr, .int mF, .int mC, .int mY, .ref yta, .int (nI (mz)), .int (nI (f8)), .int (nI (t8 + 1)), .int mv, .int mw, .ref ywa, .ref ybi, .ref ysi, .ref ynu, .ref ymo])), (yta, .inl (cI, 120, .inl tp))] H := hP
                      have hD : va_D A [(h0, .inr (9, [.ref ys, .ref yk, .ref yo, .ref yt, .int mk0, .ref yfa, .ref yfe, .int mL, .int mS, .int mM, .ref yro, .ref yhe, .ref ygr, .int mF, .int mC, .int mY, .ref yta, .int (nI (mz)), .int (nI (f8)), .int (nI (t8 + 1)), .int mv, .int mw, .ref ywa, .ref ybi, .ref ysi, .ref ynu, .ref ymo])), (yta, .inl (cI, 120, .inl tp))] := hD
                      refine lv_goto (tgt := 86) hx hb dX9_next_132 (by decide) ?_
                      exact ih_86 (t8 + 1) _ _ _ (by omega) (by omega) (by omega) ((rnD_go (by omega) ⟨h_48, h_49⟩).symm.trans hI8) (hP.sub [0, 1] rfl) (hD.sub [0, 1] (by decide) rfl) hS (lv_sub hl [0, 1, 2] rfl)
                    · skip
                      refine lv_if_eq (tgt := 135) hx hb dX9_next_119 (by decide) (fun c_52 => ?_) (fun c_52 => absurd (by decide) c_52)
                      exact W.vret hx hb hr (fun t ht hW => ⟨⟨(f8, t8), rfl, ⟨hn9.symm, (by unfold nx; rw [hn9]; exact (rnD_stop (fun q => h_50.elim q.1 q.2)).symm.trans hI8)⟩, by rw [ht]; exact hP.sub [0, 1] rfl, hD.sub [0, 1] (by decide) rfl⟩, hS.F ht⟩) hS.2.2 dX9_next_135 hlk
                  · skip
                    refine xc_Sr hF (c_X9_isDigitM l D cI cJ cZ cS ta sa sv H.size  ) ks_X9_263 ⟨rfl, rfl, Nat.le_of_ble_eq_true rfl, Nat.le_of_ble_eq_true rfl⟩ ⟨Nat.le_of_ble_eq_true rfl, Nat.le_of_ble_eq_true rfl⟩ hK hN hZ hP hD hS hA [] rfl rfl rfl hl.1 rfl (Nat.le_of_ble_eq_true rfl) dX9_next_116 (fun r_53 hw_r_53 => ?_)
                    subst hw_r_53
                    refine lv_if_eq (tgt := 135) hx hb dX9_next_119 (by decide) (fun c_54 => ?_) (fun c_54 => absurd (by decide) c_54)
                    exact W.vret hx hb hr (fun t ht hW => ⟨⟨(f8, t8), rfl, ⟨hn9.symm, (by unfold nx; rw [hn9]; exact (rnD_end (by omega)).symm.trans hI8)⟩, by rw [ht]; exact hP.sub [0, 1] rfl, hD.sub [0, 1] (by decide) rfl⟩, hS.F ht⟩) hS.2.2 dX9_next_135 hlk
              · skip
                refine lv_istore_n (lv' := [(2, .int 0), (1, .int 0), (0, .ref h0)]) hx hb dX9_next_57 rfl hl (by decide) rfl (fun ls hl => ?_)
                refine lv_aload_n hx hb dX9_next_58 rfl (lv_at hl 2 rfl) ?_
                refine lv_aload_n hx hb dX9_next_59 rfl (lv_at hl 2 rfl) ?_
                refine xg hF kf_X9_254 hK hP 0 rfl rfl dX9_next_60 ?_
                refine lv_aload_n hx hb dX9_next_63 rfl (lv_at hl 2 rfl) ?_
                refine xg hF kf_X9_240 hK hP 0 rfl rfl dX9_next_64 ?_
                refine lv_icmp_ge (tgt := 79) hx hb dX9_next_67 (by decide) (fun c_55 => by have nc_55 : mz ≤ f8 := xn_le (a := mz) (b := f8) (by omega) (by omega) c_55; omega) (fun c_55 => ?_)
                have nc_55 : f8 < mz := xn_nle (a := mz) (b := f8) (by omega) (by omega) c_55
                refine lv_aload_n hx hb dX9_next_70 rfl (lv_at hl 2 rfl) ?_
                refine xg hF kf_X9_254 hK hP 0 rfl rfl dX9_next_71 ?_
                refine lv_iconst (v := 1) hx hb dX9_next_74 (by decide) ?_
                refine lv_iadd hx hb dX9_next_75 ?_
                refine xl_i (y := nI (f8 + 1)) (nI_add f8 1) ?_
                refine lv_goto (tgt := 83) hx hb dX9_next_76 (by decide) ?_
                refine xp hF kf_X9_251 tyX9_ok nmX9 hK hP hD hS 0 rfl rfl rfl rfl (Nat.le_of_ble_eq_true rfl) dX9_next_83 (fun H locs hP hD hS => ?_)
                have hP : va_P D vwCl [(h0, .inr (9, [.ref ys, .ref yk, .ref yo, .ref yt, .int mk0, .ref yfa, .ref yfe, .int mL, .int mS, .int mM, .ref yro, .ref yhe, .ref ygr, .int mF, .int mC, .int mY, .ref yta, .int (nI (mz)), .int (nI (f8)), .int (nI (f8 + 1)), .int mv, .int mw, .ref ywa, .ref ybi, .ref ysi, .ref ynu, .ref ymo])), (yta, .inl (cI, 120, .inl tp))] H := hP
                have hD : va_D A [(h0, .inr (9, [.ref ys, .ref yk, .ref yo, .ref yt, .int mk0, .ref yfa, .ref yfe, .int mL, .int mS, .int mM, .ref yro, .ref yhe, .ref ygr, .int mF, .int mC, .int mY, .ref yta, .int (nI (mz)), .int (nI (f8)), .int (nI (f8 + 1)), .int mv, .int mw, .ref ywa, .ref ybi, .ref ysi, .ref ynu, .ref ymo])), (yta, .inl (cI, 120, .inl tp))] := hD
                refine lv_iload_n hx hb dX9_next_86 rfl (lv_at hl 1 rfl) ?_
                refine lv_if_eq (tgt := 104) hx hb dX9_next_87 (by decide) (fun c_56 => ?_) (fun c_56 => absurd (by decide) c_56)
                refine lv_iload_n hx hb dX9_next_104 rfl (lv_at hl 0 rfl) ?_
                refine lv_if_eq (tgt := 135) hx hb dX9_next_105 (by decide) (fun c_57 => ?_) (fun c_57 => absurd (by decide) c_57)
                exact W.vret hx hb hr (fun t ht hW => ⟨⟨(f8, f8 + 1), rfl, ⟨hn9.symm, (by unfold nx; rw [hn9]; unfold ne; rw [if_pos (show f8 < mz by omega), if_neg (fun q => h_11.elim q.1 q.2), if_neg (fun q => h_40.elim q.1 q.2)])⟩, by rw [ht]; exact hP.sub [0, 1] rfl, hD.sub [0, 1] (by decide) rfl⟩, hS.F ht⟩) hS.2.2 dX9_next_135 hlk
            · exact absurd h_36 (by omega)
        · exact absurd h_7 (by omega)
      · skip
        refine lv_aload_n hx hb dX9_next_21 rfl (lv_at hl 0 rfl) ?_
        refine lv_dup hx hb dX9_next_22 rfl ?_
        refine xg hF kf_X9_254 hK hP 0 rfl rfl dX9_next_23 ?_
        refine lv_iconst (v := 1) hx hb dX9_next_26 (by decide) ?_
        refine lv_iadd hx hb dX9_next_27 ?_
        refine xl_i (y := nI (f8 + 1)) (nI_add f8 1) ?_
        refine xp hF kf_X9_254 tyX9_ok nmX9 hK hP hD hS 0 rfl rfl rfl rfl (Nat.le_of_ble_eq_true rfl) dX9_next_28 (fun H locs hP hD hS => ?_)
        have hP : va_P D vwCl [(h0, .inr (9, [.ref ys, .ref yk, .ref yo, .ref yt, .int mk0, .ref yfa, .ref yfe, .int mL, .int mS, .int mM, .ref yro, .ref yhe, .ref ygr, .int mF, .int mC, .int mY, .ref yta, .int (nI (mz)), .int (nI (f8 + 1)), .int (nI (mt)), .int mv, .int mw, .ref ywa, .ref ybi, .ref ysi, .ref ynu, .ref ymo])), (yta, .inl (cI, 120, .inl tp))] H := hP
        have hD : va_D A [(h0, .inr (9, [.ref ys, .ref yk, .ref yo, .ref yt, .int mk0, .ref yfa, .ref yfe, .int mL, .int mS, .int mM, .ref yro, .ref yhe, .ref ygr, .int mF, .int mC, .int mY, .ref yta, .int (nI (mz)), .int (nI (f8 + 1)), .int (nI (mt)), .int mv, .int mw, .ref ywa, .ref ybi, .ref ysi, .ref ynu, .ref ymo])), (yta, .inl (cI, 120, .inl tp))] := hD
        refine lv_goto (tgt := 8) hx hb dX9_next_31 (by decide) ?_
        exact ih_8 (f8 + 1) _ _ _ (by omega) (by omega) (by omega) ((skp_go (by omega) c_4).symm.trans hs) (hP.sub [0, 1] rfl) (hD.sub [0, 1] (by decide) rfl) hS (lv_sub hl [0] rfl)
    · skip
      refine lv_bipush (v := 32) hx hb dX9_next_16 (by decide) ?_
      refine lv_icmp_ne (tgt := 34) hx hb dX9_next_18 (by decide) (fun c_58 => ?_) (fun c_58 => absurd c_58 (by decide))
      have hn9 : nf bb mz mt = f8 := hs.symm.trans (skp_end (by omega))
      refine lv_aload_n hx hb dX9_next_34 rfl (lv_at hl 0 rfl) ?_
      refine lv_aload_n hx hb dX9_next_35 rfl (lv_at hl 0 rfl) ?_
      refine xg hF kf_X9_254 hK hP 0 rfl rfl dX9_next_36 ?_
      refine xc_Vr hF (c_X9_byteAt l D cI cJ cZ cS ta sa sv H.size h0 ys yk yo yt mk0 yfa yfe mL mS mM yro yhe ygr mF mC mY yta mz f8 mt mv mw ywa ybi ysi ynu ymo tp f8 bb (by omega) hbb (by omega)) kv_X9_257 ⟨rfl, rfl, Nat.le_of_ble_eq_true rfl, Nat.le_of_ble_eq_true rfl⟩ ⟨Nat.le_of_ble_eq_true rfl, Nat.le_of_ble_eq_true rfl⟩ hK hN hZ hP hD hS hA [0, 1] rfl rfl 0 rfl rfl rfl rfl hl.1 rfl (Nat.le_of_ble_eq_true rfl) dX9_next_39 (fun r_59 hw_r_59 => ?_)
      rcases hw_r_59 with ⟨rfl, h_60⟩ | ⟨rfl, h_61⟩
      · exact absurd h_60 (by omega)
      · skip
        refine xc_Sr hF (c_X9_isLetterM l D cI cJ cZ cS ta sa sv H.size  ) ks_X9_260 ⟨rfl, rfl, Nat.le_of_ble_eq_true rfl, Nat.le_of_ble_eq_true rfl⟩ ⟨Nat.le_of_ble_eq_true rfl, Nat.le_of_ble_eq_true rfl⟩ hK hN hZ hP hD hS hA [] rfl rfl rfl hl.1 rfl (Nat.le_of_ble_eq_true rfl) dX9_next_42 (fun r_62 hw_r_62 => ?_)
        subst hw_r_62
        refine lv_istore_n (lv' := [(1, .int 0), (0, .ref h0)]) hx hb dX9_next_45 rfl hl (by decide) rfl (fun ls hl => ?_)
        refine lv_aload_n hx hb dX9_next_46 rfl (lv_at hl 1 rfl) ?_
        refine lv_aload_n hx hb dX9_next_47 rfl (lv_at hl 1 rfl) ?_
        refine xg hF kf_X9_254 hK hP 0 rfl rfl dX9_next_48 ?_
        refine xc_Vr hF (c_X9_byteAt l D cI cJ cZ cS ta sa sv H.size h0 ys yk yo yt mk0 yfa yfe mL mS mM yro yhe ygr mF mC mY yta mz f8 mt mv mw ywa ybi ysi ynu ymo tp f8 bb (by omega) hbb (by omega)) kv_X9_257 ⟨rfl, rfl, Nat.le_of_ble_eq_true rfl, Nat.le_of_ble_eq_true rfl⟩ ⟨Nat.le_of_ble_eq_true rfl, Nat.le_of_ble_eq_true rfl⟩ hK hN hZ hP hD hS hA [0, 1] rfl rfl 0 rfl rfl rfl rfl hl.1 rfl (Nat.le_of_ble_eq_true rfl) dX9_next_51 (fun r_63 hw_r_63 => ?_)
        rcases hw_r_63 with ⟨rfl, h_64⟩ | ⟨rfl, h_65⟩
        · exact absurd h_64 (by omega)
        · skip
          refine xc_Sr hF (c_X9_isDigitM l D cI cJ cZ cS ta sa sv H.size  ) ks_X9_263 ⟨rfl, rfl, Nat.le_of_ble_eq_true rfl, Nat.le_of_ble_eq_true rfl⟩ ⟨Nat.le_of_ble_eq_true rfl, Nat.le_of_ble_eq_true rfl⟩ hK hN hZ hP hD hS hA [] rfl rfl rfl hl.1 rfl (Nat.le_of_ble_eq_true rfl) dX9_next_54 (fun r_66 hw_r_66 => ?_)
          subst hw_r_66
          refine lv_istore_n (lv' := [(2, .int 0), (1, .int 0), (0, .ref h0)]) hx hb dX9_next_57 rfl hl (by decide) rfl (fun ls hl => ?_)
          refine lv_aload_n hx hb dX9_next_58 rfl (lv_at hl 2 rfl) ?_
          refine lv_aload_n hx hb dX9_next_59 rfl (lv_at hl 2 rfl) ?_
          refine xg hF kf_X9_254 hK hP 0 rfl rfl dX9_next_60 ?_
          refine lv_aload_n hx hb dX9_next_63 rfl (lv_at hl 2 rfl) ?_
          refine xg hF kf_X9_240 hK hP 0 rfl rfl dX9_next_64 ?_
          refine lv_icmp_ge (tgt := 79) hx hb dX9_next_67 (by decide) (fun c_67 => ?_) (fun c_67 => by have nc_67 : f8 < mz := xn_nle (a := mz) (b := f8) (by omega) (by omega) c_67; omega)
          have nc_67 : mz ≤ f8 := xn_le (a := mz) (b := f8) (by omega) (by omega) c_67
          refine lv_aload_n hx hb dX9_next_79 rfl (lv_at hl 2 rfl) ?_
          refine xg hF kf_X9_254 hK hP 0 rfl rfl dX9_next_80 ?_
          refine xp hF kf_X9_251 tyX9_ok nmX9 hK hP hD hS 0 rfl rfl rfl rfl (Nat.le_of_ble_eq_true rfl) dX9_next_83 (fun H locs hP hD hS => ?_)
          have hP : va_P D vwCl [(h0, .inr (9, [.ref ys, .ref yk, .ref yo, .ref yt, .int mk0, .ref yfa, .ref yfe, .int mL, .int mS, .int mM, .ref yro, .ref yhe, .ref ygr, .int mF, .int mC, .int mY, .ref yta, .int (nI (mz)), .int (nI (f8)), .int (nI (f8)), .int mv, .int mw, .ref ywa, .ref ybi, .ref ysi, .ref ynu, .ref ymo])), (yta, .inl (cI, 120, .inl tp))] H := hP
          have hD : va_D A [(h0, .inr (9, [.ref ys, .ref yk, .ref yo, .ref yt, .int mk0, .ref yfa, .ref yfe, .int mL, .int mS, .int mM, .ref yro, .ref yhe, .ref ygr, .int mF, .int mC, .int mY, .ref yta, .int (nI (mz)), .int (nI (f8)), .int (nI (f8)), .int mv, .int mw, .ref ywa, .ref ybi, .ref ysi, .ref ynu, .ref ymo])), (yta, .inl (cI, 120, .inl tp))] := hD
          refine lv_iload_n hx hb dX9_next_86 rfl (lv_at hl 1 rfl) ?_
          refine lv_if_eq (tgt := 104) hx hb dX9_next_87 (by decide) (fun c_68 => ?_) (fun c_68 => absurd (by decide) c_68)
          refine lv_iload_n hx hb dX9_next_104 rfl (lv_at hl 0 rfl) ?_
          refine lv_if_eq (tgt := 135) hx hb dX9_next_105 (by decide) (fun c_69 => ?_) (fun c_69 => absurd (by decide) c_69)
          exact W.vret hx hb hr (fun t ht hW => ⟨⟨(f8, f8), rfl, ⟨hn9.symm, (by unfold nx; rw [hn9]; unfold ne; rw [if_neg (by omega)])⟩, by rw [ht]; exact hP.sub [0, 1] rfl, hD.sub [0, 1] (by decide) rfl⟩, hS.F ht⟩) hS.2.2 dX9_next_135 hlk
set_option maxHeartbeats 4000000 in
set_option maxRecDepth 100000 in
theorem c_X9_needsW (l : Launch) (D : va_G) (cI cJ cZ cS : ClassId) (ta : Nat) (sa sv : Nat → Nat) (sz : Nat) (h0 : Nat) (ys : Nat) (yk : Nat) (yo : Nat) (yt : Nat) (mk0 : Int32) (yfa : Nat) (yfe : Nat) (mL : Int32) (mS : Int32) (mM : Int32) (yro : Nat) (yhe : Nat) (ygr : Nat) (mF : Int32) (mC : Int32) (mY : Int32) (yta : Nat) (mz : Nat) (mv : Int32) (ywa : Nat) (ybi : Nat) (ysi : Nat) (ynu : Nat) (ymo : Nat) (tp : Nat → Int32) (p0 : Int32) (u9 : Nat) (bb : Nat → Int32) (hz : mz ≤ 120) (hbb : bA tp mz = bb) (hu9 : u9 ≤ mz) : Met l yX9_needs (Cond.code yX9_needs cX9_needs 2 none :: wsU) ({ frames := 0, cells := 0, slots := 0, locals := 0 }) (va_Pc [.ref h0, .int p0] (XW D (xT cI cJ cZ cS) ta sa sv [(h0, .inr (9, [.ref ys, .ref yk, .ref yo, .ref yt, .int mk0, .ref yfa, .ref yfe, .int mL, .int mS, .int mM, .ref yro, .ref yhe, .ref ygr, .int mF, .int mC, .int mY, .ref yta, .int (nI (mz)), .int (nI (nf bb mz u9)), .int (nI (nx bb mz u9)), .int mv, .int 1, .ref ywa, .ref ybi, .ref ysi, .ref ynu, .ref ymo])), (yta, .inl (cI, 120, .inl tp))] sz)) (XQv (fun (_ : Unit) => True) D (fun _ : Unit => [(h0, .inr (9, [.ref ys, .ref yk, .ref yo, .ref yt, .int mk0, .ref yfa, .ref yfe, .int mL, .int mS, .int mM, .ref yro, .ref yhe, .ref ygr, .int mF, .int mC, .int mY, .ref yta, .int (nI (mz)), .int (nI (nf bb mz u9)), .int (nI (nx bb mz u9)), .int mv, .int 1, .ref ywa, .ref ybi, .ref ysi, .ref ynu, .ref ymo])), (yta, .inl (cI, 120, .inl tp))]) (va_A [(h0, .inr (9, [.ref ys, .ref yk, .ref yo, .ref yt, .int mk0, .ref yfa, .ref yfe, .int mL, .int mS, .int mM, .ref yro, .ref yhe, .ref ygr, .int mF, .int mC, .int mY, .ref yta, .int (nI (mz)), .int (nI (nf bb mz u9)), .int (nI (nx bb mz u9)), .int mv, .int 1, .ref ywa, .ref ybi, .ref ysi, .ref ynu, .ref ymo])), (yta, .inl (cI, 120, .inl tp))] sz)) 0 0 (va_A [(h0, .inr (9, [.ref ys, .ref yk, .ref yo, .ref yt, .int mk0, .ref yfa, .ref yfe, .int mL, .int mS, .int mM, .ref yro, .ref yhe, .ref ygr, .int mF, .int mC, .int mY, .ref yta, .int (nI (mz)), .int (nI (nf bb mz u9)), .int (nI (nx bb mz u9)), .int mv, .int 1, .ref ywa, .ref ybi, .ref ysi, .ref ynu, .ref ymo])), (yta, .inl (cI, 120, .inl tp))] sz) := by
  refine xh (QA := fun A => XQv (fun (_ : Unit) => True) D (fun _ : Unit => [(h0, .inr (9, [.ref ys, .ref yk, .ref yo, .ref yt, .int mk0, .ref yfa, .ref yfe, .int mL, .int mS, .int mM, .ref yro, .ref yhe, .ref ygr, .int mF, .int mC, .int mY, .ref yta, .int (nI (mz)), .int (nI (nf bb mz u9)), .int (nI (nx bb mz u9)), .int mv, .int 1, .ref ywa, .ref ybi, .ref ysi, .ref ynu, .ref ymo])), (yta, .inl (cI, 120, .inl tp))]) A) (fr := fun A => A) (by decide) (Nat.le_of_ble_eq_true rfl) ?_
  intro p e s m below meth c ls A hF hr hlk hin hsz hP hK hD hN hZ hA hS hl
  have hF : CallFix p m c cX9_needs 2 s _ _ RX9 := hF
  have hx := hF.1
  have hb := hF.2.1
  have hml := hF.2.2.1
  have hown := hF.2.2.2.1
  have hu : ∀ w ∈ wsU, w.before _ s = true := fun w h => hF.2.2.2.2 w (List.mem_cons_of_mem _ h)
  have hl : lv_has ls 2 [(0, .ref h0), (1, .int p0)] := hl
  refine lv_aload_n hx hb dX9_needs_0 rfl (lv_at hl 0 rfl) ?_
  refine lv_aload_n hx hb dX9_needs_1 rfl (lv_at hl 0 rfl) ?_
  refine xg hF kf_X9_266 hK hP 0 rfl rfl dX9_needs_2 ?_
  refine lv_if_ne (tgt := 12) hx hb dX9_needs_5 (by decide) (fun c_1 => ?_) (fun c_1 => absurd c_1 (by decide))
  refine lv_iconst (v := 1) hx hb dX9_needs_12 (by decide) ?_
  refine lv_goto (tgt := 17) hx hb dX9_needs_13 (by decide) ?_
  refine xp hF kf_X9_266 tyX9_ok nmX9 hK hP hD hS 0 rfl rfl rfl rfl (Nat.le_of_ble_eq_true rfl) dX9_needs_17 (fun H locs hP hD hS => ?_)
  have hP : va_P D vwCl [(h0, .inr (9, [.ref ys, .ref yk, .ref yo, .ref yt, .int mk0, .ref yfa, .ref yfe, .int mL, .int mS, .int mM, .ref yro, .ref yhe, .ref ygr, .int mF, .int mC, .int mY, .ref yta, .int (nI (mz)), .int (nI (nf bb mz u9)), .int (nI (nx bb mz u9)), .int mv, .int 1, .ref ywa, .ref ybi, .ref ysi, .ref ynu, .ref ymo])), (yta, .inl (cI, 120, .inl tp))] H := hP
  have hD : va_D A [(h0, .inr (9, [.ref ys, .ref yk, .ref yo, .ref yt, .int mk0, .ref yfa, .ref yfe, .int mL, .int mS, .int mM, .ref yro, .ref yhe, .ref ygr, .int mF, .int mC, .int mY, .ref yta, .int (nI (mz)), .int (nI (nf bb mz u9)), .int (nI (nx bb mz u9)), .int mv, .int 1, .ref ywa, .ref ybi, .ref ysi, .ref ynu, .ref ymo])), (yta, .inl (cI, 120, .inl tp))] := hD
  refine lv_aload_n hx hb dX9_needs_20 rfl (lv_at hl 0 rfl) ?_
  refine xg hF kf_X9_266 hK hP 0 rfl rfl dX9_needs_21 ?_
  refine lv_if_ne (tgt := 31) hx hb dX9_needs_24 (by decide) (fun c_2 => ?_) (fun c_2 => absurd c_2 (by decide))
  exact W.vret hx hb hr (fun t ht hW => ⟨⟨(), rfl, trivial, by rw [ht]; exact hP.sub [0, 1] rfl, hD.sub [0, 1] (by decide) rfl⟩, hS.F ht⟩) hS.2.2 dX9_needs_31 hlk
set_option maxHeartbeats 4000000 in
set_option maxRecDepth 100000 in
theorem c_X9_needs0 (l : Launch) (D : va_G) (cI cJ cZ cS : ClassId) (ta : Nat) (sa sv : Nat → Nat) (sz : Nat) (h0 : Nat) (ys : Nat) (yk : Nat) (yo : Nat) (yt : Nat) (mk0 : Int32) (yfa : Nat) (yfe : Nat) (mL : Int32) (mS : Int32) (mM : Int32) (yro : Nat) (yhe : Nat) (ygr : Nat) (mF : Int32) (mC : Int32) (mY : Int32) (yta : Nat) (mz : Nat) (mv : Int32) (ywa : Nat) (ybi : Nat) (ysi : Nat) (ynu : Nat) (ymo : Nat) (tp : Nat → Int32) (u9 : Nat) (bb : Nat → Int32) (hz : mz ≤ 120) (hbb : bA tp mz = bb) (hu9 : u9 ≤ mz) : Met l yX9_needs (Cond.code yX9_needs cX9_needs 2 none :: wsU) ({ frames := 0, cells := 0, slots := 0, locals := 0 }) (va_Pc [.ref h0, .int 0] (XW D (xT cI cJ cZ cS) ta sa sv [(h0, .inr (9, [.ref ys, .ref yk, .ref yo, .ref yt, .int mk0, .ref yfa, .ref yfe, .int mL, .int mS, .int mM, .ref yro, .ref yhe, .ref ygr, .int mF, .int mC, .int mY, .ref yta, .int (nI (mz)), .int (nI (nf bb mz u9)), .int (nI (nx bb mz u9)), .int mv, .int 0, .ref ywa, .ref ybi, .ref ysi, .ref ynu, .ref ymo])), (yta, .inl (cI, 120, .inl tp))] sz)) (XQv (fun (_ : Unit) => True) D (fun _ : Unit => [(h0, .inr (9, [.ref ys, .ref yk, .ref yo, .ref yt, .int mk0, .ref yfa, .ref yfe, .int mL, .int mS, .int mM, .ref yro, .ref yhe, .ref ygr, .int mF, .int mC, .int mY, .ref yta, .int (nI (mz)), .int (nI (nf bb mz u9)), .int (nI (nx bb mz u9)), .int mv, .int 1, .ref ywa, .ref ybi, .ref ysi, .ref ynu, .ref ymo])), (yta, .inl (cI, 120, .inl tp))]) (va_A [(h0, .inr (9, [.ref ys, .ref yk, .ref yo, .ref yt, .int mk0, .ref yfa, .ref yfe, .int mL, .int mS, .int mM, .ref yro, .ref yhe, .ref ygr, .int mF, .int mC, .int mY, .ref yta, .int (nI (mz)), .int (nI (nf bb mz u9)), .int (nI (nx bb mz u9)), .int mv, .int 0, .ref ywa, .ref ybi, .ref ysi, .ref ynu, .ref ymo])), (yta, .inl (cI, 120, .inl tp))] sz)) 0 0 (va_A [(h0, .inr (9, [.ref ys, .ref yk, .ref yo, .ref yt, .int mk0, .ref yfa, .ref yfe, .int mL, .int mS, .int mM, .ref yro, .ref yhe, .ref ygr, .int mF, .int mC, .int mY, .ref yta, .int (nI (mz)), .int (nI (nf bb mz u9)), .int (nI (nx bb mz u9)), .int mv, .int 0, .ref ywa, .ref ybi, .ref ysi, .ref ynu, .ref ymo])), (yta, .inl (cI, 120, .inl tp))] sz) := by
  refine xh (QA := fun A => XQv (fun (_ : Unit) => True) D (fun _ : Unit => [(h0, .inr (9, [.ref ys, .ref yk, .ref yo, .ref yt, .int mk0, .ref yfa, .ref yfe, .int mL, .int mS, .int mM, .ref yro, .ref yhe, .ref ygr, .int mF, .int mC, .int mY, .ref yta, .int (nI (mz)), .int (nI (nf bb mz u9)), .int (nI (nx bb mz u9)), .int mv, .int 1, .ref ywa, .ref ybi, .ref ysi, .ref ynu, .ref ymo])), (yta, .inl (cI, 120, .inl tp))]) A) (fr := fun A => A) (by decide) (Nat.le_of_ble_eq_true rfl) ?_
  intro p e s m below meth c ls A hF hr hlk hin hsz hP hK hD hN hZ hA hS hl
  have hF : CallFix p m c cX9_needs 2 s _ _ RX9 := hF
  have hx := hF.1
  have hb := hF.2.1
  have hml := hF.2.2.1
  have hown := hF.2.2.2.1
  have hu : ∀ w ∈ wsU, w.before _ s = true := fun w h => hF.2.2.2.2 w (List.mem_cons_of_mem _ h)
  have hl : lv_has ls 2 [(0, .ref h0), (1, .int 0)] := hl
  refine lv_aload_n hx hb dX9_needs_0 rfl (lv_at hl 0 rfl) ?_
  refine lv_aload_n hx hb dX9_needs_1 rfl (lv_at hl 0 rfl) ?_
  refine xg hF kf_X9_266 hK hP 0 rfl rfl dX9_needs_2 ?_
  refine lv_if_ne (tgt := 12) hx hb dX9_needs_5 (by decide) (fun c_1 => absurd (by decide) c_1) (fun c_1 => ?_)
  refine lv_iload_n hx hb dX9_needs_8 rfl (lv_at hl 1 rfl) ?_
  refine lv_if_ne (tgt := 16) hx hb dX9_needs_9 (by decide) (fun c_2 => absurd (by decide) c_2) (fun c_2 => ?_)
  refine lv_iconst (v := 1) hx hb dX9_needs_12 (by decide) ?_
  refine lv_goto (tgt := 17) hx hb dX9_needs_13 (by decide) ?_
  refine xp hF kf_X9_266 tyX9_ok nmX9 hK hP hD hS 0 rfl rfl rfl rfl (Nat.le_of_ble_eq_true rfl) dX9_needs_17 (fun H locs hP hD hS => ?_)
  have hP : va_P D vwCl [(h0, .inr (9, [.ref ys, .ref yk, .ref yo, .ref yt, .int mk0, .ref yfa, .ref yfe, .int mL, .int mS, .int mM, .ref yro, .ref yhe, .ref ygr, .int mF, .int mC, .int mY, .ref yta, .int (nI (mz)), .int (nI (nf bb mz u9)), .int (nI (nx bb mz u9)), .int mv, .int 1, .ref ywa, .ref ybi, .ref ysi, .ref ynu, .ref ymo])), (yta, .inl (cI, 120, .inl tp))] H := hP
  have hD : va_D A [(h0, .inr (9, [.ref ys, .ref yk, .ref yo, .ref yt, .int mk0, .ref yfa, .ref yfe, .int mL, .int mS, .int mM, .ref yro, .ref yhe, .ref ygr, .int mF, .int mC, .int mY, .ref yta, .int (nI (mz)), .int (nI (nf bb mz u9)), .int (nI (nx bb mz u9)), .int mv, .int 1, .ref ywa, .ref ybi, .ref ysi, .ref ynu, .ref ymo])), (yta, .inl (cI, 120, .inl tp))] := hD
  refine lv_aload_n hx hb dX9_needs_20 rfl (lv_at hl 0 rfl) ?_
  refine xg hF kf_X9_266 hK hP 0 rfl rfl dX9_needs_21 ?_
  refine lv_if_ne (tgt := 31) hx hb dX9_needs_24 (by decide) (fun c_3 => ?_) (fun c_3 => absurd c_3 (by decide))
  exact W.vret hx hb hr (fun t ht hW => ⟨⟨(), rfl, trivial, by rw [ht]; exact hP.sub [0, 1] rfl, hD.sub [0, 1] (by decide) rfl⟩, hS.F ht⟩) hS.2.2 dX9_needs_31 hlk
set_option maxHeartbeats 4000000 in
set_option maxRecDepth 100000 in
theorem c_X9_needs1 (l : Launch) (D : va_G) (cI cJ cZ cS : ClassId) (ta : Nat) (sa sv : Nat → Nat) (sz : Nat) (h0 : Nat) (ys : Nat) (yk : Nat) (yo : Nat) (yt : Nat) (mk0 : Int32) (yfa : Nat) (yfe : Nat) (mL : Int32) (mS : Int32) (mM : Int32) (yro : Nat) (yhe : Nat) (ygr : Nat) (mF : Int32) (mC : Int32) (mY : Int32) (yta : Nat) (mz : Nat) (mv : Int32) (ywa : Nat) (ybi : Nat) (ysi : Nat) (ynu : Nat) (ymo : Nat) (tp : Nat → Int32) (u9 : Nat) (bb : Nat → Int32) (hz : mz ≤ 120) (hbb : bA tp mz = bb) (hu9 : u9 ≤ mz) : Met l yX9_needs (Cond.code yX9_needs cX9_needs 2 none :: wsU) ({ frames := 3, cells := 0, slots := 0, locals := 67 }) (va_Pc [.ref h0, .int 1] (XW D (xT cI cJ cZ cS) ta sa sv [(h0, .inr (9, [.ref ys, .ref yk, .ref yo, .ref yt, .int mk0, .ref yfa, .ref yfe, .int mL, .int mS, .int mM, .ref yro, .ref yhe, .ref ygr, .int mF, .int mC, .int mY, .ref yta, .int (nI (mz)), .int (nI (nf bb mz u9)), .int (nI (nx bb mz u9)), .int mv, .int 0, .ref ywa, .ref ybi, .ref ysi, .ref ynu, .ref ymo])), (yta, .inl (cI, 120, .inl tp))] sz)) (XQv (fun (_ : Unit) => (nx bb mz u9 ≤ mz) ∧ (u9 ≤ nx bb mz u9)) D (fun _ : Unit => [(h0, .inr (9, [.ref ys, .ref yk, .ref yo, .ref yt, .int mk0, .ref yfa, .ref yfe, .int mL, .int mS, .int mM, .ref yro, .ref yhe, .ref ygr, .int mF, .int mC, .int mY, .ref yta, .int (nI (mz)), .int (nI (nf bb mz (nx bb mz u9))), .int (nI (nx bb mz (nx bb mz u9))), .int mv, .int 0, .ref ywa, .ref ybi, .ref ysi, .ref ynu, .ref ymo])), (yta, .inl (cI, 120, .inl tp))]) (va_A [(h0, .inr (9, [.ref ys, .ref yk, .ref yo, .ref yt, .int mk0, .ref yfa, .ref yfe, .int mL, .int mS, .int mM, .ref yro, .ref yhe, .ref ygr, .int mF, .int mC, .int mY, .ref yta, .int (nI (mz)), .int (nI (nf bb mz u9)), .int (nI (nx bb mz u9)), .int mv, .int 0, .ref ywa, .ref ybi, .ref ysi, .ref ynu, .ref ymo])), (yta, .inl (cI, 120, .inl tp))] sz)) 0 0 (va_A [(h0, .inr (9, [.ref ys, .ref yk, .ref yo, .ref yt, .int mk0, .ref yfa, .ref yfe, .int mL, .int mS, .int mM, .ref yro, .ref yhe, .ref ygr, .int mF, .int mC, .int mY, .ref yta, .int (nI (mz)), .int (nI (nf bb mz u9)), .int (nI (nx bb mz u9)), .int mv, .int 0, .ref ywa, .ref ybi, .ref ysi, .ref ynu, .ref ymo])), (yta, .inl (cI, 120, .inl tp))] sz) := by
  refine xh (QA := fun A => XQv (fun (_ : Unit) => (nx bb mz u9 ≤ mz) ∧ (u9 ≤ nx bb mz u9)) D (fun _ : Unit => [(h0, .inr (9, [.ref ys, .ref yk, .ref yo, .ref yt, .int mk0, .ref yfa, .ref yfe, .int mL, .int mS, .int mM, .ref yro, .ref yhe, .ref ygr, .int mF, .int mC, .int mY, .ref yta, .int (nI (mz)), .int (nI (nf bb mz (nx bb mz u9))), .int (nI (nx bb mz (nx bb mz u9))), .int mv, .int 0, .ref ywa, .ref ybi, .ref ysi, .ref ynu, .ref ymo])), (yta, .inl (cI, 120, .inl tp))]) A) (fr := fun A => A) (by decide) (Nat.le_of_ble_eq_true rfl) ?_
  intro p e s m below meth c ls A hF hr hlk hin hsz hP hK hD hN hZ hA hS hl
  have hF : CallFix p m c cX9_needs 2 s _ _ RX9 := hF
  have hx := hF.1
  have hb := hF.2.1
  have hml := hF.2.2.1
  have hown := hF.2.2.2.1
  have hu : ∀ w ∈ wsU, w.before _ s = true := fun w h => hF.2.2.2.2 w (List.mem_cons_of_mem _ h)
  have hl : lv_has ls 2 [(0, .ref h0), (1, .int 1)] := hl
  have htk := tk_le (b := bb) hu9
  refine lv_aload_n hx hb dX9_needs_0 rfl (lv_at hl 0 rfl) ?_
  refine lv_aload_n hx hb dX9_needs_1 rfl (lv_at hl 0 rfl) ?_
  refine xg hF kf_X9_266 hK hP 0 rfl rfl dX9_needs_2 ?_
  refine lv_if_ne (tgt := 12) hx hb dX9_needs_5 (by decide) (fun c_1 => absurd (by decide) c_1) (fun c_1 => ?_)
  refine lv_iload_n hx hb dX9_needs_8 rfl (lv_at hl 1 rfl) ?_
  refine lv_if_ne (tgt := 16) hx hb dX9_needs_9 (by decide) (fun c_2 => ?_) (fun c_2 => absurd c_2 (by decide))
  refine lv_iconst (v := 0) hx hb dX9_needs_16 (by decide) ?_
  refine xp hF kf_X9_266 tyX9_ok nmX9 hK hP hD hS 0 rfl rfl rfl rfl (Nat.le_of_ble_eq_true rfl) dX9_needs_17 (fun H locs hP hD hS => ?_)
  have hP : va_P D vwCl [(h0, .inr (9, [.ref ys, .ref yk, .ref yo, .ref yt, .int mk0, .ref yfa, .ref yfe, .int mL, .int mS, .int mM, .ref yro, .ref yhe, .ref ygr, .int mF, .int mC, .int mY, .ref yta, .int (nI (mz)), .int (nI (nf bb mz u9)), .int (nI (nx bb mz u9)), .int mv, .int 0, .ref ywa, .ref ybi, .ref ysi, .ref ynu, .ref ymo])), (yta, .inl (cI, 120, .inl tp))] H := hP
  have hD : va_D A [(h0, .inr (9, [.ref ys, .ref yk, .ref yo, .ref yt, .int mk0, .ref yfa, .ref yfe, .int mL, .int mS, .int mM, .ref yro, .ref yhe, .ref ygr, .int mF, .int mC, .int mY, .ref yta, .int (nI (mz)), .int (nI (nf bb mz u9)), .int (nI (nx bb mz u9)), .int mv, .int 0, .ref ywa, .ref ybi, .ref ysi, .ref ynu, .ref ymo])), (yta, .inl (cI, 120, .inl tp))] := hD
  refine lv_aload_n hx hb dX9_needs_20 rfl (lv_at hl 0 rfl) ?_
  refine xg hF kf_X9_266 hK hP 0 rfl rfl dX9_needs_21 ?_
  refine lv_if_ne (tgt := 31) hx hb dX9_needs_24 (by decide) (fun c_3 => absurd (by decide) c_3) (fun c_3 => ?_)
  refine lv_aload_n hx hb dX9_needs_27 rfl (lv_at hl 0 rfl) ?_
  refine xc_Vv (wr := []) hF (c_X9_next l D cI cJ cZ cS ta sa sv H.size h0 ys yk yo yt mk0 yfa yfe mL mS mM yro yhe ygr mF mC mY yta mz (nf bb mz u9) (nx bb mz u9) mv 0 ywa ybi ysi ynu ymo tp bb (by omega) hbb (by omega)) kv_X9_269 ⟨rfl, rfl, Nat.le_of_ble_eq_true rfl, Nat.le_of_ble_eq_true rfl⟩ ⟨Nat.le_of_ble_eq_true rfl, Nat.le_of_ble_eq_true rfl⟩ hK hN hZ hP hD hS hA [0, 1] [] rfl rfl rfl rfl (by decide) 0 rfl rfl rfl rfl hl.1 rfl (Nat.le_of_ble_eq_true rfl) dX9_needs_28 (fun u_r_4 H locs hw_r_4 hP hD hS => ?_)
  obtain ⟨f2_5, t2_6⟩ := u_r_4
  try dsimp only at hw_r_4
  obtain ⟨i_7, i_8⟩ := hw_r_4
  subst i_7
  subst i_8
  have hP : va_P D vwCl [(h0, .inr (9, [.ref ys, .ref yk, .ref yo, .ref yt, .int mk0, .ref yfa, .ref yfe, .int mL, .int mS, .int mM, .ref yro, .ref yhe, .ref ygr, .int mF, .int mC, .int mY, .ref yta, .int (nI (mz)), .int (nI ((nf bb mz (nx bb mz u9)))), .int (nI ((nx bb mz (nx bb mz u9)))), .int mv, .int 0, .ref ywa, .ref ybi, .ref ysi, .ref ynu, .ref ymo])), (yta, .inl (cI, 120, .inl tp))] H := hP
  have hD : va_D A [(h0, .inr (9, [.ref ys, .ref yk, .ref yo, .ref yt, .int mk0, .ref yfa, .ref yfe, .int mL, .int mS, .int mM, .ref yro, .ref yhe, .ref ygr, .int mF, .int mC, .int mY, .ref yta, .int (nI (mz)), .int (nI ((nf bb mz (nx bb mz u9)))), .int (nI ((nx bb mz (nx bb mz u9)))), .int mv, .int 0, .ref ywa, .ref ybi, .ref ysi, .ref ynu, .ref ymo])), (yta, .inl (cI, 120, .inl tp))] := hD
  exact W.vret hx hb hr (fun t ht hW => ⟨⟨(), rfl, ⟨(by first | assumption | omega), (by first | assumption | omega)⟩, by rw [ht]; exact hP.sub [0, 1] rfl, hD.sub [0, 1] (by decide) rfl⟩, hS.F ht⟩) hS.2.2 dX9_needs_31 hlk
set_option maxHeartbeats 4000000 in
set_option maxRecDepth 100000 in
theorem c_X9_isAtP (l : Launch) (D : va_G) (cI cJ cZ cS : ClassId) (ta : Nat) (sa sv : Nat → Nat) (sz : Nat) (h0 : Nat) (ys : Nat) (yk : Nat) (yo : Nat) (yt : Nat) (mk0 : Int32) (yfa : Nat) (yfe : Nat) (mL : Int32) (mS : Int32) (mM : Int32) (yro : Nat) (yhe : Nat) (ygr : Nat) (mF : Int32) (mC : Int32) (mY : Int32) (yta : Nat) (mz : Nat) (mv : Int32) (ywa : Nat) (ybi : Nat) (ysi : Nat) (ynu : Nat) (ymo : Nat) (tp : Nat → Int32) (k : Nat) (p0 : Int32) (u9 : Nat) (bb : Nat → Int32) (hz : mz ≤ 120) (hbb : bA tp mz = bb) (hu9 : u9 ≤ mz) (hk : k ≤ 7) (hp0 : ¬ p0 = 0) : Met l yX9_isAt (Cond.code yX9_isAt cX9_isAt 3 (some .boolean) :: wsU) ({ frames := 1, cells := 0, slots := 0, locals := 21 }) (va_Pc [.ref h0, .int (nI (k)), .int p0] (XW D (xT cI cJ cZ cS) ta sa sv [(h0, .inr (9, [.ref ys, .ref yk, .ref yo, .ref yt, .int mk0, .ref yfa, .ref yfe, .int mL, .int mS, .int mM, .ref yro, .ref yhe, .ref ygr, .int mF, .int mC, .int mY, .ref yta, .int (nI (mz)), .int (nI (nf bb mz u9)), .int (nI (nx bb mz u9)), .int mv, .int 0, .ref ywa, .ref ybi, .ref ysi, .ref ynu, .ref ymo])), (yta, .inl (cI, 120, .inl tp))] sz)) (vp_Si (fun r : Int32 => (r = 1 ∧ (bb (nf bb mz u9 + k) = p0)) ∨ (r = 0 ∧ (¬ bb (nf bb mz u9 + k) = p0)))) 0 0 (fun _ => False) := by
  refine xh (QA := fun _ => vp_Si (fun r : Int32 => (r = 1 ∧ (bb (nf bb mz u9 + k) = p0)) ∨ (r = 0 ∧ (¬ bb (nf bb mz u9 + k) = p0)))) (fr := fun _ _ => False) (by decide) (Nat.le_of_ble_eq_true rfl) ?_
  intro p e s m below meth c ls A hF hr hlk hin hsz hP hK hD hN hZ hA hS hl
  have hF : CallFix p m c cX9_isAt 3 s _ _ RX9 := hF
  have hx := hF.1
  have hb := hF.2.1
  have hml := hF.2.2.1
  have hown := hF.2.2.2.1
  have hu : ∀ w ∈ wsU, w.before _ s = true := fun w h => hF.2.2.2.2 w (List.mem_cons_of_mem _ h)
  have hl : lv_has ls 3 [(0, .ref h0), (1, .int (nI (k))), (2, .int p0)] := hl
  have htk := tk_le (b := bb) hu9
  refine lv_iload_n hx hb dX9_isAt_0 rfl (lv_at hl 2 rfl) ?_
  refine lv_if_eq (tgt := 18) hx hb dX9_isAt_1 (by decide) (fun c_1 => absurd c_1 hp0) (fun c_1 => ?_)
  refine lv_aload_n hx hb dX9_isAt_4 rfl (lv_at hl 0 rfl) ?_
  refine lv_aload_n hx hb dX9_isAt_5 rfl (lv_at hl 0 rfl) ?_
  refine xg hF kf_X9_254 hK hP 0 rfl rfl dX9_isAt_6 ?_
  refine lv_iload_n hx hb dX9_isAt_9 rfl (lv_at hl 1 rfl) ?_
  refine lv_iadd hx hb dX9_isAt_10 ?_
  refine xl_i (y := nI (nf bb mz u9 + k)) (nI_add (nf bb mz u9) k) ?_
  refine xc_Vr hF (c_X9_byteAt l D cI cJ cZ cS ta sa sv s.heap.size h0 ys yk yo yt mk0 yfa yfe mL mS mM yro yhe ygr mF mC mY yta mz (nf bb mz u9) (nx bb mz u9) mv 0 ywa ybi ysi ynu ymo tp (nf bb mz u9 + k) bb (by omega) hbb (by omega)) kv_X9_257 ⟨rfl, rfl, Nat.le_of_ble_eq_true rfl, Nat.le_of_ble_eq_true rfl⟩ ⟨Nat.le_of_ble_eq_true rfl, Nat.le_of_ble_eq_true rfl⟩ hK hN hZ hP hD hS hA [0, 1] rfl rfl 0 rfl rfl rfl rfl hl.1 rfl (Nat.le_of_ble_eq_true rfl) dX9_isAt_11 (fun r_2 hw_r_2 => ?_)
  rcases hw_r_2 with ⟨rfl, h_3⟩ | ⟨rfl, h_4⟩
  · skip
    refine lv_iload_n hx hb dX9_isAt_14 rfl (lv_at hl 2 rfl) ?_
    refine lv_icmp_ne (tgt := 22) hx hb dX9_isAt_15 (by decide) (fun c_5 => ?_) (fun c_5 => ?_)
    · skip
      refine lv_iconst (v := 0) hx hb dX9_isAt_22 (by decide) ?_
      exact W.zret (v := 0) hx hb hr rfl (fun t ht hW => ⟨0, rfl, Or.inr ⟨rfl, c_5⟩, ht⟩) (fun q h => by cases h) dX9_isAt_23 hlk
    · skip
      refine lv_iconst (v := 1) hx hb dX9_isAt_18 (by decide) ?_
      refine lv_goto (tgt := 23) hx hb dX9_isAt_19 (by decide) ?_
      exact W.zret (v := 1) hx hb hr rfl (fun t ht hW => ⟨1, rfl, Or.inl ⟨rfl, c_5⟩, ht⟩) (fun q h => by cases h) dX9_isAt_23 hlk
  · skip
    refine lv_iload_n hx hb dX9_isAt_14 rfl (lv_at hl 2 rfl) ?_
    refine lv_icmp_ne (tgt := 22) hx hb dX9_isAt_15 (by decide) (fun c_6 => ?_) (fun c_6 => ?_)
    · skip
      refine lv_iconst (v := 0) hx hb dX9_isAt_22 (by decide) ?_
      exact W.zret (v := 0) hx hb hr rfl (fun t ht hW => ⟨0, rfl, Or.inr ⟨rfl, (fun h => c_6 ((bb_out hbb (by omega)).symm.trans h))⟩, ht⟩) (fun q h => by cases h) dX9_isAt_23 hlk
    · skip
      refine lv_iconst (v := 1) hx hb dX9_isAt_18 (by decide) ?_
      refine lv_goto (tgt := 23) hx hb dX9_isAt_19 (by decide) ?_
      exact W.zret (v := 1) hx hb hr rfl (fun t ht hW => ⟨1, rfl, Or.inl ⟨rfl, ((bb_out hbb (by omega)).trans c_6)⟩, ht⟩) (fun q h => by cases h) dX9_isAt_23 hlk
set_option maxHeartbeats 4000000 in
set_option maxRecDepth 100000 in
theorem c_X9_isAt0 (l : Launch) (D : va_G) (cI cJ cZ cS : ClassId) (ta : Nat) (sa sv : Nat → Nat) (sz : Nat) (h0 : Nat) (ys : Nat) (yk : Nat) (yo : Nat) (yt : Nat) (mk0 : Int32) (yfa : Nat) (yfe : Nat) (mL : Int32) (mS : Int32) (mM : Int32) (yro : Nat) (yhe : Nat) (ygr : Nat) (mF : Int32) (mC : Int32) (mY : Int32) (yta : Nat) (mz : Nat) (mv : Int32) (ywa : Nat) (ybi : Nat) (ysi : Nat) (ynu : Nat) (ymo : Nat) (tp : Nat → Int32) (k : Nat) (u9 : Nat) (bb : Nat → Int32) (hz : mz ≤ 120) (hbb : bA tp mz = bb) (hu9 : u9 ≤ mz) : Met l yX9_isAt (Cond.code yX9_isAt cX9_isAt 3 (some .boolean) :: wsU) ({ frames := 0, cells := 0, slots := 0, locals := 0 }) (va_Pc [.ref h0, .int (nI (k)), .int 0] (XW D (xT cI cJ cZ cS) ta sa sv [(h0, .inr (9, [.ref ys, .ref yk, .ref yo, .ref yt, .int mk0, .ref yfa, .ref yfe, .int mL, .int mS, .int mM, .ref yro, .ref yhe, .ref ygr, .int mF, .int mC, .int mY, .ref yta, .int (nI (mz)), .int (nI (nf bb mz u9)), .int (nI (nx bb mz u9)), .int mv, .int 0, .ref ywa, .ref ybi, .ref ysi, .ref ynu, .ref ymo])), (yta, .inl (cI, 120, .inl tp))] sz)) (vp_Si (fun r : Int32 => (r = 1))) 0 0 (fun _ => False) := by
  refine xh (QA := fun _ => vp_Si (fun r : Int32 => (r = 1))) (fr := fun _ _ => False) (by decide) (Nat.le_of_ble_eq_true rfl) ?_
  intro p e s m below meth c ls A hF hr hlk hin hsz hP hK hD hN hZ hA hS hl
  have hF : CallFix p m c cX9_isAt 3 s _ _ RX9 := hF
  have hx := hF.1
  have hb := hF.2.1
  have hml := hF.2.2.1
  have hown := hF.2.2.2.1
  have hu : ∀ w ∈ wsU, w.before _ s = true := fun w h => hF.2.2.2.2 w (List.mem_cons_of_mem _ h)
  have hl : lv_has ls 3 [(0, .ref h0), (1, .int (nI (k))), (2, .int 0)] := hl
  refine lv_iload_n hx hb dX9_isAt_0 rfl (lv_at hl 2 rfl) ?_
  refine lv_if_eq (tgt := 18) hx hb dX9_isAt_1 (by decide) (fun c_1 => ?_) (fun c_1 => absurd (by decide) c_1)
  refine lv_iconst (v := 1) hx hb dX9_isAt_18 (by decide) ?_
  refine lv_goto (tgt := 23) hx hb dX9_isAt_19 (by decide) ?_
  exact W.zret (v := 1) hx hb hr rfl (fun t ht hW => ⟨1, rfl, (by first | exact rfl), ht⟩) (fun q h => by cases h) dX9_isAt_23 hlk
set_option maxHeartbeats 4000000 in
set_option maxRecDepth 100000 in
theorem c_X9_isWordW (l : Launch) (D : va_G) (cI cJ cZ cS : ClassId) (ta : Nat) (sa sv : Nat → Nat) (sz : Nat) (h0 : Nat) (ys : Nat) (yk : Nat) (yo : Nat) (yt : Nat) (mk0 : Int32) (yfa : Nat) (yfe : Nat) (mL : Int32) (mS : Int32) (mM : Int32) (yro : Nat) (yhe : Nat) (ygr : Nat) (mF : Int32) (mC : Int32) (mY : Int32) (yta : Nat) (mz : Nat) (mv : Int32) (ywa : Nat) (ybi : Nat) (ysi : Nat) (ynu : Nat) (ymo : Nat) (tp : Nat → Int32) (p0 : Int32) (p1 : Int32) (p2 : Int32) (p3 : Int32) (p4 : Int32) (p5 : Int32) (p6 : Int32) (u9 : Nat) (bb : Nat → Int32) (hz : mz ≤ 120) (hbb : bA tp mz = bb) (hu9 : u9 ≤ mz) : Met l yX9_isWord (Cond.code yX9_isWord cX9_isWord 9 (some .boolean) :: wsU) ({ frames := 0, cells := 0, slots := 0, locals := 0 }) (va_Pc [.ref h0, .int p0, .int p1, .int p2, .int p3, .int p4, .int p5, .int p6] (XW D (xT cI cJ cZ cS) ta sa sv [(h0, .inr (9, [.ref ys, .ref yk, .ref yo, .ref yt, .int mk0, .ref yfa, .ref yfe, .int mL, .int mS, .int mM, .ref yro, .ref yhe, .ref ygr, .int mF, .int mC, .int mY, .ref yta, .int (nI (mz)), .int (nI (nf bb mz u9)), .int (nI (nx bb mz u9)), .int mv, .int 1, .ref ywa, .ref ybi, .ref ysi, .ref ynu, .ref ymo])), (yta, .inl (cI, 120, .inl tp))] sz)) (vp_Si (fun r : Int32 => (r = 0))) 0 0 (fun _ => False) := by
  refine xh (QA := fun _ => vp_Si (fun r : Int32 => (r = 0))) (fr := fun _ _ => False) (by decide) (Nat.le_of_ble_eq_true rfl) ?_
  intro p e s m below meth c ls A hF hr hlk hin hsz hP hK hD hN hZ hA hS hl
  have hF : CallFix p m c cX9_isWord 9 s _ _ RX9 := hF
  have hx := hF.1
  have hb := hF.2.1
  have hml := hF.2.2.1
  have hown := hF.2.2.2.1
  have hu : ∀ w ∈ wsU, w.before _ s = true := fun w h => hF.2.2.2.2 w (List.mem_cons_of_mem _ h)
  have hl : lv_has ls 9 [(0, .ref h0), (1, .int p0), (2, .int p1), (3, .int p2), (4, .int p3), (5, .int p4), (6, .int p5), (7, .int p6)] := hl
  refine lv_iload_n hx hb dX9_isWord_0 rfl (lv_at hl 3 rfl) ?_
  refine lv_if_ne (tgt := 8) hx hb dX9_isWord_1 (by decide) (fun c_1 => ?_) (fun c_1 => ?_)
  · skip
    refine lv_iload hx hb dX9_isWord_8 (lv_at hl 4 rfl) ?_
    refine lv_if_ne (tgt := 17) hx hb dX9_isWord_10 (by decide) (fun c_2 => ?_) (fun c_2 => ?_)
    · skip
      refine lv_iload hx hb dX9_isWord_17 (lv_at hl 5 rfl) ?_
      refine lv_if_ne (tgt := 26) hx hb dX9_isWord_19 (by decide) (fun c_3 => ?_) (fun c_3 => ?_)
      · skip
        refine lv_iload hx hb dX9_isWord_26 (lv_at hl 6 rfl) ?_
        refine lv_if_ne (tgt := 35) hx hb dX9_isWord_28 (by decide) (fun c_4 => ?_) (fun c_4 => ?_)
        · skip
          refine lv_iload hx hb dX9_isWord_35 (lv_at hl 7 rfl) ?_
          refine lv_if_ne (tgt := 45) hx hb dX9_isWord_37 (by decide) (fun c_5 => ?_) (fun c_5 => ?_)
          · skip
            refine lv_bipush (v := 7) hx hb dX9_isWord_45 (by decide) ?_
            refine lv_istore (lv' := [(8, .int 7), (0, .ref h0), (1, .int p0), (2, .int p1), (3, .int p2), (4, .int p3), (5, .int p4), (6, .int p5), (7, .int p6)]) hx hb dX9_isWord_47 hl (by decide) rfl (fun ls hl => ?_)
            refine lv_aload_n hx hb dX9_isWord_49 rfl (lv_at hl 1 rfl) ?_
            refine xg hF kf_X9_266 hK hP 0 rfl rfl dX9_isWord_50 ?_
            refine lv_if_ne (tgt := 142) hx hb dX9_isWord_53 (by decide) (fun c_6 => ?_) (fun c_6 => absurd c_6 (by decide))
            refine lv_iconst (v := 0) hx hb dX9_isWord_142 (by decide) ?_
            exact W.zret (v := 0) hx hb hr rfl (fun t ht hW => ⟨0, rfl, (by first | exact rfl), ht⟩) (fun q h => by cases h) dX9_isWord_143 hlk
          · skip
            refine lv_bipush (v := 6) hx hb dX9_isWord_40 (by decide) ?_
            refine lv_goto (tgt := 47) hx hb dX9_isWord_42 (by decide) ?_
            refine lv_istore (lv' := [(8, .int 6), (0, .ref h0), (1, .int p0), (2, .int p1), (3, .int p2), (4, .int p3), (5, .int p4), (6, .int p5), (7, .int p6)]) hx hb dX9_isWord_47 hl (by decide) rfl (fun ls hl => ?_)
            refine lv_aload_n hx hb dX9_isWord_49 rfl (lv_at hl 1 rfl) ?_
            refine xg hF kf_X9_266 hK hP 0 rfl rfl dX9_isWord_50 ?_
            refine lv_if_ne (tgt := 142) hx hb dX9_isWord_53 (by decide) (fun c_7 => ?_) (fun c_7 => absurd c_7 (by decide))
            refine lv_iconst (v := 0) hx hb dX9_isWord_142 (by decide) ?_
            exact W.zret (v := 0) hx hb hr rfl (fun t ht hW => ⟨0, rfl, (by first | exact rfl), ht⟩) (fun q h => by cases h) dX9_isWord_143 hlk
        · skip
          refine lv_iconst (v := 5) hx hb dX9_isWord_31 (by decide) ?_
          refine lv_goto (tgt := 47) hx hb dX9_isWord_32 (by decide) ?_
          refine lv_istore (lv' := [(8, .int 5), (0, .ref h0), (1, .int p0), (2, .int p1), (3, .int p2), (4, .int p3), (5, .int p4), (6, .int p5), (7, .int p6)]) hx hb dX9_isWord_47 hl (by decide) rfl (fun ls hl => ?_)
          refine lv_aload_n hx hb dX9_isWord_49 rfl (lv_at hl 1 rfl) ?_
          refine xg hF kf_X9_266 hK hP 0 rfl rfl dX9_isWord_50 ?_
          refine lv_if_ne (tgt := 142) hx hb dX9_isWord_53 (by decide) (fun c_8 => ?_) (fun c_8 => absurd c_8 (by decide))
          refine lv_iconst (v := 0) hx hb dX9_isWord_142 (by decide) ?_
          exact W.zret (v := 0) hx hb hr rfl (fun t ht hW => ⟨0, rfl, (by first | exact rfl), ht⟩) (fun q h => by cases h) dX9_isWord_143 hlk
      · skip
        refine lv_iconst (v := 4) hx hb dX9_isWord_22 (by decide) ?_
        refine lv_goto (tgt := 47) hx hb dX9_isWord_23 (by decide) ?_
        refine lv_istore (lv' := [(8, .int 4), (0, .ref h0), (1, .int p0), (2, .int p1), (3, .int p2), (4, .int p3), (5, .int p4), (6, .int p5), (7, .int p6)]) hx hb dX9_isWord_47 hl (by decide) rfl (fun ls hl => ?_)
        refine lv_aload_n hx hb dX9_isWord_49 rfl (lv_at hl 1 rfl) ?_
        refine xg hF kf_X9_266 hK hP 0 rfl rfl dX9_isWord_50 ?_
        refine lv_if_ne (tgt := 142) hx hb dX9_isWord_53 (by decide) (fun c_9 => ?_) (fun c_9 => absurd c_9 (by decide))
        refine lv_iconst (v := 0) hx hb dX9_isWord_142 (by decide) ?_
        exact W.zret (v := 0) hx hb hr rfl (fun t ht hW => ⟨0, rfl, (by first | exact rfl), ht⟩) (fun q h => by cases h) dX9_isWord_143 hlk
    · skip
      refine lv_iconst (v := 3) hx hb dX9_isWord_13 (by decide) ?_
      refine lv_goto (tgt := 47) hx hb dX9_isWord_14 (by decide) ?_
      refine lv_istore (lv' := [(8, .int 3), (0, .ref h0), (1, .int p0), (2, .int p1), (3, .int p2), (4, .int p3), (5, .int p4), (6, .int p5), (7, .int p6)]) hx hb dX9_isWord_47 hl (by decide) rfl (fun ls hl => ?_)
      refine lv_aload_n hx hb dX9_isWord_49 rfl (lv_at hl 1 rfl) ?_
      refine xg hF kf_X9_266 hK hP 0 rfl rfl dX9_isWord_50 ?_
      refine lv_if_ne (tgt := 142) hx hb dX9_isWord_53 (by decide) (fun c_10 => ?_) (fun c_10 => absurd c_10 (by decide))
      refine lv_iconst (v := 0) hx hb dX9_isWord_142 (by decide) ?_
      exact W.zret (v := 0) hx hb hr rfl (fun t ht hW => ⟨0, rfl, (by first | exact rfl), ht⟩) (fun q h => by cases h) dX9_isWord_143 hlk
  · skip
    refine lv_iconst (v := 2) hx hb dX9_isWord_4 (by decide) ?_
    refine lv_goto (tgt := 47) hx hb dX9_isWord_5 (by decide) ?_
    refine lv_istore (lv' := [(8, .int 2), (0, .ref h0), (1, .int p0), (2, .int p1), (3, .int p2), (4, .int p3), (5, .int p4), (6, .int p5), (7, .int p6)]) hx hb dX9_isWord_47 hl (by decide) rfl (fun ls hl => ?_)
    refine lv_aload_n hx hb dX9_isWord_49 rfl (lv_at hl 1 rfl) ?_
    refine xg hF kf_X9_266 hK hP 0 rfl rfl dX9_isWord_50 ?_
    refine lv_if_ne (tgt := 142) hx hb dX9_isWord_53 (by decide) (fun c_11 => ?_) (fun c_11 => absurd c_11 (by decide))
    refine lv_iconst (v := 0) hx hb dX9_isWord_142 (by decide) ?_
    exact W.zret (v := 0) hx hb hr rfl (fun t ht hW => ⟨0, rfl, (by first | exact rfl), ht⟩) (fun q h => by cases h) dX9_isWord_143 hlk
theorem isw_0 {b : Nat → Int32} {f t : Nat} (h : t - f = 5) (h0 : b (f + 0) = 112) (h1 : b (f + 1) = 108) (h2 : b (f + 2) = 97) (h3 : b (f + 3) = 99) (h4 : b (f + 4) = 101) : isW b f t 0 := by
  refine ⟨h, fun k hk => ?_⟩
  have hk : k < 5 := hk
  rcases (show k = 0 ∨ k = 1 ∨ k = 2 ∨ k = 3 ∨ k = 4 by omega) with rfl | rfl | rfl | rfl | rfl
  · exact h0
  · exact h1
  · exact h2
  · exact h3
  · exact h4
theorem nisl_0 {b : Nat → Int32} {f t : Nat} (h : ¬ t - f = 5) : ¬ isW b f t 0 := fun q => h q.1
theorem nisw_0_0 {b : Nat → Int32} {f t : Nat} (h : ¬ b (f + 0) = 112) : ¬ isW b f t 0 := fun q => h (q.2 0 (show 0 < 5 by decide))
theorem nisw_0_1 {b : Nat → Int32} {f t : Nat} (h : ¬ b (f + 1) = 108) : ¬ isW b f t 0 := fun q => h (q.2 1 (show 1 < 5 by decide))
theorem nisw_0_2 {b : Nat → Int32} {f t : Nat} (h : ¬ b (f + 2) = 97) : ¬ isW b f t 0 := fun q => h (q.2 2 (show 2 < 5 by decide))
theorem nisw_0_3 {b : Nat → Int32} {f t : Nat} (h : ¬ b (f + 3) = 99) : ¬ isW b f t 0 := fun q => h (q.2 3 (show 3 < 5 by decide))
theorem nisw_0_4 {b : Nat → Int32} {f t : Nat} (h : ¬ b (f + 4) = 101) : ¬ isW b f t 0 := fun q => h (q.2 4 (show 4 < 5 by decide))
theorem isw_1 {b : Nat → Int32} {f t : Nat} (h : t - f = 3) (h0 : b (f + 0) = 119) (h1 : b (f + 1) = 97) (h2 : b (f + 2) = 121) : isW b f t 1 := by
  refine ⟨h, fun k hk => ?_⟩
  have hk : k < 3 := hk
  rcases (show k = 0 ∨ k = 1 ∨ k = 2 by omega) with rfl | rfl | rfl
  · exact h0
  · exact h1
  · exact h2
theorem nisl_1 {b : Nat → Int32} {f t : Nat} (h : ¬ t - f = 3) : ¬ isW b f t 1 := fun q => h q.1
theorem nisw_1_0 {b : Nat → Int32} {f t : Nat} (h : ¬ b (f + 0) = 119) : ¬ isW b f t 1 := fun q => h (q.2 0 (show 0 < 3 by decide))
theorem nisw_1_1 {b : Nat → Int32} {f t : Nat} (h : ¬ b (f + 1) = 97) : ¬ isW b f t 1 := fun q => h (q.2 1 (show 1 < 3 by decide))
theorem nisw_1_2 {b : Nat → Int32} {f t : Nat} (h : ¬ b (f + 2) = 121) : ¬ isW b f t 1 := fun q => h (q.2 2 (show 2 < 3 by decide))
theorem isw_2 {b : Nat → Int32} {f t : Nat} (h : t - f = 4) (h0 : b (f + 0) = 119) (h1 : b (f + 1) = 97) (h2 : b (f + 2) = 108) (h3 : b (f + 3) = 107) : isW b f t 2 := by
  refine ⟨h, fun k hk => ?_⟩
  have hk : k < 4 := hk
  rcases (show k = 0 ∨ k = 1 ∨ k = 2 ∨ k = 3 by omega) with rfl | rfl | rfl | rfl
  · exact h0
  · exact h1
  · exact h2
  · exact h3
theorem nisl_2 {b : Nat → Int32} {f t : Nat} (h : ¬ t - f = 4) : ¬ isW b f t 2 := fun q => h q.1
theorem nisw_2_0 {b : Nat → Int32} {f t : Nat} (h : ¬ b (f + 0) = 119) : ¬ isW b f t 2 := fun q => h (q.2 0 (show 0 < 4 by decide))
theorem nisw_2_1 {b : Nat → Int32} {f t : Nat} (h : ¬ b (f + 1) = 97) : ¬ isW b f t 2 := fun q => h (q.2 1 (show 1 < 4 by decide))
theorem nisw_2_2 {b : Nat → Int32} {f t : Nat} (h : ¬ b (f + 2) = 108) : ¬ isW b f t 2 := fun q => h (q.2 2 (show 2 < 4 by decide))
theorem nisw_2_3 {b : Nat → Int32} {f t : Nat} (h : ¬ b (f + 3) = 107) : ¬ isW b f t 2 := fun q => h (q.2 3 (show 3 < 4 by decide))
theorem isw_3 {b : Nat → Int32} {f t : Nat} (h : t - f = 7) (h0 : b (f + 0) = 101) (h1 : b (f + 1) = 114) (h2 : b (f + 2) = 114) (h3 : b (f + 3) = 97) (h4 : b (f + 4) = 110) (h5 : b (f + 5) = 100) (h6 : b (f + 6) = 115) : isW b f t 3 := by
  refine ⟨h, fun k hk => ?_⟩
  have hk : k < 7 := hk
  rcases (show k = 0 ∨ k = 1 ∨ k = 2 ∨ k = 3 ∨ k = 4 ∨ k = 5 ∨ k = 6 by omega) with rfl | rfl | rfl | rfl | rfl | rfl | rfl
  · exact h0
  · exact h1
  · exact h2
  · exact h3
  · exact h4
  · exact h5
  · exact h6
theorem nisl_3 {b : Nat → Int32} {f t : Nat} (h : ¬ t - f = 7) : ¬ isW b f t 3 := fun q => h q.1
theorem nisw_3_0 {b : Nat → Int32} {f t : Nat} (h : ¬ b (f + 0) = 101) : ¬ isW b f t 3 := fun q => h (q.2 0 (show 0 < 7 by decide))
theorem nisw_3_1 {b : Nat → Int32} {f t : Nat} (h : ¬ b (f + 1) = 114) : ¬ isW b f t 3 := fun q => h (q.2 1 (show 1 < 7 by decide))
theorem nisw_3_2 {b : Nat → Int32} {f t : Nat} (h : ¬ b (f + 2) = 114) : ¬ isW b f t 3 := fun q => h (q.2 2 (show 2 < 7 by decide))
theorem nisw_3_3 {b : Nat → Int32} {f t : Nat} (h : ¬ b (f + 3) = 97) : ¬ isW b f t 3 := fun q => h (q.2 3 (show 3 < 7 by decide))
theorem nisw_3_4 {b : Nat → Int32} {f t : Nat} (h : ¬ b (f + 4) = 110) : ¬ isW b f t 3 := fun q => h (q.2 4 (show 4 < 7 by decide))
theorem nisw_3_5 {b : Nat → Int32} {f t : Nat} (h : ¬ b (f + 5) = 100) : ¬ isW b f t 3 := fun q => h (q.2 5 (show 5 < 7 by decide))
theorem nisw_3_6 {b : Nat → Int32} {f t : Nat} (h : ¬ b (f + 6) = 115) : ¬ isW b f t 3 := fun q => h (q.2 6 (show 6 < 7 by decide))
theorem isw_4 {b : Nat → Int32} {f t : Nat} (h : t - f = 2) (h0 : b (f + 0) = 116) (h1 : b (f + 1) = 111) : isW b f t 4 := by
  refine ⟨h, fun k hk => ?_⟩
  have hk : k < 2 := hk
  rcases (show k = 0 ∨ k = 1 by omega) with rfl | rfl
  · exact h0
  · exact h1
theorem nisl_4 {b : Nat → Int32} {f t : Nat} (h : ¬ t - f = 2) : ¬ isW b f t 4 := fun q => h q.1
theorem nisw_4_0 {b : Nat → Int32} {f t : Nat} (h : ¬ b (f + 0) = 116) : ¬ isW b f t 4 := fun q => h (q.2 0 (show 0 < 2 by decide))
theorem nisw_4_1 {b : Nat → Int32} {f t : Nat} (h : ¬ b (f + 1) = 111) : ¬ isW b f t 4 := fun q => h (q.2 1 (show 1 < 2 by decide))
theorem isw_5 {b : Nat → Int32} {f t : Nat} (h : t - f = 4) (h0 : b (f + 0) = 98) (h1 : b (f + 1) = 97) (h2 : b (f + 2) = 99) (h3 : b (f + 3) = 107) : isW b f t 5 := by
  refine ⟨h, fun k hk => ?_⟩
  have hk : k < 4 := hk
  rcases (show k = 0 ∨ k = 1 ∨ k = 2 ∨ k = 3 by omega) with rfl | rfl | rfl | rfl
  · exact h0
  · exact h1
  · exact h2
  · exact h3
theorem nisl_5 {b : Nat → Int32} {f t : Nat} (h : ¬ t - f = 4) : ¬ isW b f t 5 := fun q => h q.1
theorem nisw_5_0 {b : Nat → Int32} {f t : Nat} (h : ¬ b (f + 0) = 98) : ¬ isW b f t 5 := fun q => h (q.2 0 (show 0 < 4 by decide))
theorem nisw_5_1 {b : Nat → Int32} {f t : Nat} (h : ¬ b (f + 1) = 97) : ¬ isW b f t 5 := fun q => h (q.2 1 (show 1 < 4 by decide))
theorem nisw_5_2 {b : Nat → Int32} {f t : Nat} (h : ¬ b (f + 2) = 99) : ¬ isW b f t 5 := fun q => h (q.2 2 (show 2 < 4 by decide))
theorem nisw_5_3 {b : Nat → Int32} {f t : Nat} (h : ¬ b (f + 3) = 107) : ¬ isW b f t 5 := fun q => h (q.2 3 (show 3 < 4 by decide))
theorem isw_6 {b : Nat → Int32} {f t : Nat} (h : t - f = 3) (h0 : b (f + 0) = 97) (h1 : b (f + 1) = 108) (h2 : b (f + 2) = 108) : isW b f t 6 := by
  refine ⟨h, fun k hk => ?_⟩
  have hk : k < 3 := hk
  rcases (show k = 0 ∨ k = 1 ∨ k = 2 by omega) with rfl | rfl | rfl
  · exact h0
  · exact h1
  · exact h2
theorem nisl_6 {b : Nat → Int32} {f t : Nat} (h : ¬ t - f = 3) : ¬ isW b f t 6 := fun q => h q.1
theorem nisw_6_0 {b : Nat → Int32} {f t : Nat} (h : ¬ b (f + 0) = 97) : ¬ isW b f t 6 := fun q => h (q.2 0 (show 0 < 3 by decide))
theorem nisw_6_1 {b : Nat → Int32} {f t : Nat} (h : ¬ b (f + 1) = 108) : ¬ isW b f t 6 := fun q => h (q.2 1 (show 1 < 3 by decide))
theorem nisw_6_2 {b : Nat → Int32} {f t : Nat} (h : ¬ b (f + 2) = 108) : ¬ isW b f t 6 := fun q => h (q.2 2 (show 2 < 3 by decide))
theorem isw_7 {b : Nat → Int32} {f t : Nat} (h : t - f = 5) (h0 : b (f + 0) = 115) (h1 : b (f + 1) = 108) (h2 : b (f + 2) = 97) (h3 : b (f + 3) = 99) (h4 : b (f + 4) = 107) : isW b f t 7 := by
  refine ⟨h, fun k hk => ?_⟩
  have hk : k < 5 := hk
  rcases (show k = 0 ∨ k = 1 ∨ k = 2 ∨ k = 3 ∨ k = 4 by omega) with rfl | rfl | rfl | rfl | rfl
  · exact h0
  · exact h1
  · exact h2
  · exact h3
  · exact h4
theorem nisl_7 {b : Nat → Int32} {f t : Nat} (h : ¬ t - f = 5) : ¬ isW b f t 7 := fun q => h q.1
theorem nisw_7_0 {b : Nat → Int32} {f t : Nat} (h : ¬ b (f + 0) = 115) : ¬ isW b f t 7 := fun q => h (q.2 0 (show 0 < 5 by decide))
theorem nisw_7_1 {b : Nat → Int32} {f t : Nat} (h : ¬ b (f + 1) = 108) : ¬ isW b f t 7 := fun q => h (q.2 1 (show 1 < 5 by decide))
theorem nisw_7_2 {b : Nat → Int32} {f t : Nat} (h : ¬ b (f + 2) = 97) : ¬ isW b f t 7 := fun q => h (q.2 2 (show 2 < 5 by decide))
theorem nisw_7_3 {b : Nat → Int32} {f t : Nat} (h : ¬ b (f + 3) = 99) : ¬ isW b f t 7 := fun q => h (q.2 3 (show 3 < 5 by decide))
theorem nisw_7_4 {b : Nat → Int32} {f t : Nat} (h : ¬ b (f + 4) = 107) : ¬ isW b f t 7 := fun q => h (q.2 4 (show 4 < 5 by decide))
set_option maxHeartbeats 4000000 in
set_option maxRecDepth 100000 in
theorem c_X9_isWord_0 (l : Launch) (D : va_G) (cI cJ cZ cS : ClassId) (ta : Nat) (sa sv : Nat → Nat) (sz : Nat) (h0 : Nat) (ys : Nat) (yk : Nat) (yo : Nat) (yt : Nat) (mk0 : Int32) (yfa : Nat) (yfe : Nat) (mL : Int32) (mS : Int32) (mM : Int32) (yro : Nat) (yhe : Nat) (ygr : Nat) (mF : Int32) (mC : Int32) (mY : Int32) (yta : Nat) (mz : Nat) (mv : Int32) (ywa : Nat) (ybi : Nat) (ysi : Nat) (ynu : Nat) (ymo : Nat) (tp : Nat → Int32) (u9 : Nat) (bb : Nat → Int32) (hz : mz ≤ 120) (hbb : bA tp mz = bb) (hu9 : u9 ≤ mz) : Met l yX9_isWord (Cond.code yX9_isWord cX9_isWord 9 (some .boolean) :: wsU) ({ frames := 2, cells := 0, slots := 0, locals := 43 }) (va_Pc [.ref h0, .int 112, .int 108, .int 97, .int 99, .int 101, .int 0, .int 0] (XW D (xT cI cJ cZ cS) ta sa sv [(h0, .inr (9, [.ref ys, .ref yk, .ref yo, .ref yt, .int mk0, .ref yfa, .ref yfe, .int mL, .int mS, .int mM, .ref yro, .ref yhe, .ref ygr, .int mF, .int mC, .int mY, .ref yta, .int (nI (mz)), .int (nI (nf bb mz u9)), .int (nI (nx bb mz u9)), .int mv, .int 0, .ref ywa, .ref ybi, .ref ysi, .ref ynu, .ref ymo])), (yta, .inl (cI, 120, .inl tp))] sz)) (vp_Si (fun r : Int32 => (r = 1 ∧ (isW bb (nf bb mz u9) (nx bb mz u9) 0)) ∨ (r = 0 ∧ (¬ isW bb (nf bb mz u9) (nx bb mz u9) 0)))) 0 0 (fun _ => False) := by
  refine xh (QA := fun _ => vp_Si (fun r : Int32 => (r = 1 ∧ (isW bb (nf bb mz u9) (nx bb mz u9) 0)) ∨ (r = 0 ∧ (¬ isW bb (nf bb mz u9) (nx bb mz u9) 0)))) (fr := fun _ _ => False) (by decide) (Nat.le_of_ble_eq_true rfl) ?_
  intro p e s m below meth c ls A hF hr hlk hin hsz hP hK hD hN hZ hA hS hl
  have hF : CallFix p m c cX9_isWord 9 s _ _ RX9 := hF
  have hx := hF.1
  have hb := hF.2.1
  have hml := hF.2.2.1
  have hown := hF.2.2.2.1
  have hu : ∀ w ∈ wsU, w.before _ s = true := fun w h => hF.2.2.2.2 w (List.mem_cons_of_mem _ h)
  have hl : lv_has ls 9 [(0, .ref h0), (1, .int 112), (2, .int 108), (3, .int 97), (4, .int 99), (5, .int 101), (6, .int 0), (7, .int 0)] := hl
  have htk := tk_le (b := bb) hu9
  refine lv_iload_n hx hb dX9_isWord_0 rfl (lv_at hl 3 rfl) ?_
  refine lv_if_ne (tgt := 8) hx hb dX9_isWord_1 (by decide) (fun c_1 => ?_) (fun c_1 => absurd c_1 (by decide))
  refine lv_iload hx hb dX9_isWord_8 (lv_at hl 4 rfl) ?_
  refine lv_if_ne (tgt := 17) hx hb dX9_isWord_10 (by decide) (fun c_2 => ?_) (fun c_2 => absurd c_2 (by decide))
  refine lv_iload hx hb dX9_isWord_17 (lv_at hl 5 rfl) ?_
  refine lv_if_ne (tgt := 26) hx hb dX9_isWord_19 (by decide) (fun c_3 => ?_) (fun c_3 => absurd c_3 (by decide))
  refine lv_iload hx hb dX9_isWord_26 (lv_at hl 6 rfl) ?_
  refine lv_if_ne (tgt := 35) hx hb dX9_isWord_28 (by decide) (fun c_4 => absurd (by decide) c_4) (fun c_4 => ?_)
  refine lv_iconst (v := 5) hx hb dX9_isWord_31 (by decide) ?_
  refine lv_goto (tgt := 47) hx hb dX9_isWord_32 (by decide) ?_
  refine lv_istore (lv' := [(8, .int 5), (0, .ref h0), (1, .int 112), (2, .int 108), (3, .int 97), (4, .int 99), (5, .int 101), (6, .int 0), (7, .int 0)]) hx hb dX9_isWord_47 hl (by decide) rfl (fun ls hl => ?_)
  refine lv_aload_n hx hb dX9_isWord_49 rfl (lv_at hl 1 rfl) ?_
  refine xg hF kf_X9_266 hK hP 0 rfl rfl dX9_isWord_50 ?_
  refine lv_if_ne (tgt := 142) hx hb dX9_isWord_53 (by decide) (fun c_5 => absurd (by decide) c_5) (fun c_5 => ?_)
  refine lv_aload_n hx hb dX9_isWord_56 rfl (lv_at hl 1 rfl) ?_
  refine xg hF kf_X9_251 hK hP 0 rfl rfl dX9_isWord_57 ?_
  refine lv_aload_n hx hb dX9_isWord_60 rfl (lv_at hl 1 rfl) ?_
  refine xg hF kf_X9_254 hK hP 0 rfl rfl dX9_isWord_61 ?_
  refine lv_isub hx hb dX9_isWord_64 ?_
  refine xl_i (y := nI (nx bb mz u9 - (nf bb mz u9))) (pk_sub (show nf bb mz u9 ≤ nx bb mz u9 by omega)) ?_
  refine lv_iload hx hb dX9_isWord_65 (lv_at hl 0 rfl) ?_
  refine lv_icmp_ne (tgt := 142) hx hb dX9_isWord_67 (by decide) (fun c_6 => ?_) (fun c_6 => ?_)
  · skip
    have nc_6 : nx bb mz u9 - (nf bb mz u9) ≠ 5 := xn_ne (a := (nx bb mz u9 - (nf bb mz u9))) (b := 5) (by omega) (by omega) c_6
    refine lv_iconst (v := 0) hx hb dX9_isWord_142 (by decide) ?_
    exact W.zret (v := 0) hx hb hr rfl (fun t ht hW => ⟨0, rfl, Or.inr ⟨rfl, nisl_0 (by omega)⟩, ht⟩) (fun q h => by cases h) dX9_isWord_143 hlk
  · skip
    have nc_6 : nx bb mz u9 - (nf bb mz u9) = 5 := xn_eq (a := (nx bb mz u9 - (nf bb mz u9))) (b := 5) (by omega) (by omega) c_6
    refine lv_aload_n hx hb dX9_isWord_70 rfl (lv_at hl 1 rfl) ?_
    refine lv_iconst (v := 0) hx hb dX9_isWord_71 (by decide) ?_
    refine lv_iload_n hx hb dX9_isWord_72 rfl (lv_at hl 2 rfl) ?_
    refine xc_Vr hF (c_X9_isAtP l D cI cJ cZ cS ta sa sv s.heap.size h0 ys yk yo yt mk0 yfa yfe mL mS mM yro yhe ygr mF mC mY yta mz mv ywa ybi ysi ynu ymo tp 0 112 u9 bb (by omega) hbb (by omega) (by omega) (by decide)) kv_X9_272 ⟨rfl, rfl, Nat.le_of_ble_eq_true rfl, Nat.le_of_ble_eq_true rfl⟩ ⟨Nat.le_of_ble_eq_true rfl, Nat.le_of_ble_eq_true rfl⟩ hK hN hZ hP hD hS hA [0, 1] rfl rfl 0 rfl rfl rfl rfl hl.1 rfl (Nat.le_of_ble_eq_true rfl) dX9_isWord_73 (fun r_7 hw_r_7 => ?_)
    rcases hw_r_7 with ⟨rfl, h_8⟩ | ⟨rfl, h_9⟩
    · skip
      refine lv_if_eq (tgt := 142) hx hb dX9_isWord_76 (by decide) (fun c_10 => absurd c_10 (by decide)) (fun c_10 => ?_)
      refine lv_aload_n hx hb dX9_isWord_79 rfl (lv_at hl 1 rfl) ?_
      refine lv_iconst (v := 1) hx hb dX9_isWord_80 (by decide) ?_
      refine lv_iload_n hx hb dX9_isWord_81 rfl (lv_at hl 3 rfl) ?_
      refine xc_Vr hF (c_X9_isAtP l D cI cJ cZ cS ta sa sv s.heap.size h0 ys yk yo yt mk0 yfa yfe mL mS mM yro yhe ygr mF mC mY yta mz mv ywa ybi ysi ynu ymo tp 1 108 u9 bb (by omega) hbb (by omega) (by omega) (by decide)) kv_X9_272 ⟨rfl, rfl, Nat.le_of_ble_eq_true rfl, Nat.le_of_ble_eq_true rfl⟩ ⟨Nat.le_of_ble_eq_true rfl, Nat.le_of_ble_eq_true rfl⟩ hK hN hZ hP hD hS hA [0, 1] rfl rfl 0 rfl rfl rfl rfl hl.1 rfl (Nat.le_of_ble_eq_true rfl) dX9_isWord_82 (fun r_11 hw_r_11 => ?_)
      rcases hw_r_11 with ⟨rfl, h_12⟩ | ⟨rfl, h_13⟩
      · skip
        refine lv_if_eq (tgt := 142) hx hb dX9_isWord_85 (by decide) (fun c_14 => absurd c_14 (by decide)) (fun c_14 => ?_)
        refine lv_aload_n hx hb dX9_isWord_88 rfl (lv_at hl 1 rfl) ?_
        refine lv_iconst (v := 2) hx hb dX9_isWord_89 (by decide) ?_
        refine lv_iload_n hx hb dX9_isWord_90 rfl (lv_at hl 4 rfl) ?_
        refine xc_Vr hF (c_X9_isAtP l D cI cJ cZ cS ta sa sv s.heap.size h0 ys yk yo yt mk0 yfa yfe mL mS mM yro yhe ygr mF mC mY yta mz mv ywa ybi ysi ynu ymo tp 2 97 u9 bb (by omega) hbb (by omega) (by omega) (by decide)) kv_X9_272 ⟨rfl, rfl, Nat.le_of_ble_eq_true rfl, Nat.le_of_ble_eq_true rfl⟩ ⟨Nat.le_of_ble_eq_true rfl, Nat.le_of_ble_eq_true rfl⟩ hK hN hZ hP hD hS hA [0, 1] rfl rfl 0 rfl rfl rfl rfl hl.1 rfl (Nat.le_of_ble_eq_true rfl) dX9_isWord_91 (fun r_15 hw_r_15 => ?_)
        rcases hw_r_15 with ⟨rfl, h_16⟩ | ⟨rfl, h_17⟩
        · skip
          refine lv_if_eq (tgt := 142) hx hb dX9_isWord_94 (by decide) (fun c_18 => absurd c_18 (by decide)) (fun c_18 => ?_)
          refine lv_aload_n hx hb dX9_isWord_97 rfl (lv_at hl 1 rfl) ?_
          refine lv_iconst (v := 3) hx hb dX9_isWord_98 (by decide) ?_
          refine lv_iload hx hb dX9_isWord_99 (lv_at hl 5 rfl) ?_
          refine xc_Vr hF (c_X9_isAtP l D cI cJ cZ cS ta sa sv s.heap.size h0 ys yk yo yt mk0 yfa yfe mL mS mM yro yhe ygr mF mC mY yta mz mv ywa ybi ysi ynu ymo tp 3 99 u9 bb (by omega) hbb (by omega) (by omega) (by decide)) kv_X9_272 ⟨rfl, rfl, Nat.le_of_ble_eq_true rfl, Nat.le_of_ble_eq_true rfl⟩ ⟨Nat.le_of_ble_eq_true rfl, Nat.le_of_ble_eq_true rfl⟩ hK hN hZ hP hD hS hA [0, 1] rfl rfl 0 rfl rfl rfl rfl hl.1 rfl (Nat.le_of_ble_eq_true rfl) dX9_isWord_101 (fun r_19 hw_r_19 => ?_)
          rcases hw_r_19 with ⟨rfl, h_20⟩ | ⟨rfl, h_21⟩
          · skip
            refine lv_if_eq (tgt := 142) hx hb dX9_isWord_104 (by decide) (fun c_22 => absurd c_22 (by decide)) (fun c_22 => ?_)
            refine lv_aload_n hx hb dX9_isWord_107 rfl (lv_at hl 1 rfl) ?_
            refine lv_iconst (v := 4) hx hb dX9_isWord_108 (by decide) ?_
            refine lv_iload hx hb dX9_isWord_109 (lv_at hl 6 rfl) ?_
            refine xc_Vr hF (c_X9_isAtP l D cI cJ cZ cS ta sa sv s.heap.size h0 ys yk yo yt mk0 yfa yfe mL mS mM yro yhe ygr mF mC mY yta mz mv ywa ybi ysi ynu ymo tp 4 101 u9 bb (by omega) hbb (by omega) (by omega) (by decide)) kv_X9_272 ⟨rfl, rfl, Nat.le_of_ble_eq_true rfl, Nat.le_of_ble_eq_true rfl⟩ ⟨Nat.le_of_ble_eq_true rfl, Nat.le_of_ble_eq_true rfl⟩ hK hN hZ hP hD hS hA [0, 1] rfl rfl 0 rfl rfl rfl rfl hl.1 rfl (Nat.le_of_ble_eq_true rfl) dX9_isWord_111 (fun r_23 hw_r_23 => ?_)
            rcases hw_r_23 with ⟨rfl, h_24⟩ | ⟨rfl, h_25⟩
            · skip
              refine lv_if_eq (tgt := 142) hx hb dX9_isWord_114 (by decide) (fun c_26 => absurd c_26 (by decide)) (fun c_26 => ?_)
              refine lv_aload_n hx hb dX9_isWord_117 rfl (lv_at hl 1 rfl) ?_
              refine lv_iconst (v := 5) hx hb dX9_isWord_118 (by decide) ?_
              refine lv_iload hx hb dX9_isWord_119 (lv_at hl 7 rfl) ?_
              refine xc_Vr hF (c_X9_isAt0 l D cI cJ cZ cS ta sa sv s.heap.size h0 ys yk yo yt mk0 yfa yfe mL mS mM yro yhe ygr mF mC mY yta mz mv ywa ybi ysi ynu ymo tp 5 u9 bb (by omega) hbb (by omega)) kv_X9_272 ⟨rfl, rfl, Nat.le_of_ble_eq_true rfl, Nat.le_of_ble_eq_true rfl⟩ ⟨Nat.le_of_ble_eq_true rfl, Nat.le_of_ble_eq_true rfl⟩ hK hN hZ hP hD hS hA [0, 1] rfl rfl 0 rfl rfl rfl rfl hl.1 rfl (Nat.le_of_ble_eq_true rfl) dX9_isWord_121 (fun r_27 hw_r_27 => ?_)
              subst hw_r_27
              refine lv_if_eq (tgt := 142) hx hb dX9_isWord_124 (by decide) (fun c_28 => absurd c_28 (by decide)) (fun c_28 => ?_)
              refine lv_aload_n hx hb dX9_isWord_127 rfl (lv_at hl 1 rfl) ?_
              refine lv_bipush (v := 6) hx hb dX9_isWord_128 (by decide) ?_
              refine lv_iload hx hb dX9_isWord_130 (lv_at hl 8 rfl) ?_
              refine xc_Vr hF (c_X9_isAt0 l D cI cJ cZ cS ta sa sv s.heap.size h0 ys yk yo yt mk0 yfa yfe mL mS mM yro yhe ygr mF mC mY yta mz mv ywa ybi ysi ynu ymo tp 6 u9 bb (by omega) hbb (by omega)) kv_X9_272 ⟨rfl, rfl, Nat.le_of_ble_eq_true rfl, Nat.le_of_ble_eq_true rfl⟩ ⟨Nat.le_of_ble_eq_true rfl, Nat.le_of_ble_eq_true rfl⟩ hK hN hZ hP hD hS hA [0, 1] rfl rfl 0 rfl rfl rfl rfl hl.1 rfl (Nat.le_of_ble_eq_true rfl) dX9_isWord_132 (fun r_29 hw_r_29 => ?_)
              subst hw_r_29
              refine lv_if_eq (tgt := 142) hx hb dX9_isWord_135 (by decide) (fun c_30 => absurd c_30 (by decide)) (fun c_30 => ?_)
              refine lv_iconst (v := 1) hx hb dX9_isWord_138 (by decide) ?_
              refine lv_goto (tgt := 143) hx hb dX9_isWord_139 (by decide) ?_
              exact W.zret (v := 1) hx hb hr rfl (fun t ht hW => ⟨1, rfl, Or.inl ⟨rfl, isw_0 (by omega) h_8 h_12 h_16 h_20 h_24⟩, ht⟩) (fun q h => by cases h) dX9_isWord_143 hlk
            · skip
              refine lv_if_eq (tgt := 142) hx hb dX9_isWord_114 (by decide) (fun c_31 => ?_) (fun c_31 => absurd (by decide) c_31)
              refine lv_iconst (v := 0) hx hb dX9_isWord_142 (by decide) ?_
              exact W.zret (v := 0) hx hb hr rfl (fun t ht hW => ⟨0, rfl, Or.inr ⟨rfl, nisw_0_4 h_25⟩, ht⟩) (fun q h => by cases h) dX9_isWord_143 hlk
          · skip
            refine lv_if_eq (tgt := 142) hx hb dX9_isWord_104 (by decide) (fun c_32 => ?_) (fun c_32 => absurd (by decide) c_32)
            refine lv_iconst (v := 0) hx hb dX9_isWord_142 (by decide) ?_
            exact W.zret (v := 0) hx hb hr rfl (fun t ht hW => ⟨0, rfl, Or.inr ⟨rfl, nisw_0_3 h_21⟩, ht⟩) (fun q h => by cases h) dX9_isWord_143 hlk
        · skip
          refine lv_if_eq (tgt := 142) hx hb dX9_isWord_94 (by decide) (fun c_33 => ?_) (fun c_33 => absurd (by decide) c_33)
          refine lv_iconst (v := 0) hx hb dX9_isWord_142 (by decide) ?_
          exact W.zret (v := 0) hx hb hr rfl (fun t ht hW => ⟨0, rfl, Or.inr ⟨rfl, nisw_0_2 h_17⟩, ht⟩) (fun q h => by cases h) dX9_isWord_143 hlk
      · skip
        refine lv_if_eq (tgt := 142) hx hb dX9_isWord_85 (by decide) (fun c_34 => ?_) (fun c_34 => absurd (by decide) c_34)
        refine lv_iconst (v := 0) hx hb dX9_isWord_142 (by decide) ?_
        exact W.zret (v := 0) hx hb hr rfl (fun t ht hW => ⟨0, rfl, Or.inr ⟨rfl, nisw_0_1 h_13⟩, ht⟩) (fun q h => by cases h) dX9_isWord_143 hlk
    · skip
      refine lv_if_eq (tgt := 142) hx hb dX9_isWord_76 (by decide) (fun c_35 => ?_) (fun c_35 => absurd (by decide) c_35)
      refine lv_iconst (v := 0) hx hb dX9_isWord_142 (by decide) ?_
      exact W.zret (v := 0) hx hb hr rfl (fun t ht hW => ⟨0, rfl, Or.inr ⟨rfl, nisw_0_0 h_9⟩, ht⟩) (fun q h => by cases h) dX9_isWord_143 hlk
set_option maxHeartbeats 4000000 in
set_option maxRecDepth 100000 in
theorem c_X9_isWord_1 (l : Launch) (D : va_G) (cI cJ cZ cS : ClassId) (ta : Nat) (sa sv : Nat → Nat) (sz : Nat) (h0 : Nat) (ys : Nat) (yk : Nat) (yo : Nat) (yt : Nat) (mk0 : Int32) (yfa : Nat) (yfe : Nat) (mL : Int32) (mS : Int32) (mM : Int32) (yro : Nat) (yhe : Nat) (ygr : Nat) (mF : Int32) (mC : Int32) (mY : Int32) (yta : Nat) (mz : Nat) (mv : Int32) (ywa : Nat) (ybi : Nat) (ysi : Nat) (ynu : Nat) (ymo : Nat) (tp : Nat → Int32) (u9 : Nat) (bb : Nat → Int32) (hz : mz ≤ 120) (hbb : bA tp mz = bb) (hu9 : u9 ≤ mz) : Met l yX9_isWord (Cond.code yX9_isWord cX9_isWord 9 (some .boolean) :: wsU) ({ frames := 2, cells := 0, slots := 0, locals := 43 }) (va_Pc [.ref h0, .int 119, .int 97, .int 121, .int 0, .int 0, .int 0, .int 0] (XW D (xT cI cJ cZ cS) ta sa sv [(h0, .inr (9, [.ref ys, .ref yk, .ref yo, .ref yt, .int mk0, .ref yfa, .ref yfe, .int mL, .int mS, .int mM, .ref yro, .ref yhe, .ref ygr, .int mF, .int mC, .int mY, .ref yta, .int (nI (mz)), .int (nI (nf bb mz u9)), .int (nI (nx bb mz u9)), .int mv, .int 0, .ref ywa, .ref ybi, .ref ysi, .ref ynu, .ref ymo])), (yta, .inl (cI, 120, .inl tp))] sz)) (vp_Si (fun r : Int32 => (r = 1 ∧ (isW bb (nf bb mz u9) (nx bb mz u9) 1)) ∨ (r = 0 ∧ (¬ isW bb (nf bb mz u9) (nx bb mz u9) 1)))) 0 0 (fun _ => False) := by
  refine xh (QA := fun _ => vp_Si (fun r : Int32 => (r = 1 ∧ (isW bb (nf bb mz u9) (nx bb mz u9) 1)) ∨ (r = 0 ∧ (¬ isW bb (nf bb mz u9) (nx bb mz u9) 1)))) (fr := fun _ _ => False) (by decide) (Nat.le_of_ble_eq_true rfl) ?_
  intro p e s m below meth c ls A hF hr hlk hin hsz hP hK hD hN hZ hA hS hl
  have hF : CallFix p m c cX9_isWord 9 s _ _ RX9 := hF
  have hx := hF.1
  have hb := hF.2.1
  have hml := hF.2.2.1
  have hown := hF.2.2.2.1
  have hu : ∀ w ∈ wsU, w.before _ s = true := fun w h => hF.2.2.2.2 w (List.mem_cons_of_mem _ h)
  have hl : lv_has ls 9 [(0, .ref h0), (1, .int 119), (2, .int 97), (3, .int 121), (4, .int 0), (5, .int 0), (6, .int 0), (7, .int 0)] := hl
  have htk := tk_le (b := bb) hu9
  refine lv_iload_n hx hb dX9_isWord_0 rfl (lv_at hl 3 rfl) ?_
  refine lv_if_ne (tgt := 8) hx hb dX9_isWord_1 (by decide) (fun c_1 => ?_) (fun c_1 => absurd c_1 (by decide))
  refine lv_iload hx hb dX9_isWord_8 (lv_at hl 4 rfl) ?_
  refine lv_if_ne (tgt := 17) hx hb dX9_isWord_10 (by decide) (fun c_2 => absurd (by decide) c_2) (fun c_2 => ?_)
  refine lv_iconst (v := 3) hx hb dX9_isWord_13 (by decide) ?_
  refine lv_goto (tgt := 47) hx hb dX9_isWord_14 (by decide) ?_
  refine lv_istore (lv' := [(8, .int 3), (0, .ref h0), (1, .int 119), (2, .int 97), (3, .int 121), (4, .int 0), (5, .int 0), (6, .int 0), (7, .int 0)]) hx hb dX9_isWord_47 hl (by decide) rfl (fun ls hl => ?_)
  refine lv_aload_n hx hb dX9_isWord_49 rfl (lv_at hl 1 rfl) ?_
  refine xg hF kf_X9_266 hK hP 0 rfl rfl dX9_isWord_50 ?_
  refine lv_if_ne (tgt := 142) hx hb dX9_isWord_53 (by decide) (fun c_3 => absurd (by decide) c_3) (fun c_3 => ?_)
  refine lv_aload_n hx hb dX9_isWord_56 rfl (lv_at hl 1 rfl) ?_
  refine xg hF kf_X9_251 hK hP 0 rfl rfl dX9_isWord_57 ?_
  refine lv_aload_n hx hb dX9_isWord_60 rfl (lv_at hl 1 rfl) ?_
  refine xg hF kf_X9_254 hK hP 0 rfl rfl dX9_isWord_61 ?_
  refine lv_isub hx hb dX9_isWord_64 ?_
  refine xl_i (y := nI (nx bb mz u9 - (nf bb mz u9))) (pk_sub (show nf bb mz u9 ≤ nx bb mz u9 by omega)) ?_
  refine lv_iload hx hb dX9_isWord_65 (lv_at hl 0 rfl) ?_
  refine lv_icmp_ne (tgt := 142) hx hb dX9_isWord_67 (by decide) (fun c_4 => ?_) (fun c_4 => ?_)
  · skip
    have nc_4 : nx bb mz u9 - (nf bb mz u9) ≠ 3 := xn_ne (a := (nx bb mz u9 - (nf bb mz u9))) (b := 3) (by omega) (by omega) c_4
    refine lv_iconst (v := 0) hx hb dX9_isWord_142 (by decide) ?_
    exact W.zret (v := 0) hx hb hr rfl (fun t ht hW => ⟨0, rfl, Or.inr ⟨rfl, nisl_1 (by omega)⟩, ht⟩) (fun q h => by cases h) dX9_isWord_143 hlk
  · skip
    have nc_4 : nx bb mz u9 - (nf bb mz u9) = 3 := xn_eq (a := (nx bb mz u9 - (nf bb mz u9))) (b := 3) (by omega) (by omega) c_4
    refine lv_aload_n hx hb dX9_isWord_70 rfl (lv_at hl 1 rfl) ?_
    refine lv_iconst (v := 0) hx hb dX9_isWord_71 (by decide) ?_
    refine lv_iload_n hx hb dX9_isWord_72 rfl (lv_at hl 2 rfl) ?_
    refine xc_Vr hF (c_X9_isAtP l D cI cJ cZ cS ta sa sv s.heap.size h0 ys yk yo yt mk0 yfa yfe mL mS mM yro yhe ygr mF mC mY yta mz mv ywa ybi ysi ynu ymo tp 0 119 u9 bb (by omega) hbb (by omega) (by omega) (by decide)) kv_X9_272 ⟨rfl, rfl, Nat.le_of_ble_eq_true rfl, Nat.le_of_ble_eq_true rfl⟩ ⟨Nat.le_of_ble_eq_true rfl, Nat.le_of_ble_eq_true rfl⟩ hK hN hZ hP hD hS hA [0, 1] rfl rfl 0 rfl rfl rfl rfl hl.1 rfl (Nat.le_of_ble_eq_true rfl) dX9_isWord_73 (fun r_5 hw_r_5 => ?_)
    rcases hw_r_5 with ⟨rfl, h_6⟩ | ⟨rfl, h_7⟩
    · skip
      refine lv_if_eq (tgt := 142) hx hb dX9_isWord_76 (by decide) (fun c_8 => absurd c_8 (by decide)) (fun c_8 => ?_)
      refine lv_aload_n hx hb dX9_isWord_79 rfl (lv_at hl 1 rfl) ?_
      refine lv_iconst (v := 1) hx hb dX9_isWord_80 (by decide) ?_
      refine lv_iload_n hx hb dX9_isWord_81 rfl (lv_at hl 3 rfl) ?_
      refine xc_Vr hF (c_X9_isAtP l D cI cJ cZ cS ta sa sv s.heap.size h0 ys yk yo yt mk0 yfa yfe mL mS mM yro yhe ygr mF mC mY yta mz mv ywa ybi ysi ynu ymo tp 1 97 u9 bb (by omega) hbb (by omega) (by omega) (by decide)) kv_X9_272 ⟨rfl, rfl, Nat.le_of_ble_eq_true rfl, Nat.le_of_ble_eq_true rfl⟩ ⟨Nat.le_of_ble_eq_true rfl, Nat.le_of_ble_eq_true rfl⟩ hK hN hZ hP hD hS hA [0, 1] rfl rfl 0 rfl rfl rfl rfl hl.1 rfl (Nat.le_of_ble_eq_true rfl) dX9_isWord_82 (fun r_9 hw_r_9 => ?_)
      rcases hw_r_9 with ⟨rfl, h_10⟩ | ⟨rfl, h_11⟩
      · skip
        refine lv_if_eq (tgt := 142) hx hb dX9_isWord_85 (by decide) (fun c_12 => absurd c_12 (by decide)) (fun c_12 => ?_)
        refine lv_aload_n hx hb dX9_isWord_88 rfl (lv_at hl 1 rfl) ?_
        refine lv_iconst (v := 2) hx hb dX9_isWord_89 (by decide) ?_
        refine lv_iload_n hx hb dX9_isWord_90 rfl (lv_at hl 4 rfl) ?_
        refine xc_Vr hF (c_X9_isAtP l D cI cJ cZ cS ta sa sv s.heap.size h0 ys yk yo yt mk0 yfa yfe mL mS mM yro yhe ygr mF mC mY yta mz mv ywa ybi ysi ynu ymo tp 2 121 u9 bb (by omega) hbb (by omega) (by omega) (by decide)) kv_X9_272 ⟨rfl, rfl, Nat.le_of_ble_eq_true rfl, Nat.le_of_ble_eq_true rfl⟩ ⟨Nat.le_of_ble_eq_true rfl, Nat.le_of_ble_eq_true rfl⟩ hK hN hZ hP hD hS hA [0, 1] rfl rfl 0 rfl rfl rfl rfl hl.1 rfl (Nat.le_of_ble_eq_true rfl) dX9_isWord_91 (fun r_13 hw_r_13 => ?_)
        rcases hw_r_13 with ⟨rfl, h_14⟩ | ⟨rfl, h_15⟩
        · skip
          refine lv_if_eq (tgt := 142) hx hb dX9_isWord_94 (by decide) (fun c_16 => absurd c_16 (by decide)) (fun c_16 => ?_)
          refine lv_aload_n hx hb dX9_isWord_97 rfl (lv_at hl 1 rfl) ?_
          refine lv_iconst (v := 3) hx hb dX9_isWord_98 (by decide) ?_
          refine lv_iload hx hb dX9_isWord_99 (lv_at hl 5 rfl) ?_
          refine xc_Vr hF (c_X9_isAt0 l D cI cJ cZ cS ta sa sv s.heap.size h0 ys yk yo yt mk0 yfa yfe mL mS mM yro yhe ygr mF mC mY yta mz mv ywa ybi ysi ynu ymo tp 3 u9 bb (by omega) hbb (by omega)) kv_X9_272 ⟨rfl, rfl, Nat.le_of_ble_eq_true rfl, Nat.le_of_ble_eq_true rfl⟩ ⟨Nat.le_of_ble_eq_true rfl, Nat.le_of_ble_eq_true rfl⟩ hK hN hZ hP hD hS hA [0, 1] rfl rfl 0 rfl rfl rfl rfl hl.1 rfl (Nat.le_of_ble_eq_true rfl) dX9_isWord_101 (fun r_17 hw_r_17 => ?_)
          subst hw_r_17
          refine lv_if_eq (tgt := 142) hx hb dX9_isWord_104 (by decide) (fun c_18 => absurd c_18 (by decide)) (fun c_18 => ?_)
          refine lv_aload_n hx hb dX9_isWord_107 rfl (lv_at hl 1 rfl) ?_
          refine lv_iconst (v := 4) hx hb dX9_isWord_108 (by decide) ?_
          refine lv_iload hx hb dX9_isWord_109 (lv_at hl 6 rfl) ?_
          refine xc_Vr hF (c_X9_isAt0 l D cI cJ cZ cS ta sa sv s.heap.size h0 ys yk yo yt mk0 yfa yfe mL mS mM yro yhe ygr mF mC mY yta mz mv ywa ybi ysi ynu ymo tp 4 u9 bb (by omega) hbb (by omega)) kv_X9_272 ⟨rfl, rfl, Nat.le_of_ble_eq_true rfl, Nat.le_of_ble_eq_true rfl⟩ ⟨Nat.le_of_ble_eq_true rfl, Nat.le_of_ble_eq_true rfl⟩ hK hN hZ hP hD hS hA [0, 1] rfl rfl 0 rfl rfl rfl rfl hl.1 rfl (Nat.le_of_ble_eq_true rfl) dX9_isWord_111 (fun r_19 hw_r_19 => ?_)
          subst hw_r_19
          refine lv_if_eq (tgt := 142) hx hb dX9_isWord_114 (by decide) (fun c_20 => absurd c_20 (by decide)) (fun c_20 => ?_)
          refine lv_aload_n hx hb dX9_isWord_117 rfl (lv_at hl 1 rfl) ?_
          refine lv_iconst (v := 5) hx hb dX9_isWord_118 (by decide) ?_
          refine lv_iload hx hb dX9_isWord_119 (lv_at hl 7 rfl) ?_
          refine xc_Vr hF (c_X9_isAt0 l D cI cJ cZ cS ta sa sv s.heap.size h0 ys yk yo yt mk0 yfa yfe mL mS mM yro yhe ygr mF mC mY yta mz mv ywa ybi ysi ynu ymo tp 5 u9 bb (by omega) hbb (by omega)) kv_X9_272 ⟨rfl, rfl, Nat.le_of_ble_eq_true rfl, Nat.le_of_ble_eq_true rfl⟩ ⟨Nat.le_of_ble_eq_true rfl, Nat.le_of_ble_eq_true rfl⟩ hK hN hZ hP hD hS hA [0, 1] rfl rfl 0 rfl rfl rfl rfl hl.1 rfl (Nat.le_of_ble_eq_true rfl) dX9_isWord_121 (fun r_21 hw_r_21 => ?_)
          subst hw_r_21
          refine lv_if_eq (tgt := 142) hx hb dX9_isWord_124 (by decide) (fun c_22 => absurd c_22 (by decide)) (fun c_22 => ?_)
          refine lv_aload_n hx hb dX9_isWord_127 rfl (lv_at hl 1 rfl) ?_
          refine lv_bipush (v := 6) hx hb dX9_isWord_128 (by decide) ?_
          refine lv_iload hx hb dX9_isWord_130 (lv_at hl 8 rfl) ?_
          refine xc_Vr hF (c_X9_isAt0 l D cI cJ cZ cS ta sa sv s.heap.size h0 ys yk yo yt mk0 yfa yfe mL mS mM yro yhe ygr mF mC mY yta mz mv ywa ybi ysi ynu ymo tp 6 u9 bb (by omega) hbb (by omega)) kv_X9_272 ⟨rfl, rfl, Nat.le_of_ble_eq_true rfl, Nat.le_of_ble_eq_true rfl⟩ ⟨Nat.le_of_ble_eq_true rfl, Nat.le_of_ble_eq_true rfl⟩ hK hN hZ hP hD hS hA [0, 1] rfl rfl 0 rfl rfl rfl rfl hl.1 rfl (Nat.le_of_ble_eq_true rfl) dX9_isWord_132 (fun r_23 hw_r_23 => ?_)
          subst hw_r_23
          refine lv_if_eq (tgt := 142) hx hb dX9_isWord_135 (by decide) (fun c_24 => absurd c_24 (by decide)) (fun c_24 => ?_)
          refine lv_iconst (v := 1) hx hb dX9_isWord_138 (by decide) ?_
          refine lv_goto (tgt := 143) hx hb dX9_isWord_139 (by decide) ?_
          exact W.zret (v := 1) hx hb hr rfl (fun t ht hW => ⟨1, rfl, Or.inl ⟨rfl, isw_1 (by omega) h_6 h_10 h_14⟩, ht⟩) (fun q h => by cases h) dX9_isWord_143 hlk
        · skip
          refine lv_if_eq (tgt := 142) hx hb dX9_isWord_94 (by decide) (fun c_25 => ?_) (fun c_25 => absurd (by decide) c_25)
          refine lv_iconst (v := 0) hx hb dX9_isWord_142 (by decide) ?_
          exact W.zret (v := 0) hx hb hr rfl (fun t ht hW => ⟨0, rfl, Or.inr ⟨rfl, nisw_1_2 h_15⟩, ht⟩) (fun q h => by cases h) dX9_isWord_143 hlk
      · skip
        refine lv_if_eq (tgt := 142) hx hb dX9_isWord_85 (by decide) (fun c_26 => ?_) (fun c_26 => absurd (by decide) c_26)
        refine lv_iconst (v := 0) hx hb dX9_isWord_142 (by decide) ?_
        exact W.zret (v := 0) hx hb hr rfl (fun t ht hW => ⟨0, rfl, Or.inr ⟨rfl, nisw_1_1 h_11⟩, ht⟩) (fun q h => by cases h) dX9_isWord_143 hlk
    · skip
      refine lv_if_eq (tgt := 142) hx hb dX9_isWord_76 (by decide) (fun c_27 => ?_) (fun c_27 => absurd (by decide) c_27)
      refine lv_iconst (v := 0) hx hb dX9_isWord_142 (by decide) ?_
      exact W.zret (v := 0) hx hb hr rfl (fun t ht hW => ⟨0, rfl, Or.inr ⟨rfl, nisw_1_0 h_7⟩, ht⟩) (fun q h => by cases h) dX9_isWord_143 hlk
set_option maxHeartbeats 4000000 in
set_option maxRecDepth 100000 in
theorem c_X9_isWord_2 (l : Launch) (D : va_G) (cI cJ cZ cS : ClassId) (ta : Nat) (sa sv : Nat → Nat) (sz : Nat) (h0 : Nat) (ys : Nat) (yk : Nat) (yo : Nat) (yt : Nat) (mk0 : Int32) (yfa : Nat) (yfe : Nat) (mL : Int32) (mS : Int32) (mM : Int32) (yro : Nat) (yhe : Nat) (ygr : Nat) (mF : Int32) (mC : Int32) (mY : Int32) (yta : Nat) (mz : Nat) (mv : Int32) (ywa : Nat) (ybi : Nat) (ysi : Nat) (ynu : Nat) (ymo : Nat) (tp : Nat → Int32) (u9 : Nat) (bb : Nat → Int32) (hz : mz ≤ 120) (hbb : bA tp mz = bb) (hu9 : u9 ≤ mz) : Met l yX9_isWord (Cond.code yX9_isWord cX9_isWord 9 (some .boolean) :: wsU) ({ frames := 2, cells := 0, slots := 0, locals := 43 }) (va_Pc [.ref h0, .int 119, .int 97, .int 108, .int 107, .int 0, .int 0, .int 0] (XW D (xT cI cJ cZ cS) ta sa sv [(h0, .inr (9, [.ref ys, .ref yk, .ref yo, .ref yt, .int mk0, .ref yfa, .ref yfe, .int mL, .int mS, .int mM, .ref yro, .ref yhe, .ref ygr, .int mF, .int mC, .int mY, .ref yta, .int (nI (mz)), .int (nI (nf bb mz u9)), .int (nI (nx bb mz u9)), .int mv, .int 0, .ref ywa, .ref ybi, .ref ysi, .ref ynu, .ref ymo])), (yta, .inl (cI, 120, .inl tp))] sz)) (vp_Si (fun r : Int32 => (r = 1 ∧ (isW bb (nf bb mz u9) (nx bb mz u9) 2)) ∨ (r = 0 ∧ (¬ isW bb (nf bb mz u9) (nx bb mz u9) 2)))) 0 0 (fun _ => False) := by
  refine xh (QA := fun _ => vp_Si (fun r : Int32 => (r = 1 ∧ (isW bb (nf bb mz u9) (nx bb mz u9) 2)) ∨ (r = 0 ∧ (¬ isW bb (nf bb mz u9) (nx bb mz u9) 2)))) (fr := fun _ _ => False) (by decide) (Nat.le_of_ble_eq_true rfl) ?_
  intro p e s m below meth c ls A hF hr hlk hin hsz hP hK hD hN hZ hA hS hl
  have hF : CallFix p m c cX9_isWord 9 s _ _ RX9 := hF
  have hx := hF.1
  have hb := hF.2.1
  have hml := hF.2.2.1
  have hown := hF.2.2.2.1
  have hu : ∀ w ∈ wsU, w.before _ s = true := fun w h => hF.2.2.2.2 w (List.mem_cons_of_mem _ h)
  have hl : lv_has ls 9 [(0, .ref h0), (1, .int 119), (2, .int 97), (3, .int 108), (4, .int 107), (5, .int 0), (6, .int 0), (7, .int 0)] := hl
  have htk := tk_le (b := bb) hu9
  refine lv_iload_n hx hb dX9_isWord_0 rfl (lv_at hl 3 rfl) ?_
  refine lv_if_ne (tgt := 8) hx hb dX9_isWord_1 (by decide) (fun c_1 => ?_) (fun c_1 => absurd c_1 (by decide))
  refine lv_iload hx hb dX9_isWord_8 (lv_at hl 4 rfl) ?_
  refine lv_if_ne (tgt := 17) hx hb dX9_isWord_10 (by decide) (fun c_2 => ?_) (fun c_2 => absurd c_2 (by decide))
  refine lv_iload hx hb dX9_isWord_17 (lv_at hl 5 rfl) ?_
  refine lv_if_ne (tgt := 26) hx hb dX9_isWord_19 (by decide) (fun c_3 => absurd (by decide) c_3) (fun c_3 => ?_)
  refine lv_iconst (v := 4) hx hb dX9_isWord_22 (by decide) ?_
  refine lv_goto (tgt := 47) hx hb dX9_isWord_23 (by decide) ?_
  refine lv_istore (lv' := [(8, .int 4), (0, .ref h0), (1, .int 119), (2, .int 97), (3, .int 108), (4, .int 107), (5, .int 0), (6, .int 0), (7, .int 0)]) hx hb dX9_isWord_47 hl (by decide) rfl (fun ls hl => ?_)
  refine lv_aload_n hx hb dX9_isWord_49 rfl (lv_at hl 1 rfl) ?_
  refine xg hF kf_X9_266 hK hP 0 rfl rfl dX9_isWord_50 ?_
  refine lv_if_ne (tgt := 142) hx hb dX9_isWord_53 (by decide) (fun c_4 => absurd (by decide) c_4) (fun c_4 => ?_)
  refine lv_aload_n hx hb dX9_isWord_56 rfl (lv_at hl 1 rfl) ?_
  refine xg hF kf_X9_251 hK hP 0 rfl rfl dX9_isWord_57 ?_
  refine lv_aload_n hx hb dX9_isWord_60 rfl (lv_at hl 1 rfl) ?_
  refine xg hF kf_X9_254 hK hP 0 rfl rfl dX9_isWord_61 ?_
  refine lv_isub hx hb dX9_isWord_64 ?_
  refine xl_i (y := nI (nx bb mz u9 - (nf bb mz u9))) (pk_sub (show nf bb mz u9 ≤ nx bb mz u9 by omega)) ?_
  refine lv_iload hx hb dX9_isWord_65 (lv_at hl 0 rfl) ?_
  refine lv_icmp_ne (tgt := 142) hx hb dX9_isWord_67 (by decide) (fun c_5 => ?_) (fun c_5 => ?_)
  · skip
    have nc_5 : nx bb mz u9 - (nf bb mz u9) ≠ 4 := xn_ne (a := (nx bb mz u9 - (nf bb mz u9))) (b := 4) (by omega) (by omega) c_5
    refine lv_iconst (v := 0) hx hb dX9_isWord_142 (by decide) ?_
    exact W.zret (v := 0) hx hb hr rfl (fun t ht hW => ⟨0, rfl, Or.inr ⟨rfl, nisl_2 (by omega)⟩, ht⟩) (fun q h => by cases h) dX9_isWord_143 hlk
  · skip
    have nc_5 : nx bb mz u9 - (nf bb mz u9) = 4 := xn_eq (a := (nx bb mz u9 - (nf bb mz u9))) (b := 4) (by omega) (by omega) c_5
    refine lv_aload_n hx hb dX9_isWord_70 rfl (lv_at hl 1 rfl) ?_
    refine lv_iconst (v := 0) hx hb dX9_isWord_71 (by decide) ?_
    refine lv_iload_n hx hb dX9_isWord_72 rfl (lv_at hl 2 rfl) ?_
    refine xc_Vr hF (c_X9_isAtP l D cI cJ cZ cS ta sa sv s.heap.size h0 ys yk yo yt mk0 yfa yfe mL mS mM yro yhe ygr mF mC mY yta mz mv ywa ybi ysi ynu ymo tp 0 119 u9 bb (by omega) hbb (by omega) (by omega) (by decide)) kv_X9_272 ⟨rfl, rfl, Nat.le_of_ble_eq_true rfl, Nat.le_of_ble_eq_true rfl⟩ ⟨Nat.le_of_ble_eq_true rfl, Nat.le_of_ble_eq_true rfl⟩ hK hN hZ hP hD hS hA [0, 1] rfl rfl 0 rfl rfl rfl rfl hl.1 rfl (Nat.le_of_ble_eq_true rfl) dX9_isWord_73 (fun r_6 hw_r_6 => ?_)
    rcases hw_r_6 with ⟨rfl, h_7⟩ | ⟨rfl, h_8⟩
    · skip
      refine lv_if_eq (tgt := 142) hx hb dX9_isWord_76 (by decide) (fun c_9 => absurd c_9 (by decide)) (fun c_9 => ?_)
      refine lv_aload_n hx hb dX9_isWord_79 rfl (lv_at hl 1 rfl) ?_
      refine lv_iconst (v := 1) hx hb dX9_isWord_80 (by decide) ?_
      refine lv_iload_n hx hb dX9_isWord_81 rfl (lv_at hl 3 rfl) ?_
      refine xc_Vr hF (c_X9_isAtP l D cI cJ cZ cS ta sa sv s.heap.size h0 ys yk yo yt mk0 yfa yfe mL mS mM yro yhe ygr mF mC mY yta mz mv ywa ybi ysi ynu ymo tp 1 97 u9 bb (by omega) hbb (by omega) (by omega) (by decide)) kv_X9_272 ⟨rfl, rfl, Nat.le_of_ble_eq_true rfl, Nat.le_of_ble_eq_true rfl⟩ ⟨Nat.le_of_ble_eq_true rfl, Nat.le_of_ble_eq_true rfl⟩ hK hN hZ hP hD hS hA [0, 1] rfl rfl 0 rfl rfl rfl rfl hl.1 rfl (Nat.le_of_ble_eq_true rfl) dX9_isWord_82 (fun r_10 hw_r_10 => ?_)
      rcases hw_r_10 with ⟨rfl, h_11⟩ | ⟨rfl, h_12⟩
      · skip
        refine lv_if_eq (tgt := 142) hx hb dX9_isWord_85 (by decide) (fun c_13 => absurd c_13 (by decide)) (fun c_13 => ?_)
        refine lv_aload_n hx hb dX9_isWord_88 rfl (lv_at hl 1 rfl) ?_
        refine lv_iconst (v := 2) hx hb dX9_isWord_89 (by decide) ?_
        refine lv_iload_n hx hb dX9_isWord_90 rfl (lv_at hl 4 rfl) ?_
        refine xc_Vr hF (c_X9_isAtP l D cI cJ cZ cS ta sa sv s.heap.size h0 ys yk yo yt mk0 yfa yfe mL mS mM yro yhe ygr mF mC mY yta mz mv ywa ybi ysi ynu ymo tp 2 108 u9 bb (by omega) hbb (by omega) (by omega) (by decide)) kv_X9_272 ⟨rfl, rfl, Nat.le_of_ble_eq_true rfl, Nat.le_of_ble_eq_true rfl⟩ ⟨Nat.le_of_ble_eq_true rfl, Nat.le_of_ble_eq_true rfl⟩ hK hN hZ hP hD hS hA [0, 1] rfl rfl 0 rfl rfl rfl rfl hl.1 rfl (Nat.le_of_ble_eq_true rfl) dX9_isWord_91 (fun r_14 hw_r_14 => ?_)
        rcases hw_r_14 with ⟨rfl, h_15⟩ | ⟨rfl, h_16⟩
        · skip
          refine lv_if_eq (tgt := 142) hx hb dX9_isWord_94 (by decide) (fun c_17 => absurd c_17 (by decide)) (fun c_17 => ?_)
          refine lv_aload_n hx hb dX9_isWord_97 rfl (lv_at hl 1 rfl) ?_
          refine lv_iconst (v := 3) hx hb dX9_isWord_98 (by decide) ?_
          refine lv_iload hx hb dX9_isWord_99 (lv_at hl 5 rfl) ?_
          refine xc_Vr hF (c_X9_isAtP l D cI cJ cZ cS ta sa sv s.heap.size h0 ys yk yo yt mk0 yfa yfe mL mS mM yro yhe ygr mF mC mY yta mz mv ywa ybi ysi ynu ymo tp 3 107 u9 bb (by omega) hbb (by omega) (by omega) (by decide)) kv_X9_272 ⟨rfl, rfl, Nat.le_of_ble_eq_true rfl, Nat.le_of_ble_eq_true rfl⟩ ⟨Nat.le_of_ble_eq_true rfl, Nat.le_of_ble_eq_true rfl⟩ hK hN hZ hP hD hS hA [0, 1] rfl rfl 0 rfl rfl rfl rfl hl.1 rfl (Nat.le_of_ble_eq_true rfl) dX9_isWord_101 (fun r_18 hw_r_18 => ?_)
          rcases hw_r_18 with ⟨rfl, h_19⟩ | ⟨rfl, h_20⟩
          · skip
            refine lv_if_eq (tgt := 142) hx hb dX9_isWord_104 (by decide) (fun c_21 => absurd c_21 (by decide)) (fun c_21 => ?_)
            refine lv_aload_n hx hb dX9_isWord_107 rfl (lv_at hl 1 rfl) ?_
            refine lv_iconst (v := 4) hx hb dX9_isWord_108 (by decide) ?_
            refine lv_iload hx hb dX9_isWord_109 (lv_at hl 6 rfl) ?_
            refine xc_Vr hF (c_X9_isAt0 l D cI cJ cZ cS ta sa sv s.heap.size h0 ys yk yo yt mk0 yfa yfe mL mS mM yro yhe ygr mF mC mY yta mz mv ywa ybi ysi ynu ymo tp 4 u9 bb (by omega) hbb (by omega)) kv_X9_272 ⟨rfl, rfl, Nat.le_of_ble_eq_true rfl, Nat.le_of_ble_eq_true rfl⟩ ⟨Nat.le_of_ble_eq_true rfl, Nat.le_of_ble_eq_true rfl⟩ hK hN hZ hP hD hS hA [0, 1] rfl rfl 0 rfl rfl rfl rfl hl.1 rfl (Nat.le_of_ble_eq_true rfl) dX9_isWord_111 (fun r_22 hw_r_22 => ?_)
            subst hw_r_22
            refine lv_if_eq (tgt := 142) hx hb dX9_isWord_114 (by decide) (fun c_23 => absurd c_23 (by decide)) (fun c_23 => ?_)
            refine lv_aload_n hx hb dX9_isWord_117 rfl (lv_at hl 1 rfl) ?_
            refine lv_iconst (v := 5) hx hb dX9_isWord_118 (by decide) ?_
            refine lv_iload hx hb dX9_isWord_119 (lv_at hl 7 rfl) ?_
            refine xc_Vr hF (c_X9_isAt0 l D cI cJ cZ cS ta sa sv s.heap.size h0 ys yk yo yt mk0 yfa yfe mL mS mM yro yhe ygr mF mC mY yta mz mv ywa ybi ysi ynu ymo tp 5 u9 bb (by omega) hbb (by omega)) kv_X9_272 ⟨rfl, rfl, Nat.le_of_ble_eq_true rfl, Nat.le_of_ble_eq_true rfl⟩ ⟨Nat.le_of_ble_eq_true rfl, Nat.le_of_ble_eq_true rfl⟩ hK hN hZ hP hD hS hA [0, 1] rfl rfl 0 rfl rfl rfl rfl hl.1 rfl (Nat.le_of_ble_eq_true rfl) dX9_isWord_121 (fun r_24 hw_r_24 => ?_)
            subst hw_r_24
            refine lv_if_eq (tgt := 142) hx hb dX9_isWord_124 (by decide) (fun c_25 => absurd c_25 (by decide)) (fun c_25 => ?_)
            refine lv_aload_n hx hb dX9_isWord_127 rfl (lv_at hl 1 rfl) ?_
            refine lv_bipush (v := 6) hx hb dX9_isWord_128 (by decide) ?_
            refine lv_iload hx hb dX9_isWord_130 (lv_at hl 8 rfl) ?_
            refine xc_Vr hF (c_X9_isAt0 l D cI cJ cZ cS ta sa sv s.heap.size h0 ys yk yo yt mk0 yfa yfe mL mS mM yro yhe ygr mF mC mY yta mz mv ywa ybi ysi ynu ymo tp 6 u9 bb (by omega) hbb (by omega)) kv_X9_272 ⟨rfl, rfl, Nat.le_of_ble_eq_true rfl, Nat.le_of_ble_eq_true rfl⟩ ⟨Nat.le_of_ble_eq_true rfl, Nat.le_of_ble_eq_true rfl⟩ hK hN hZ hP hD hS hA [0, 1] rfl rfl 0 rfl rfl rfl rfl hl.1 rfl (Nat.le_of_ble_eq_true rfl) dX9_isWord_132 (fun r_26 hw_r_26 => ?_)
            subst hw_r_26
            refine lv_if_eq (tgt := 142) hx hb dX9_isWord_135 (by decide) (fun c_27 => absurd c_27 (by decide)) (fun c_27 => ?_)
            refine lv_iconst (v := 1) hx hb dX9_isWord_138 (by decide) ?_
            refine lv_goto (tgt := 143) hx hb dX9_isWord_139 (by decide) ?_
            exact W.zret (v := 1) hx hb hr rfl (fun t ht hW => ⟨1, rfl, Or.inl ⟨rfl, isw_2 (by omega) h_7 h_11 h_15 h_19⟩, ht⟩) (fun q h => by cases h) dX9_isWord_143 hlk
          · skip
            refine lv_if_eq (tgt := 142) hx hb dX9_isWord_104 (by decide) (fun c_28 => ?_) (fun c_28 => absurd (by decide) c_28)
            refine lv_iconst (v := 0) hx hb dX9_isWord_142 (by decide) ?_
            exact W.zret (v := 0) hx hb hr rfl (fun t ht hW => ⟨0, rfl, Or.inr ⟨rfl, nisw_2_3 h_20⟩, ht⟩) (fun q h => by cases h) dX9_isWord_143 hlk
        · skip
          refine lv_if_eq (tgt := 142) hx hb dX9_isWord_94 (by decide) (fun c_29 => ?_) (fun c_29 => absurd (by decide) c_29)
          refine lv_iconst (v := 0) hx hb dX9_isWord_142 (by decide) ?_
          exact W.zret (v := 0) hx hb hr rfl (fun t ht hW => ⟨0, rfl, Or.inr ⟨rfl, nisw_2_2 h_16⟩, ht⟩) (fun q h => by cases h) dX9_isWord_143 hlk
      · skip
        refine lv_if_eq (tgt := 142) hx hb dX9_isWord_85 (by decide) (fun c_30 => ?_) (fun c_30 => absurd (by decide) c_30)
        refine lv_iconst (v := 0) hx hb dX9_isWord_142 (by decide) ?_
        exact W.zret (v := 0) hx hb hr rfl (fun t ht hW => ⟨0, rfl, Or.inr ⟨rfl, nisw_2_1 h_12⟩, ht⟩) (fun q h => by cases h) dX9_isWord_143 hlk
    · skip
      refine lv_if_eq (tgt := 142) hx hb dX9_isWord_76 (by decide) (fun c_31 => ?_) (fun c_31 => absurd (by decide) c_31)
      refine lv_iconst (v := 0) hx hb dX9_isWord_142 (by decide) ?_
      exact W.zret (v := 0) hx hb hr rfl (fun t ht hW => ⟨0, rfl, Or.inr ⟨rfl, nisw_2_0 h_8⟩, ht⟩) (fun q h => by cases h) dX9_isWord_143 hlk
set_option maxHeartbeats 4000000 in
set_option maxRecDepth 100000 in
theorem c_X9_isWord_3 (l : Launch) (D : va_G) (cI cJ cZ cS : ClassId) (ta : Nat) (sa sv : Nat → Nat) (sz : Nat) (h0 : Nat) (ys : Nat) (yk : Nat) (yo : Nat) (yt : Nat) (mk0 : Int32) (yfa : Nat) (yfe : Nat) (mL : Int32) (mS : Int32) (mM : Int32) (yro : Nat) (yhe : Nat) (ygr : Nat) (mF : Int32) (mC : Int32) (mY : Int32) (yta : Nat) (mz : Nat) (mv : Int32) (ywa : Nat) (ybi : Nat) (ysi : Nat) (ynu : Nat) (ymo : Nat) (tp : Nat → Int32) (u9 : Nat) (bb : Nat → Int32) (hz : mz ≤ 120) (hbb : bA tp mz = bb) (hu9 : u9 ≤ mz) : Met l yX9_isWord (Cond.code yX9_isWord cX9_isWord 9 (some .boolean) :: wsU) ({ frames := 2, cells := 0, slots := 0, locals := 43 }) (va_Pc [.ref h0, .int 101, .int 114, .int 114, .int 97, .int 110, .int 100, .int 115] (XW D (xT cI cJ cZ cS) ta sa sv [(h0, .inr (9, [.ref ys, .ref yk, .ref yo, .ref yt, .int mk0, .ref yfa, .ref yfe, .int mL, .int mS, .int mM, .ref yro, .ref yhe, .ref ygr, .int mF, .int mC, .int mY, .ref yta, .int (nI (mz)), .int (nI (nf bb mz u9)), .int (nI (nx bb mz u9)), .int mv, .int 0, .ref ywa, .ref ybi, .ref ysi, .ref ynu, .ref ymo])), (yta, .inl (cI, 120, .inl tp))] sz)) (vp_Si (fun r : Int32 => (r = 1 ∧ (isW bb (nf bb mz u9) (nx bb mz u9) 3)) ∨ (r = 0 ∧ (¬ isW bb (nf bb mz u9) (nx bb mz u9) 3)))) 0 0 (fun _ => False) := by
  refine xh (QA := fun _ => vp_Si (fun r : Int32 => (r = 1 ∧ (isW bb (nf bb mz u9) (nx bb mz u9) 3)) ∨ (r = 0 ∧ (¬ isW bb (nf bb mz u9) (nx bb mz u9) 3)))) (fr := fun _ _ => False) (by decide) (Nat.le_of_ble_eq_true rfl) ?_
  intro p e s m below meth c ls A hF hr hlk hin hsz hP hK hD hN hZ hA hS hl
  have hF : CallFix p m c cX9_isWord 9 s _ _ RX9 := hF
  have hx := hF.1
  have hb := hF.2.1
  have hml := hF.2.2.1
  have hown := hF.2.2.2.1
  have hu : ∀ w ∈ wsU, w.before _ s = true := fun w h => hF.2.2.2.2 w (List.mem_cons_of_mem _ h)
  have hl : lv_has ls 9 [(0, .ref h0), (1, .int 101), (2, .int 114), (3, .int 114), (4, .int 97), (5, .int 110), (6, .int 100), (7, .int 115)] := hl
  have htk := tk_le (b := bb) hu9
  refine lv_iload_n hx hb dX9_isWord_0 rfl (lv_at hl 3 rfl) ?_
  refine lv_if_ne (tgt := 8) hx hb dX9_isWord_1 (by decide) (fun c_1 => ?_) (fun c_1 => absurd c_1 (by decide))
  refine lv_iload hx hb dX9_isWord_8 (lv_at hl 4 rfl) ?_
  refine lv_if_ne (tgt := 17) hx hb dX9_isWord_10 (by decide) (fun c_2 => ?_) (fun c_2 => absurd c_2 (by decide))
  refine lv_iload hx hb dX9_isWord_17 (lv_at hl 5 rfl) ?_
  refine lv_if_ne (tgt := 26) hx hb dX9_isWord_19 (by decide) (fun c_3 => ?_) (fun c_3 => absurd c_3 (by decide))
  refine lv_iload hx hb dX9_isWord_26 (lv_at hl 6 rfl) ?_
  refine lv_if_ne (tgt := 35) hx hb dX9_isWord_28 (by decide) (fun c_4 => ?_) (fun c_4 => absurd c_4 (by decide))
  refine lv_iload hx hb dX9_isWord_35 (lv_at hl 7 rfl) ?_
  refine lv_if_ne (tgt := 45) hx hb dX9_isWord_37 (by decide) (fun c_5 => ?_) (fun c_5 => absurd c_5 (by decide))
  refine lv_bipush (v := 7) hx hb dX9_isWord_45 (by decide) ?_
  refine lv_istore (lv' := [(8, .int 7), (0, .ref h0), (1, .int 101), (2, .int 114), (3, .int 114), (4, .int 97), (5, .int 110), (6, .int 100), (7, .int 115)]) hx hb dX9_isWord_47 hl (by decide) rfl (fun ls hl => ?_)
  refine lv_aload_n hx hb dX9_isWord_49 rfl (lv_at hl 1 rfl) ?_
  refine xg hF kf_X9_266 hK hP 0 rfl rfl dX9_isWord_50 ?_
  refine lv_if_ne (tgt := 142) hx hb dX9_isWord_53 (by decide) (fun c_6 => absurd (by decide) c_6) (fun c_6 => ?_)
  refine lv_aload_n hx hb dX9_isWord_56 rfl (lv_at hl 1 rfl) ?_
  refine xg hF kf_X9_251 hK hP 0 rfl rfl dX9_isWord_57 ?_
  refine lv_aload_n hx hb dX9_isWord_60 rfl (lv_at hl 1 rfl) ?_
  refine xg hF kf_X9_254 hK hP 0 rfl rfl dX9_isWord_61 ?_
  refine lv_isub hx hb dX9_isWord_64 ?_
  refine xl_i (y := nI (nx bb mz u9 - (nf bb mz u9))) (pk_sub (show nf bb mz u9 ≤ nx bb mz u9 by omega)) ?_
  refine lv_iload hx hb dX9_isWord_65 (lv_at hl 0 rfl) ?_
  refine lv_icmp_ne (tgt := 142) hx hb dX9_isWord_67 (by decide) (fun c_7 => ?_) (fun c_7 => ?_)
  · skip
    have nc_7 : nx bb mz u9 - (nf bb mz u9) ≠ 7 := xn_ne (a := (nx bb mz u9 - (nf bb mz u9))) (b := 7) (by omega) (by omega) c_7
    refine lv_iconst (v := 0) hx hb dX9_isWord_142 (by decide) ?_
    exact W.zret (v := 0) hx hb hr rfl (fun t ht hW => ⟨0, rfl, Or.inr ⟨rfl, nisl_3 (by omega)⟩, ht⟩) (fun q h => by cases h) dX9_isWord_143 hlk
  · skip
    have nc_7 : nx bb mz u9 - (nf bb mz u9) = 7 := xn_eq (a := (nx bb mz u9 - (nf bb mz u9))) (b := 7) (by omega) (by omega) c_7
    refine lv_aload_n hx hb dX9_isWord_70 rfl (lv_at hl 1 rfl) ?_
    refine lv_iconst (v := 0) hx hb dX9_isWord_71 (by decide) ?_
    refine lv_iload_n hx hb dX9_isWord_72 rfl (lv_at hl 2 rfl) ?_
    refine xc_Vr hF (c_X9_isAtP l D cI cJ cZ cS ta sa sv s.heap.size h0 ys yk yo yt mk0 yfa yfe mL mS mM yro yhe ygr mF mC mY yta mz mv ywa ybi ysi ynu ymo tp 0 101 u9 bb (by omega) hbb (by omega) (by omega) (by decide)) kv_X9_272 ⟨rfl, rfl, Nat.le_of_ble_eq_true rfl, Nat.le_of_ble_eq_true rfl⟩ ⟨Nat.le_of_ble_eq_true rfl, Nat.le_of_ble_eq_true rfl⟩ hK hN hZ hP hD hS hA [0, 1] rfl rfl 0 rfl rfl rfl rfl hl.1 rfl (Nat.le_of_ble_eq_true rfl) dX9_isWord_73 (fun r_8 hw_r_8 => ?_)
    rcases hw_r_8 with ⟨rfl, h_9⟩ | ⟨rfl, h_10⟩
    · skip
      refine lv_if_eq (tgt := 142) hx hb dX9_isWord_76 (by decide) (fun c_11 => absurd c_11 (by decide)) (fun c_11 => ?_)
      refine lv_aload_n hx hb dX9_isWord_79 rfl (lv_at hl 1 rfl) ?_
      refine lv_iconst (v := 1) hx hb dX9_isWord_80 (by decide) ?_
      refine lv_iload_n hx hb dX9_isWord_81 rfl (lv_at hl 3 rfl) ?_
      refine xc_Vr hF (c_X9_isAtP l D cI cJ cZ cS ta sa sv s.heap.size h0 ys yk yo yt mk0 yfa yfe mL mS mM yro yhe ygr mF mC mY yta mz mv ywa ybi ysi ynu ymo tp 1 114 u9 bb (by omega) hbb (by omega) (by omega) (by decide)) kv_X9_272 ⟨rfl, rfl, Nat.le_of_ble_eq_true rfl, Nat.le_of_ble_eq_true rfl⟩ ⟨Nat.le_of_ble_eq_true rfl, Nat.le_of_ble_eq_true rfl⟩ hK hN hZ hP hD hS hA [0, 1] rfl rfl 0 rfl rfl rfl rfl hl.1 rfl (Nat.le_of_ble_eq_true rfl) dX9_isWord_82 (fun r_12 hw_r_12 => ?_)
      rcases hw_r_12 with ⟨rfl, h_13⟩ | ⟨rfl, h_14⟩
      · skip
        refine lv_if_eq (tgt := 142) hx hb dX9_isWord_85 (by decide) (fun c_15 => absurd c_15 (by decide)) (fun c_15 => ?_)
        refine lv_aload_n hx hb dX9_isWord_88 rfl (lv_at hl 1 rfl) ?_
        refine lv_iconst (v := 2) hx hb dX9_isWord_89 (by decide) ?_
        refine lv_iload_n hx hb dX9_isWord_90 rfl (lv_at hl 4 rfl) ?_
        refine xc_Vr hF (c_X9_isAtP l D cI cJ cZ cS ta sa sv s.heap.size h0 ys yk yo yt mk0 yfa yfe mL mS mM yro yhe ygr mF mC mY yta mz mv ywa ybi ysi ynu ymo tp 2 114 u9 bb (by omega) hbb (by omega) (by omega) (by decide)) kv_X9_272 ⟨rfl, rfl, Nat.le_of_ble_eq_true rfl, Nat.le_of_ble_eq_true rfl⟩ ⟨Nat.le_of_ble_eq_true rfl, Nat.le_of_ble_eq_true rfl⟩ hK hN hZ hP hD hS hA [0, 1] rfl rfl 0 rfl rfl rfl rfl hl.1 rfl (Nat.le_of_ble_eq_true rfl) dX9_isWord_91 (fun r_16 hw_r_16 => ?_)
        rcases hw_r_16 with ⟨rfl, h_17⟩ | ⟨rfl, h_18⟩
        · skip
          refine lv_if_eq (tgt := 142) hx hb dX9_isWord_94 (by decide) (fun c_19 => absurd c_19 (by decide)) (fun c_19 => ?_)
          refine lv_aload_n hx hb dX9_isWord_97 rfl (lv_at hl 1 rfl) ?_
          refine lv_iconst (v := 3) hx hb dX9_isWord_98 (by decide) ?_
          refine lv_iload hx hb dX9_isWord_99 (lv_at hl 5 rfl) ?_
          refine xc_Vr hF (c_X9_isAtP l D cI cJ cZ cS ta sa sv s.heap.size h0 ys yk yo yt mk0 yfa yfe mL mS mM yro yhe ygr mF mC mY yta mz mv ywa ybi ysi ynu ymo tp 3 97 u9 bb (by omega) hbb (by omega) (by omega) (by decide)) kv_X9_272 ⟨rfl, rfl, Nat.le_of_ble_eq_true rfl, Nat.le_of_ble_eq_true rfl⟩ ⟨Nat.le_of_ble_eq_true rfl, Nat.le_of_ble_eq_true rfl⟩ hK hN hZ hP hD hS hA [0, 1] rfl rfl 0 rfl rfl rfl rfl hl.1 rfl (Nat.le_of_ble_eq_true rfl) dX9_isWord_101 (fun r_20 hw_r_20 => ?_)
          rcases hw_r_20 with ⟨rfl, h_21⟩ | ⟨rfl, h_22⟩
          · skip
            refine lv_if_eq (tgt := 142) hx hb dX9_isWord_104 (by decide) (fun c_23 => absurd c_23 (by decide)) (fun c_23 => ?_)
            refine lv_aload_n hx hb dX9_isWord_107 rfl (lv_at hl 1 rfl) ?_
            refine lv_iconst (v := 4) hx hb dX9_isWord_108 (by decide) ?_
            refine lv_iload hx hb dX9_isWord_109 (lv_at hl 6 rfl) ?_
            refine xc_Vr hF (c_X9_isAtP l D cI cJ cZ cS ta sa sv s.heap.size h0 ys yk yo yt mk0 yfa yfe mL mS mM yro yhe ygr mF mC mY yta mz mv ywa ybi ysi ynu ymo tp 4 110 u9 bb (by omega) hbb (by omega) (by omega) (by decide)) kv_X9_272 ⟨rfl, rfl, Nat.le_of_ble_eq_true rfl, Nat.le_of_ble_eq_true rfl⟩ ⟨Nat.le_of_ble_eq_true rfl, Nat.le_of_ble_eq_true rfl⟩ hK hN hZ hP hD hS hA [0, 1] rfl rfl 0 rfl rfl rfl rfl hl.1 rfl (Nat.le_of_ble_eq_true rfl) dX9_isWord_111 (fun r_24 hw_r_24 => ?_)
            rcases hw_r_24 with ⟨rfl, h_25⟩ | ⟨rfl, h_26⟩
            · skip
              refine lv_if_eq (tgt := 142) hx hb dX9_isWord_114 (by decide) (fun c_27 => absurd c_27 (by decide)) (fun c_27 => ?_)
              refine lv_aload_n hx hb dX9_isWord_117 rfl (lv_at hl 1 rfl) ?_
              refine lv_iconst (v := 5) hx hb dX9_isWord_118 (by decide) ?_
              refine lv_iload hx hb dX9_isWord_119 (lv_at hl 7 rfl) ?_
              refine xc_Vr hF (c_X9_isAtP l D cI cJ cZ cS ta sa sv s.heap.size h0 ys yk yo yt mk0 yfa yfe mL mS mM yro yhe ygr mF mC mY yta mz mv ywa ybi ysi ynu ymo tp 5 100 u9 bb (by omega) hbb (by omega) (by omega) (by decide)) kv_X9_272 ⟨rfl, rfl, Nat.le_of_ble_eq_true rfl, Nat.le_of_ble_eq_true rfl⟩ ⟨Nat.le_of_ble_eq_true rfl, Nat.le_of_ble_eq_true rfl⟩ hK hN hZ hP hD hS hA [0, 1] rfl rfl 0 rfl rfl rfl rfl hl.1 rfl (Nat.le_of_ble_eq_true rfl) dX9_isWord_121 (fun r_28 hw_r_28 => ?_)
              rcases hw_r_28 with ⟨rfl, h_29⟩ | ⟨rfl, h_30⟩
              · skip
                refine lv_if_eq (tgt := 142) hx hb dX9_isWord_124 (by decide) (fun c_31 => absurd c_31 (by decide)) (fun c_31 => ?_)
                refine lv_aload_n hx hb dX9_isWord_127 rfl (lv_at hl 1 rfl) ?_
                refine lv_bipush (v := 6) hx hb dX9_isWord_128 (by decide) ?_
                refine lv_iload hx hb dX9_isWord_130 (lv_at hl 8 rfl) ?_
                refine xc_Vr hF (c_X9_isAtP l D cI cJ cZ cS ta sa sv s.heap.size h0 ys yk yo yt mk0 yfa yfe mL mS mM yro yhe ygr mF mC mY yta mz mv ywa ybi ysi ynu ymo tp 6 115 u9 bb (by omega) hbb (by omega) (by omega) (by decide)) kv_X9_272 ⟨rfl, rfl, Nat.le_of_ble_eq_true rfl, Nat.le_of_ble_eq_true rfl⟩ ⟨Nat.le_of_ble_eq_true rfl, Nat.le_of_ble_eq_true rfl⟩ hK hN hZ hP hD hS hA [0, 1] rfl rfl 0 rfl rfl rfl rfl hl.1 rfl (Nat.le_of_ble_eq_true rfl) dX9_isWord_132 (fun r_32 hw_r_32 => ?_)
                rcases hw_r_32 with ⟨rfl, h_33⟩ | ⟨rfl, h_34⟩
                · skip
                  refine lv_if_eq (tgt := 142) hx hb dX9_isWord_135 (by decide) (fun c_35 => absurd c_35 (by decide)) (fun c_35 => ?_)
                  refine lv_iconst (v := 1) hx hb dX9_isWord_138 (by decide) ?_
                  refine lv_goto (tgt := 143) hx hb dX9_isWord_139 (by decide) ?_
                  exact W.zret (v := 1) hx hb hr rfl (fun t ht hW => ⟨1, rfl, Or.inl ⟨rfl, isw_3 (by omega) h_9 h_13 h_17 h_21 h_25 h_29 h_33⟩, ht⟩) (fun q h => by cases h) dX9_isWord_143 hlk
                · skip
                  refine lv_if_eq (tgt := 142) hx hb dX9_isWord_135 (by decide) (fun c_36 => ?_) (fun c_36 => absurd (by decide) c_36)
                  refine lv_iconst (v := 0) hx hb dX9_isWord_142 (by decide) ?_
                  exact W.zret (v := 0) hx hb hr rfl (fun t ht hW => ⟨0, rfl, Or.inr ⟨rfl, nisw_3_6 h_34⟩, ht⟩) (fun q h => by cases h) dX9_isWord_143 hlk
              · skip
                refine lv_if_eq (tgt := 142) hx hb dX9_isWord_124 (by decide) (fun c_37 => ?_) (fun c_37 => absurd (by decide) c_37)
                refine lv_iconst (v := 0) hx hb dX9_isWord_142 (by decide) ?_
                exact W.zret (v := 0) hx hb hr rfl (fun t ht hW => ⟨0, rfl, Or.inr ⟨rfl, nisw_3_5 h_30⟩, ht⟩) (fun q h => by cases h) dX9_isWord_143 hlk
            · skip
              refine lv_if_eq (tgt := 142) hx hb dX9_isWord_114 (by decide) (fun c_38 => ?_) (fun c_38 => absurd (by decide) c_38)
              refine lv_iconst (v := 0) hx hb dX9_isWord_142 (by decide) ?_
              exact W.zret (v := 0) hx hb hr rfl (fun t ht hW => ⟨0, rfl, Or.inr ⟨rfl, nisw_3_4 h_26⟩, ht⟩) (fun q h => by cases h) dX9_isWord_143 hlk
          · skip
            refine lv_if_eq (tgt := 142) hx hb dX9_isWord_104 (by decide) (fun c_39 => ?_) (fun c_39 => absurd (by decide) c_39)
            refine lv_iconst (v := 0) hx hb dX9_isWord_142 (by decide) ?_
            exact W.zret (v := 0) hx hb hr rfl (fun t ht hW => ⟨0, rfl, Or.inr ⟨rfl, nisw_3_3 h_22⟩, ht⟩) (fun q h => by cases h) dX9_isWord_143 hlk
        · skip
          refine lv_if_eq (tgt := 142) hx hb dX9_isWord_94 (by decide) (fun c_40 => ?_) (fun c_40 => absurd (by decide) c_40)
          refine lv_iconst (v := 0) hx hb dX9_isWord_142 (by decide) ?_
          exact W.zret (v := 0) hx hb hr rfl (fun t ht hW => ⟨0, rfl, Or.inr ⟨rfl, nisw_3_2 h_18⟩, ht⟩) (fun q h => by cases h) dX9_isWord_143 hlk
      · skip
        refine lv_if_eq (tgt := 142) hx hb dX9_isWord_85 (by decide) (fun c_41 => ?_) (fun c_41 => absurd (by decide) c_41)
        refine lv_iconst (v := 0) hx hb dX9_isWord_142 (by decide) ?_
        exact W.zret (v := 0) hx hb hr rfl (fun t ht hW => ⟨0, rfl, Or.inr ⟨rfl, nisw_3_1 h_14⟩, ht⟩) (fun q h => by cases h) dX9_isWord_143 hlk
    · skip
      refine lv_if_eq (tgt := 142) hx hb dX9_isWord_76 (by decide) (fun c_42 => ?_) (fun c_42 => absurd (by decide) c_42)
      refine lv_iconst (v := 0) hx hb dX9_isWord_142 (by decide) ?_
      exact W.zret (v := 0) hx hb hr rfl (fun t ht hW => ⟨0, rfl, Or.inr ⟨rfl, nisw_3_0 h_10⟩, ht⟩) (fun q h => by cases h) dX9_isWord_143 hlk
set_option maxHeartbeats 4000000 in
set_option maxRecDepth 100000 in
theorem c_X9_isWord_4 (l : Launch) (D : va_G) (cI cJ cZ cS : ClassId) (ta : Nat) (sa sv : Nat → Nat) (sz : Nat) (h0 : Nat) (ys : Nat) (yk : Nat) (yo : Nat) (yt : Nat) (mk0 : Int32) (yfa : Nat) (yfe : Nat) (mL : Int32) (mS : Int32) (mM : Int32) (yro : Nat) (yhe : Nat) (ygr : Nat) (mF : Int32) (mC : Int32) (mY : Int32) (yta : Nat) (mz : Nat) (mv : Int32) (ywa : Nat) (ybi : Nat) (ysi : Nat) (ynu : Nat) (ymo : Nat) (tp : Nat → Int32) (u9 : Nat) (bb : Nat → Int32) (hz : mz ≤ 120) (hbb : bA tp mz = bb) (hu9 : u9 ≤ mz) : Met l yX9_isWord (Cond.code yX9_isWord cX9_isWord 9 (some .boolean) :: wsU) ({ frames := 2, cells := 0, slots := 0, locals := 43 }) (va_Pc [.ref h0, .int 116, .int 111, .int 0, .int 0, .int 0, .int 0, .int 0] (XW D (xT cI cJ cZ cS) ta sa sv [(h0, .inr (9, [.ref ys, .ref yk, .ref yo, .ref yt, .int mk0, .ref yfa, .ref yfe, .int mL, .int mS, .int mM, .ref yro, .ref yhe, .ref ygr, .int mF, .int mC, .int mY, .ref yta, .int (nI (mz)), .int (nI (nf bb mz u9)), .int (nI (nx bb mz u9)), .int mv, .int 0, .ref ywa, .ref ybi, .ref ysi, .ref ynu, .ref ymo])), (yta, .inl (cI, 120, .inl tp))] sz)) (vp_Si (fun r : Int32 => (r = 1 ∧ (isW bb (nf bb mz u9) (nx bb mz u9) 4)) ∨ (r = 0 ∧ (¬ isW bb (nf bb mz u9) (nx bb mz u9) 4)))) 0 0 (fun _ => False) := by
  refine xh (QA := fun _ => vp_Si (fun r : Int32 => (r = 1 ∧ (isW bb (nf bb mz u9) (nx bb mz u9) 4)) ∨ (r = 0 ∧ (¬ isW bb (nf bb mz u9) (nx bb mz u9) 4)))) (fr := fun _ _ => False) (by decide) (Nat.le_of_ble_eq_true rfl) ?_
  intro p e s m below meth c ls A hF hr hlk hin hsz hP hK hD hN hZ hA hS hl
  have hF : CallFix p m c cX9_isWord 9 s _ _ RX9 := hF
  have hx := hF.1
  have hb := hF.2.1
  have hml := hF.2.2.1
  have hown := hF.2.2.2.1
  have hu : ∀ w ∈ wsU, w.before _ s = true := fun w h => hF.2.2.2.2 w (List.mem_cons_of_mem _ h)
  have hl : lv_has ls 9 [(0, .ref h0), (1, .int 116), (2, .int 111), (3, .int 0), (4, .int 0), (5, .int 0), (6, .int 0), (7, .int 0)] := hl
  have htk := tk_le (b := bb) hu9
  refine lv_iload_n hx hb dX9_isWord_0 rfl (lv_at hl 3 rfl) ?_
  refine lv_if_ne (tgt := 8) hx hb dX9_isWord_1 (by decide) (fun c_1 => absurd (by decide) c_1) (fun c_1 => ?_)
  refine lv_iconst (v := 2) hx hb dX9_isWord_4 (by decide) ?_
  refine lv_goto (tgt := 47) hx hb dX9_isWord_5 (by decide) ?_
  refine lv_istore (lv' := [(8, .int 2), (0, .ref h0), (1, .int 116), (2, .int 111), (3, .int 0), (4, .int 0), (5, .int 0), (6, .int 0), (7, .int 0)]) hx hb dX9_isWord_47 hl (by decide) rfl (fun ls hl => ?_)
  refine lv_aload_n hx hb dX9_isWord_49 rfl (lv_at hl 1 rfl) ?_
  refine xg hF kf_X9_266 hK hP 0 rfl rfl dX9_isWord_50 ?_
  refine lv_if_ne (tgt := 142) hx hb dX9_isWord_53 (by decide) (fun c_2 => absurd (by decide) c_2) (fun c_2 => ?_)
  refine lv_aload_n hx hb dX9_isWord_56 rfl (lv_at hl 1 rfl) ?_
  refine xg hF kf_X9_251 hK hP 0 rfl rfl dX9_isWord_57 ?_
  refine lv_aload_n hx hb dX9_isWord_60 rfl (lv_at hl 1 rfl) ?_
  refine xg hF kf_X9_254 hK hP 0 rfl rfl dX9_isWord_61 ?_
  refine lv_isub hx hb dX9_isWord_64 ?_
  refine xl_i (y := nI (nx bb mz u9 - (nf bb mz u9))) (pk_sub (show nf bb mz u9 ≤ nx bb mz u9 by omega)) ?_
  refine lv_iload hx hb dX9_isWord_65 (lv_at hl 0 rfl) ?_
  refine lv_icmp_ne (tgt := 142) hx hb dX9_isWord_67 (by decide) (fun c_3 => ?_) (fun c_3 => ?_)
  · skip
    have nc_3 : nx bb mz u9 - (nf bb mz u9) ≠ 2 := xn_ne (a := (nx bb mz u9 - (nf bb mz u9))) (b := 2) (by omega) (by omega) c_3
    refine lv_iconst (v := 0) hx hb dX9_isWord_142 (by decide) ?_
    exact W.zret (v := 0) hx hb hr rfl (fun t ht hW => ⟨0, rfl, Or.inr ⟨rfl, nisl_4 (by omega)⟩, ht⟩) (fun q h => by cases h) dX9_isWord_143 hlk
  · skip
    have nc_3 : nx bb mz u9 - (nf bb mz u9) = 2 := xn_eq (a := (nx bb mz u9 - (nf bb mz u9))) (b := 2) (by omega) (by omega) c_3
    refine lv_aload_n hx hb dX9_isWord_70 rfl (lv_at hl 1 rfl) ?_
    refine lv_iconst (v := 0) hx hb dX9_isWord_71 (by decide) ?_
    refine lv_iload_n hx hb dX9_isWord_72 rfl (lv_at hl 2 rfl) ?_
    refine xc_Vr hF (c_X9_isAtP l D cI cJ cZ cS ta sa sv s.heap.size h0 ys yk yo yt mk0 yfa yfe mL mS mM yro yhe ygr mF mC mY yta mz mv ywa ybi ysi ynu ymo tp 0 116 u9 bb (by omega) hbb (by omega) (by omega) (by decide)) kv_X9_272 ⟨rfl, rfl, Nat.le_of_ble_eq_true rfl, Nat.le_of_ble_eq_true rfl⟩ ⟨Nat.le_of_ble_eq_true rfl, Nat.le_of_ble_eq_true rfl⟩ hK hN hZ hP hD hS hA [0, 1] rfl rfl 0 rfl rfl rfl rfl hl.1 rfl (Nat.le_of_ble_eq_true rfl) dX9_isWord_73 (fun r_4 hw_r_4 => ?_)
    rcases hw_r_4 with ⟨rfl, h_5⟩ | ⟨rfl, h_6⟩
    · skip
      refine lv_if_eq (tgt := 142) hx hb dX9_isWord_76 (by decide) (fun c_7 => absurd c_7 (by decide)) (fun c_7 => ?_)
      refine lv_aload_n hx hb dX9_isWord_79 rfl (lv_at hl 1 rfl) ?_
      refine lv_iconst (v := 1) hx hb dX9_isWord_80 (by decide) ?_
      refine lv_iload_n hx hb dX9_isWord_81 rfl (lv_at hl 3 rfl) ?_
      refine xc_Vr hF (c_X9_isAtP l D cI cJ cZ cS ta sa sv s.heap.size h0 ys yk yo yt mk0 yfa yfe mL mS mM yro yhe ygr mF mC mY yta mz mv ywa ybi ysi ynu ymo tp 1 111 u9 bb (by omega) hbb (by omega) (by omega) (by decide)) kv_X9_272 ⟨rfl, rfl, Nat.le_of_ble_eq_true rfl, Nat.le_of_ble_eq_true rfl⟩ ⟨Nat.le_of_ble_eq_true rfl, Nat.le_of_ble_eq_true rfl⟩ hK hN hZ hP hD hS hA [0, 1] rfl rfl 0 rfl rfl rfl rfl hl.1 rfl (Nat.le_of_ble_eq_true rfl) dX9_isWord_82 (fun r_8 hw_r_8 => ?_)
      rcases hw_r_8 with ⟨rfl, h_9⟩ | ⟨rfl, h_10⟩
      · skip
        refine lv_if_eq (tgt := 142) hx hb dX9_isWord_85 (by decide) (fun c_11 => absurd c_11 (by decide)) (fun c_11 => ?_)
        refine lv_aload_n hx hb dX9_isWord_88 rfl (lv_at hl 1 rfl) ?_
        refine lv_iconst (v := 2) hx hb dX9_isWord_89 (by decide) ?_
        refine lv_iload_n hx hb dX9_isWord_90 rfl (lv_at hl 4 rfl) ?_
        refine xc_Vr hF (c_X9_isAt0 l D cI cJ cZ cS ta sa sv s.heap.size h0 ys yk yo yt mk0 yfa yfe mL mS mM yro yhe ygr mF mC mY yta mz mv ywa ybi ysi ynu ymo tp 2 u9 bb (by omega) hbb (by omega)) kv_X9_272 ⟨rfl, rfl, Nat.le_of_ble_eq_true rfl, Nat.le_of_ble_eq_true rfl⟩ ⟨Nat.le_of_ble_eq_true rfl, Nat.le_of_ble_eq_true rfl⟩ hK hN hZ hP hD hS hA [0, 1] rfl rfl 0 rfl rfl rfl rfl hl.1 rfl (Nat.le_of_ble_eq_true rfl) dX9_isWord_91 (fun r_12 hw_r_12 => ?_)
        subst hw_r_12
        refine lv_if_eq (tgt := 142) hx hb dX9_isWord_94 (by decide) (fun c_13 => absurd c_13 (by decide)) (fun c_13 => ?_)
        refine lv_aload_n hx hb dX9_isWord_97 rfl (lv_at hl 1 rfl) ?_
        refine lv_iconst (v := 3) hx hb dX9_isWord_98 (by decide) ?_
        refine lv_iload hx hb dX9_isWord_99 (lv_at hl 5 rfl) ?_
        refine xc_Vr hF (c_X9_isAt0 l D cI cJ cZ cS ta sa sv s.heap.size h0 ys yk yo yt mk0 yfa yfe mL mS mM yro yhe ygr mF mC mY yta mz mv ywa ybi ysi ynu ymo tp 3 u9 bb (by omega) hbb (by omega)) kv_X9_272 ⟨rfl, rfl, Nat.le_of_ble_eq_true rfl, Nat.le_of_ble_eq_true rfl⟩ ⟨Nat.le_of_ble_eq_true rfl, Nat.le_of_ble_eq_true rfl⟩ hK hN hZ hP hD hS hA [0, 1] rfl rfl 0 rfl rfl rfl rfl hl.1 rfl (Nat.le_of_ble_eq_true rfl) dX9_isWord_101 (fun r_14 hw_r_14 => ?_)
        subst hw_r_14
        refine lv_if_eq (tgt := 142) hx hb dX9_isWord_104 (by decide) (fun c_15 => absurd c_15 (by decide)) (fun c_15 => ?_)
        refine lv_aload_n hx hb dX9_isWord_107 rfl (lv_at hl 1 rfl) ?_
        refine lv_iconst (v := 4) hx hb dX9_isWord_108 (by decide) ?_
        refine lv_iload hx hb dX9_isWord_109 (lv_at hl 6 rfl) ?_
        refine xc_Vr hF (c_X9_isAt0 l D cI cJ cZ cS ta sa sv s.heap.size h0 ys yk yo yt mk0 yfa yfe mL mS mM yro yhe ygr mF mC mY yta mz mv ywa ybi ysi ynu ymo tp 4 u9 bb (by omega) hbb (by omega)) kv_X9_272 ⟨rfl, rfl, Nat.le_of_ble_eq_true rfl, Nat.le_of_ble_eq_true rfl⟩ ⟨Nat.le_of_ble_eq_true rfl, Nat.le_of_ble_eq_true rfl⟩ hK hN hZ hP hD hS hA [0, 1] rfl rfl 0 rfl rfl rfl rfl hl.1 rfl (Nat.le_of_ble_eq_true rfl) dX9_isWord_111 (fun r_16 hw_r_16 => ?_)
        subst hw_r_16
        refine lv_if_eq (tgt := 142) hx hb dX9_isWord_114 (by decide) (fun c_17 => absurd c_17 (by decide)) (fun c_17 => ?_)
        refine lv_aload_n hx hb dX9_isWord_117 rfl (lv_at hl 1 rfl) ?_
        refine lv_iconst (v := 5) hx hb dX9_isWord_118 (by decide) ?_
        refine lv_iload hx hb dX9_isWord_119 (lv_at hl 7 rfl) ?_
        refine xc_Vr hF (c_X9_isAt0 l D cI cJ cZ cS ta sa sv s.heap.size h0 ys yk yo yt mk0 yfa yfe mL mS mM yro yhe ygr mF mC mY yta mz mv ywa ybi ysi ynu ymo tp 5 u9 bb (by omega) hbb (by omega)) kv_X9_272 ⟨rfl, rfl, Nat.le_of_ble_eq_true rfl, Nat.le_of_ble_eq_true rfl⟩ ⟨Nat.le_of_ble_eq_true rfl, Nat.le_of_ble_eq_true rfl⟩ hK hN hZ hP hD hS hA [0, 1] rfl rfl 0 rfl rfl rfl rfl hl.1 rfl (Nat.le_of_ble_eq_true rfl) dX9_isWord_121 (fun r_18 hw_r_18 => ?_)
        subst hw_r_18
        refine lv_if_eq (tgt := 142) hx hb dX9_isWord_124 (by decide) (fun c_19 => absurd c_19 (by decide)) (fun c_19 => ?_)
        refine lv_aload_n hx hb dX9_isWord_127 rfl (lv_at hl 1 rfl) ?_
        refine lv_bipush (v := 6) hx hb dX9_isWord_128 (by decide) ?_
        refine lv_iload hx hb dX9_isWord_130 (lv_at hl 8 rfl) ?_
        refine xc_Vr hF (c_X9_isAt0 l D cI cJ cZ cS ta sa sv s.heap.size h0 ys yk yo yt mk0 yfa yfe mL mS mM yro yhe ygr mF mC mY yta mz mv ywa ybi ysi ynu ymo tp 6 u9 bb (by omega) hbb (by omega)) kv_X9_272 ⟨rfl, rfl, Nat.le_of_ble_eq_true rfl, Nat.le_of_ble_eq_true rfl⟩ ⟨Nat.le_of_ble_eq_true rfl, Nat.le_of_ble_eq_true rfl⟩ hK hN hZ hP hD hS hA [0, 1] rfl rfl 0 rfl rfl rfl rfl hl.1 rfl (Nat.le_of_ble_eq_true rfl) dX9_isWord_132 (fun r_20 hw_r_20 => ?_)
        subst hw_r_20
        refine lv_if_eq (tgt := 142) hx hb dX9_isWord_135 (by decide) (fun c_21 => absurd c_21 (by decide)) (fun c_21 => ?_)
        refine lv_iconst (v := 1) hx hb dX9_isWord_138 (by decide) ?_
        refine lv_goto (tgt := 143) hx hb dX9_isWord_139 (by decide) ?_
        exact W.zret (v := 1) hx hb hr rfl (fun t ht hW => ⟨1, rfl, Or.inl ⟨rfl, isw_4 (by omega) h_5 h_9⟩, ht⟩) (fun q h => by cases h) dX9_isWord_143 hlk
      · skip
        refine lv_if_eq (tgt := 142) hx hb dX9_isWord_85 (by decide) (fun c_22 => ?_) (fun c_22 => absurd (by decide) c_22)
        refine lv_iconst (v := 0) hx hb dX9_isWord_142 (by decide) ?_
        exact W.zret (v := 0) hx hb hr rfl (fun t ht hW => ⟨0, rfl, Or.inr ⟨rfl, nisw_4_1 h_10⟩, ht⟩) (fun q h => by cases h) dX9_isWord_143 hlk
    · skip
      refine lv_if_eq (tgt := 142) hx hb dX9_isWord_76 (by decide) (fun c_23 => ?_) (fun c_23 => absurd (by decide) c_23)
      refine lv_iconst (v := 0) hx hb dX9_isWord_142 (by decide) ?_
      exact W.zret (v := 0) hx hb hr rfl (fun t ht hW => ⟨0, rfl, Or.inr ⟨rfl, nisw_4_0 h_6⟩, ht⟩) (fun q h => by cases h) dX9_isWord_143 hlk
set_option maxHeartbeats 4000000 in
set_option maxRecDepth 100000 in
theorem c_X9_isWord_5 (l : Launch) (D : va_G) (cI cJ cZ cS : ClassId) (ta : Nat) (sa sv : Nat → Nat) (sz : Nat) (h0 : Nat) (ys : Nat) (yk : Nat) (yo : Nat) (yt : Nat) (mk0 : Int32) (yfa : Nat) (yfe : Nat) (mL : Int32) (mS : Int32) (mM : Int32) (yro : Nat) (yhe : Nat) (ygr : Nat) (mF : Int32) (mC : Int32) (mY : Int32) (yta : Nat) (mz : Nat) (mv : Int32) (ywa : Nat) (ybi : Nat) (ysi : Nat) (ynu : Nat) (ymo : Nat) (tp : Nat → Int32) (u9 : Nat) (bb : Nat → Int32) (hz : mz ≤ 120) (hbb : bA tp mz = bb) (hu9 : u9 ≤ mz) : Met l yX9_isWord (Cond.code yX9_isWord cX9_isWord 9 (some .boolean) :: wsU) ({ frames := 2, cells := 0, slots := 0, locals := 43 }) (va_Pc [.ref h0, .int 98, .int 97, .int 99, .int 107, .int 0, .int 0, .int 0] (XW D (xT cI cJ cZ cS) ta sa sv [(h0, .inr (9, [.ref ys, .ref yk, .ref yo, .ref yt, .int mk0, .ref yfa, .ref yfe, .int mL, .int mS, .int mM, .ref yro, .ref yhe, .ref ygr, .int mF, .int mC, .int mY, .ref yta, .int (nI (mz)), .int (nI (nf bb mz u9)), .int (nI (nx bb mz u9)), .int mv, .int 0, .ref ywa, .ref ybi, .ref ysi, .ref ynu, .ref ymo])), (yta, .inl (cI, 120, .inl tp))] sz)) (vp_Si (fun r : Int32 => (r = 1 ∧ (isW bb (nf bb mz u9) (nx bb mz u9) 5)) ∨ (r = 0 ∧ (¬ isW bb (nf bb mz u9) (nx bb mz u9) 5)))) 0 0 (fun _ => False) := by
  refine xh (QA := fun _ => vp_Si (fun r : Int32 => (r = 1 ∧ (isW bb (nf bb mz u9) (nx bb mz u9) 5)) ∨ (r = 0 ∧ (¬ isW bb (nf bb mz u9) (nx bb mz u9) 5)))) (fr := fun _ _ => False) (by decide) (Nat.le_of_ble_eq_true rfl) ?_
  intro p e s m below meth c ls A hF hr hlk hin hsz hP hK hD hN hZ hA hS hl
  have hF : CallFix p m c cX9_isWord 9 s _ _ RX9 := hF
  have hx := hF.1
  have hb := hF.2.1
  have hml := hF.2.2.1
  have hown := hF.2.2.2.1
  have hu : ∀ w ∈ wsU, w.before _ s = true := fun w h => hF.2.2.2.2 w (List.mem_cons_of_mem _ h)
  have hl : lv_has ls 9 [(0, .ref h0), (1, .int 98), (2, .int 97), (3, .int 99), (4, .int 107), (5, .int 0), (6, .int 0), (7, .int 0)] := hl
  have htk := tk_le (b := bb) hu9
  refine lv_iload_n hx hb dX9_isWord_0 rfl (lv_at hl 3 rfl) ?_
  refine lv_if_ne (tgt := 8) hx hb dX9_isWord_1 (by decide) (fun c_1 => ?_) (fun c_1 => absurd c_1 (by decide))
  refine lv_iload hx hb dX9_isWord_8 (lv_at hl 4 rfl) ?_
  refine lv_if_ne (tgt := 17) hx hb dX9_isWord_10 (by decide) (fun c_2 => ?_) (fun c_2 => absurd c_2 (by decide))
  refine lv_iload hx hb dX9_isWord_17 (lv_at hl 5 rfl) ?_
  refine lv_if_ne (tgt := 26) hx hb dX9_isWord_19 (by decide) (fun c_3 => absurd (by decide) c_3) (fun c_3 => ?_)
  refine lv_iconst (v := 4) hx hb dX9_isWord_22 (by decide) ?_
  refine lv_goto (tgt := 47) hx hb dX9_isWord_23 (by decide) ?_
  refine lv_istore (lv' := [(8, .int 4), (0, .ref h0), (1, .int 98), (2, .int 97), (3, .int 99), (4, .int 107), (5, .int 0), (6, .int 0), (7, .int 0)]) hx hb dX9_isWord_47 hl (by decide) rfl (fun ls hl => ?_)
  refine lv_aload_n hx hb dX9_isWord_49 rfl (lv_at hl 1 rfl) ?_
  refine xg hF kf_X9_266 hK hP 0 rfl rfl dX9_isWord_50 ?_
  refine lv_if_ne (tgt := 142) hx hb dX9_isWord_53 (by decide) (fun c_4 => absurd (by decide) c_4) (fun c_4 => ?_)
  refine lv_aload_n hx hb dX9_isWord_56 rfl (lv_at hl 1 rfl) ?_
  refine xg hF kf_X9_251 hK hP 0 rfl rfl dX9_isWord_57 ?_
  refine lv_aload_n hx hb dX9_isWord_60 rfl (lv_at hl 1 rfl) ?_
  refine xg hF kf_X9_254 hK hP 0 rfl rfl dX9_isWord_61 ?_
  refine lv_isub hx hb dX9_isWord_64 ?_
  refine xl_i (y := nI (nx bb mz u9 - (nf bb mz u9))) (pk_sub (show nf bb mz u9 ≤ nx bb mz u9 by omega)) ?_
  refine lv_iload hx hb dX9_isWord_65 (lv_at hl 0 rfl) ?_
  refine lv_icmp_ne (tgt := 142) hx hb dX9_isWord_67 (by decide) (fun c_5 => ?_) (fun c_5 => ?_)
  · skip
    have nc_5 : nx bb mz u9 - (nf bb mz u9) ≠ 4 := xn_ne (a := (nx bb mz u9 - (nf bb mz u9))) (b := 4) (by omega) (by omega) c_5
    refine lv_iconst (v := 0) hx hb dX9_isWord_142 (by decide) ?_
    exact W.zret (v := 0) hx hb hr rfl (fun t ht hW => ⟨0, rfl, Or.inr ⟨rfl, nisl_5 (by omega)⟩, ht⟩) (fun q h => by cases h) dX9_isWord_143 hlk
  · skip
    have nc_5 : nx bb mz u9 - (nf bb mz u9) = 4 := xn_eq (a := (nx bb mz u9 - (nf bb mz u9))) (b := 4) (by omega) (by omega) c_5
    refine lv_aload_n hx hb dX9_isWord_70 rfl (lv_at hl 1 rfl) ?_
    refine lv_iconst (v := 0) hx hb dX9_isWord_71 (by decide) ?_
    refine lv_iload_n hx hb dX9_isWord_72 rfl (lv_at hl 2 rfl) ?_
    refine xc_Vr hF (c_X9_isAtP l D cI cJ cZ cS ta sa sv s.heap.size h0 ys yk yo yt mk0 yfa yfe mL mS mM yro yhe ygr mF mC mY yta mz mv ywa ybi ysi ynu ymo tp 0 98 u9 bb (by omega) hbb (by omega) (by omega) (by decide)) kv_X9_272 ⟨rfl, rfl, Nat.le_of_ble_eq_true rfl, Nat.le_of_ble_eq_true rfl⟩ ⟨Nat.le_of_ble_eq_true rfl, Nat.le_of_ble_eq_true rfl⟩ hK hN hZ hP hD hS hA [0, 1] rfl rfl 0 rfl rfl rfl rfl hl.1 rfl (Nat.le_of_ble_eq_true rfl) dX9_isWord_73 (fun r_6 hw_r_6 => ?_)
    rcases hw_r_6 with ⟨rfl, h_7⟩ | ⟨rfl, h_8⟩
    · skip
      refine lv_if_eq (tgt := 142) hx hb dX9_isWord_76 (by decide) (fun c_9 => absurd c_9 (by decide)) (fun c_9 => ?_)
      refine lv_aload_n hx hb dX9_isWord_79 rfl (lv_at hl 1 rfl) ?_
      refine lv_iconst (v := 1) hx hb dX9_isWord_80 (by decide) ?_
      refine lv_iload_n hx hb dX9_isWord_81 rfl (lv_at hl 3 rfl) ?_
      refine xc_Vr hF (c_X9_isAtP l D cI cJ cZ cS ta sa sv s.heap.size h0 ys yk yo yt mk0 yfa yfe mL mS mM yro yhe ygr mF mC mY yta mz mv ywa ybi ysi ynu ymo tp 1 97 u9 bb (by omega) hbb (by omega) (by omega) (by decide)) kv_X9_272 ⟨rfl, rfl, Nat.le_of_ble_eq_true rfl, Nat.le_of_ble_eq_true rfl⟩ ⟨Nat.le_of_ble_eq_true rfl, Nat.le_of_ble_eq_true rfl⟩ hK hN hZ hP hD hS hA [0, 1] rfl rfl 0 rfl rfl rfl rfl hl.1 rfl (Nat.le_of_ble_eq_true rfl) dX9_isWord_82 (fun r_10 hw_r_10 => ?_)
      rcases hw_r_10 with ⟨rfl, h_11⟩ | ⟨rfl, h_12⟩
      · skip
        refine lv_if_eq (tgt := 142) hx hb dX9_isWord_85 (by decide) (fun c_13 => absurd c_13 (by decide)) (fun c_13 => ?_)
        refine lv_aload_n hx hb dX9_isWord_88 rfl (lv_at hl 1 rfl) ?_
        refine lv_iconst (v := 2) hx hb dX9_isWord_89 (by decide) ?_
        refine lv_iload_n hx hb dX9_isWord_90 rfl (lv_at hl 4 rfl) ?_
        refine xc_Vr hF (c_X9_isAtP l D cI cJ cZ cS ta sa sv s.heap.size h0 ys yk yo yt mk0 yfa yfe mL mS mM yro yhe ygr mF mC mY yta mz mv ywa ybi ysi ynu ymo tp 2 99 u9 bb (by omega) hbb (by omega) (by omega) (by decide)) kv_X9_272 ⟨rfl, rfl, Nat.le_of_ble_eq_true rfl, Nat.le_of_ble_eq_true rfl⟩ ⟨Nat.le_of_ble_eq_true rfl, Nat.le_of_ble_eq_true rfl⟩ hK hN hZ hP hD hS hA [0, 1] rfl rfl 0 rfl rfl rfl rfl hl.1 rfl (Nat.le_of_ble_eq_true rfl) dX9_isWord_91 (fun r_14 hw_r_14 => ?_)
        rcases hw_r_14 with ⟨rfl, h_15⟩ | ⟨rfl, h_16⟩
        · skip
          refine lv_if_eq (tgt := 142) hx hb dX9_isWord_94 (by decide) (fun c_17 => absurd c_17 (by decide)) (fun c_17 => ?_)
          refine lv_aload_n hx hb dX9_isWord_97 rfl (lv_at hl 1 rfl) ?_
          refine lv_iconst (v := 3) hx hb dX9_isWord_98 (by decide) ?_
          refine lv_iload hx hb dX9_isWord_99 (lv_at hl 5 rfl) ?_
          refine xc_Vr hF (c_X9_isAtP l D cI cJ cZ cS ta sa sv s.heap.size h0 ys yk yo yt mk0 yfa yfe mL mS mM yro yhe ygr mF mC mY yta mz mv ywa ybi ysi ynu ymo tp 3 107 u9 bb (by omega) hbb (by omega) (by omega) (by decide)) kv_X9_272 ⟨rfl, rfl, Nat.le_of_ble_eq_true rfl, Nat.le_of_ble_eq_true rfl⟩ ⟨Nat.le_of_ble_eq_true rfl, Nat.le_of_ble_eq_true rfl⟩ hK hN hZ hP hD hS hA [0, 1] rfl rfl 0 rfl rfl rfl rfl hl.1 rfl (Nat.le_of_ble_eq_true rfl) dX9_isWord_101 (fun r_18 hw_r_18 => ?_)
          rcases hw_r_18 with ⟨rfl, h_19⟩ | ⟨rfl, h_20⟩
          · skip
            refine lv_if_eq (tgt := 142) hx hb dX9_isWord_104 (by decide) (fun c_21 => absurd c_21 (by decide)) (fun c_21 => ?_)
            refine lv_aload_n hx hb dX9_isWord_107 rfl (lv_at hl 1 rfl) ?_
            refine lv_iconst (v := 4) hx hb dX9_isWord_108 (by decide) ?_
            refine lv_iload hx hb dX9_isWord_109 (lv_at hl 6 rfl) ?_
            refine xc_Vr hF (c_X9_isAt0 l D cI cJ cZ cS ta sa sv s.heap.size h0 ys yk yo yt mk0 yfa yfe mL mS mM yro yhe ygr mF mC mY yta mz mv ywa ybi ysi ynu ymo tp 4 u9 bb (by omega) hbb (by omega)) kv_X9_272 ⟨rfl, rfl, Nat.le_of_ble_eq_true rfl, Nat.le_of_ble_eq_true rfl⟩ ⟨Nat.le_of_ble_eq_true rfl, Nat.le_of_ble_eq_true rfl⟩ hK hN hZ hP hD hS hA [0, 1] rfl rfl 0 rfl rfl rfl rfl hl.1 rfl (Nat.le_of_ble_eq_true rfl) dX9_isWord_111 (fun r_22 hw_r_22 => ?_)
            subst hw_r_22
            refine lv_if_eq (tgt := 142) hx hb dX9_isWord_114 (by decide) (fun c_23 => absurd c_23 (by decide)) (fun c_23 => ?_)
            refine lv_aload_n hx hb dX9_isWord_117 rfl (lv_at hl 1 rfl) ?_
            refine lv_iconst (v := 5) hx hb dX9_isWord_118 (by decide) ?_
            refine lv_iload hx hb dX9_isWord_119 (lv_at hl 7 rfl) ?_
            refine xc_Vr hF (c_X9_isAt0 l D cI cJ cZ cS ta sa sv s.heap.size h0 ys yk yo yt mk0 yfa yfe mL mS mM yro yhe ygr mF mC mY yta mz mv ywa ybi ysi ynu ymo tp 5 u9 bb (by omega) hbb (by omega)) kv_X9_272 ⟨rfl, rfl, Nat.le_of_ble_eq_true rfl, Nat.le_of_ble_eq_true rfl⟩ ⟨Nat.le_of_ble_eq_true rfl, Nat.le_of_ble_eq_true rfl⟩ hK hN hZ hP hD hS hA [0, 1] rfl rfl 0 rfl rfl rfl rfl hl.1 rfl (Nat.le_of_ble_eq_true rfl) dX9_isWord_121 (fun r_24 hw_r_24 => ?_)
            subst hw_r_24
            refine lv_if_eq (tgt := 142) hx hb dX9_isWord_124 (by decide) (fun c_25 => absurd c_25 (by decide)) (fun c_25 => ?_)
            refine lv_aload_n hx hb dX9_isWord_127 rfl (lv_at hl 1 rfl) ?_
            refine lv_bipush (v := 6) hx hb dX9_isWord_128 (by decide) ?_
            refine lv_iload hx hb dX9_isWord_130 (lv_at hl 8 rfl) ?_
            refine xc_Vr hF (c_X9_isAt0 l D cI cJ cZ cS ta sa sv s.heap.size h0 ys yk yo yt mk0 yfa yfe mL mS mM yro yhe ygr mF mC mY yta mz mv ywa ybi ysi ynu ymo tp 6 u9 bb (by omega) hbb (by omega)) kv_X9_272 ⟨rfl, rfl, Nat.le_of_ble_eq_true rfl, Nat.le_of_ble_eq_true rfl⟩ ⟨Nat.le_of_ble_eq_true rfl, Nat.le_of_ble_eq_true rfl⟩ hK hN hZ hP hD hS hA [0, 1] rfl rfl 0 rfl rfl rfl rfl hl.1 rfl (Nat.le_of_ble_eq_true rfl) dX9_isWord_132 (fun r_26 hw_r_26 => ?_)
            subst hw_r_26
            refine lv_if_eq (tgt := 142) hx hb dX9_isWord_135 (by decide) (fun c_27 => absurd c_27 (by decide)) (fun c_27 => ?_)
            refine lv_iconst (v := 1) hx hb dX9_isWord_138 (by decide) ?_
            refine lv_goto (tgt := 143) hx hb dX9_isWord_139 (by decide) ?_
            exact W.zret (v := 1) hx hb hr rfl (fun t ht hW => ⟨1, rfl, Or.inl ⟨rfl, isw_5 (by omega) h_7 h_11 h_15 h_19⟩, ht⟩) (fun q h => by cases h) dX9_isWord_143 hlk
          · skip
            refine lv_if_eq (tgt := 142) hx hb dX9_isWord_104 (by decide) (fun c_28 => ?_) (fun c_28 => absurd (by decide) c_28)
            refine lv_iconst (v := 0) hx hb dX9_isWord_142 (by decide) ?_
            exact W.zret (v := 0) hx hb hr rfl (fun t ht hW => ⟨0, rfl, Or.inr ⟨rfl, nisw_5_3 h_20⟩, ht⟩) (fun q h => by cases h) dX9_isWord_143 hlk
        · skip
          refine lv_if_eq (tgt := 142) hx hb dX9_isWord_94 (by decide) (fun c_29 => ?_) (fun c_29 => absurd (by decide) c_29)
          refine lv_iconst (v := 0) hx hb dX9_isWord_142 (by decide) ?_
          exact W.zret (v := 0) hx hb hr rfl (fun t ht hW => ⟨0, rfl, Or.inr ⟨rfl, nisw_5_2 h_16⟩, ht⟩) (fun q h => by cases h) dX9_isWord_143 hlk
      · skip
        refine lv_if_eq (tgt := 142) hx hb dX9_isWord_85 (by decide) (fun c_30 => ?_) (fun c_30 => absurd (by decide) c_30)
        refine lv_iconst (v := 0) hx hb dX9_isWord_142 (by decide) ?_
        exact W.zret (v := 0) hx hb hr rfl (fun t ht hW => ⟨0, rfl, Or.inr ⟨rfl, nisw_5_1 h_12⟩, ht⟩) (fun q h => by cases h) dX9_isWord_143 hlk
    · skip
      refine lv_if_eq (tgt := 142) hx hb dX9_isWord_76 (by decide) (fun c_31 => ?_) (fun c_31 => absurd (by decide) c_31)
      refine lv_iconst (v := 0) hx hb dX9_isWord_142 (by decide) ?_
      exact W.zret (v := 0) hx hb hr rfl (fun t ht hW => ⟨0, rfl, Or.inr ⟨rfl, nisw_5_0 h_8⟩, ht⟩) (fun q h => by cases h) dX9_isWord_143 hlk
set_option maxHeartbeats 4000000 in
set_option maxRecDepth 100000 in
theorem c_X9_isWord_6 (l : Launch) (D : va_G) (cI cJ cZ cS : ClassId) (ta : Nat) (sa sv : Nat → Nat) (sz : Nat) (h0 : Nat) (ys : Nat) (yk : Nat) (yo : Nat) (yt : Nat) (mk0 : Int32) (yfa : Nat) (yfe : Nat) (mL : Int32) (mS : Int32) (mM : Int32) (yro : Nat) (yhe : Nat) (ygr : Nat) (mF : Int32) (mC : Int32) (mY : Int32) (yta : Nat) (mz : Nat) (mv : Int32) (ywa : Nat) (ybi : Nat) (ysi : Nat) (ynu : Nat) (ymo : Nat) (tp : Nat → Int32) (u9 : Nat) (bb : Nat → Int32) (hz : mz ≤ 120) (hbb : bA tp mz = bb) (hu9 : u9 ≤ mz) : Met l yX9_isWord (Cond.code yX9_isWord cX9_isWord 9 (some .boolean) :: wsU) ({ frames := 2, cells := 0, slots := 0, locals := 43 }) (va_Pc [.ref h0, .int 97, .int 108, .int 108, .int 0, .int 0, .int 0, .int 0] (XW D (xT cI cJ cZ cS) ta sa sv [(h0, .inr (9, [.ref ys, .ref yk, .ref yo, .ref yt, .int mk0, .ref yfa, .ref yfe, .int mL, .int mS, .int mM, .ref yro, .ref yhe, .ref ygr, .int mF, .int mC, .int mY, .ref yta, .int (nI (mz)), .int (nI (nf bb mz u9)), .int (nI (nx bb mz u9)), .int mv, .int 0, .ref ywa, .ref ybi, .ref ysi, .ref ynu, .ref ymo])), (yta, .inl (cI, 120, .inl tp))] sz)) (vp_Si (fun r : Int32 => (r = 1 ∧ (isW bb (nf bb mz u9) (nx bb mz u9) 6)) ∨ (r = 0 ∧ (¬ isW bb (nf bb mz u9) (nx bb mz u9) 6)))) 0 0 (fun _ => False) := by
  refine xh (QA := fun _ => vp_Si (fun r : Int32 => (r = 1 ∧ (isW bb (nf bb mz u9) (nx bb mz u9) 6)) ∨ (r = 0 ∧ (¬ isW bb (nf bb mz u9) (nx bb mz u9) 6)))) (fr := fun _ _ => False) (by decide) (Nat.le_of_ble_eq_true rfl) ?_
  intro p e s m below meth c ls A hF hr hlk hin hsz hP hK hD hN hZ hA hS hl
  have hF : CallFix p m c cX9_isWord 9 s _ _ RX9 := hF
  have hx := hF.1
  have hb := hF.2.1
  have hml := hF.2.2.1
  have hown := hF.2.2.2.1
  have hu : ∀ w ∈ wsU, w.before _ s = true := fun w h => hF.2.2.2.2 w (List.mem_cons_of_mem _ h)
  have hl : lv_has ls 9 [(0, .ref h0), (1, .int 97), (2, .int 108), (3, .int 108), (4, .int 0), (5, .int 0), (6, .int 0), (7, .int 0)] := hl
  have htk := tk_le (b := bb) hu9
  refine lv_iload_n hx hb dX9_isWord_0 rfl (lv_at hl 3 rfl) ?_
  refine lv_if_ne (tgt := 8) hx hb dX9_isWord_1 (by decide) (fun c_1 => ?_) (fun c_1 => absurd c_1 (by decide))
  refine lv_iload hx hb dX9_isWord_8 (lv_at hl 4 rfl) ?_
  refine lv_if_ne (tgt := 17) hx hb dX9_isWord_10 (by decide) (fun c_2 => absurd (by decide) c_2) (fun c_2 => ?_)
  refine lv_iconst (v := 3) hx hb dX9_isWord_13 (by decide) ?_
  refine lv_goto (tgt := 47) hx hb dX9_isWord_14 (by decide) ?_
  refine lv_istore (lv' := [(8, .int 3), (0, .ref h0), (1, .int 97), (2, .int 108), (3, .int 108), (4, .int 0), (5, .int 0), (6, .int 0), (7, .int 0)]) hx hb dX9_isWord_47 hl (by decide) rfl (fun ls hl => ?_)
  refine lv_aload_n hx hb dX9_isWord_49 rfl (lv_at hl 1 rfl) ?_
  refine xg hF kf_X9_266 hK hP 0 rfl rfl dX9_isWord_50 ?_
  refine lv_if_ne (tgt := 142) hx hb dX9_isWord_53 (by decide) (fun c_3 => absurd (by decide) c_3) (fun c_3 => ?_)
  refine lv_aload_n hx hb dX9_isWord_56 rfl (lv_at hl 1 rfl) ?_
  refine xg hF kf_X9_251 hK hP 0 rfl rfl dX9_isWord_57 ?_
  refine lv_aload_n hx hb dX9_isWord_60 rfl (lv_at hl 1 rfl) ?_
  refine xg hF kf_X9_254 hK hP 0 rfl rfl dX9_isWord_61 ?_
  refine lv_isub hx hb dX9_isWord_64 ?_
  refine xl_i (y := nI (nx bb mz u9 - (nf bb mz u9))) (pk_sub (show nf bb mz u9 ≤ nx bb mz u9 by omega)) ?_
  refine lv_iload hx hb dX9_isWord_65 (lv_at hl 0 rfl) ?_
  refine lv_icmp_ne (tgt := 142) hx hb dX9_isWord_67 (by decide) (fun c_4 => ?_) (fun c_4 => ?_)
  · skip
    have nc_4 : nx bb mz u9 - (nf bb mz u9) ≠ 3 := xn_ne (a := (nx bb mz u9 - (nf bb mz u9))) (b := 3) (by omega) (by omega) c_4
    refine lv_iconst (v := 0) hx hb dX9_isWord_142 (by decide) ?_
    exact W.zret (v := 0) hx hb hr rfl (fun t ht hW => ⟨0, rfl, Or.inr ⟨rfl, nisl_6 (by omega)⟩, ht⟩) (fun q h => by cases h) dX9_isWord_143 hlk
  · skip
    have nc_4 : nx bb mz u9 - (nf bb mz u9) = 3 := xn_eq (a := (nx bb mz u9 - (nf bb mz u9))) (b := 3) (by omega) (by omega) c_4
    refine lv_aload_n hx hb dX9_isWord_70 rfl (lv_at hl 1 rfl) ?_
    refine lv_iconst (v := 0) hx hb dX9_isWord_71 (by decide) ?_
    refine lv_iload_n hx hb dX9_isWord_72 rfl (lv_at hl 2 rfl) ?_
    refine xc_Vr hF (c_X9_isAtP l D cI cJ cZ cS ta sa sv s.heap.size h0 ys yk yo yt mk0 yfa yfe mL mS mM yro yhe ygr mF mC mY yta mz mv ywa ybi ysi ynu ymo tp 0 97 u9 bb (by omega) hbb (by omega) (by omega) (by decide)) kv_X9_272 ⟨rfl, rfl, Nat.le_of_ble_eq_true rfl, Nat.le_of_ble_eq_true rfl⟩ ⟨Nat.le_of_ble_eq_true rfl, Nat.le_of_ble_eq_true rfl⟩ hK hN hZ hP hD hS hA [0, 1] rfl rfl 0 rfl rfl rfl rfl hl.1 rfl (Nat.le_of_ble_eq_true rfl) dX9_isWord_73 (fun r_5 hw_r_5 => ?_)
    rcases hw_r_5 with ⟨rfl, h_6⟩ | ⟨rfl, h_7⟩
    · skip
      refine lv_if_eq (tgt := 142) hx hb dX9_isWord_76 (by decide) (fun c_8 => absurd c_8 (by decide)) (fun c_8 => ?_)
      refine lv_aload_n hx hb dX9_isWord_79 rfl (lv_at hl 1 rfl) ?_
      refine lv_iconst (v := 1) hx hb dX9_isWord_80 (by decide) ?_
      refine lv_iload_n hx hb dX9_isWord_81 rfl (lv_at hl 3 rfl) ?_
      refine xc_Vr hF (c_X9_isAtP l D cI cJ cZ cS ta sa sv s.heap.size h0 ys yk yo yt mk0 yfa yfe mL mS mM yro yhe ygr mF mC mY yta mz mv ywa ybi ysi ynu ymo tp 1 108 u9 bb (by omega) hbb (by omega) (by omega) (by decide)) kv_X9_272 ⟨rfl, rfl, Nat.le_of_ble_eq_true rfl, Nat.le_of_ble_eq_true rfl⟩ ⟨Nat.le_of_ble_eq_true rfl, Nat.le_of_ble_eq_true rfl⟩ hK hN hZ hP hD hS hA [0, 1] rfl rfl 0 rfl rfl rfl rfl hl.1 rfl (Nat.le_of_ble_eq_true rfl) dX9_isWord_82 (fun r_9 hw_r_9 => ?_)
      rcases hw_r_9 with ⟨rfl, h_10⟩ | ⟨rfl, h_11⟩
      · skip
        refine lv_if_eq (tgt := 142) hx hb dX9_isWord_85 (by decide) (fun c_12 => absurd c_12 (by decide)) (fun c_12 => ?_)
        refine lv_aload_n hx hb dX9_isWord_88 rfl (lv_at hl 1 rfl) ?_
        refine lv_iconst (v := 2) hx hb dX9_isWord_89 (by decide) ?_
        refine lv_iload_n hx hb dX9_isWord_90 rfl (lv_at hl 4 rfl) ?_
        refine xc_Vr hF (c_X9_isAtP l D cI cJ cZ cS ta sa sv s.heap.size h0 ys yk yo yt mk0 yfa yfe mL mS mM yro yhe ygr mF mC mY yta mz mv ywa ybi ysi ynu ymo tp 2 108 u9 bb (by omega) hbb (by omega) (by omega) (by decide)) kv_X9_272 ⟨rfl, rfl, Nat.le_of_ble_eq_true rfl, Nat.le_of_ble_eq_true rfl⟩ ⟨Nat.le_of_ble_eq_true rfl, Nat.le_of_ble_eq_true rfl⟩ hK hN hZ hP hD hS hA [0, 1] rfl rfl 0 rfl rfl rfl rfl hl.1 rfl (Nat.le_of_ble_eq_true rfl) dX9_isWord_91 (fun r_13 hw_r_13 => ?_)
        rcases hw_r_13 with ⟨rfl, h_14⟩ | ⟨rfl, h_15⟩
        · skip
          refine lv_if_eq (tgt := 142) hx hb dX9_isWord_94 (by decide) (fun c_16 => absurd c_16 (by decide)) (fun c_16 => ?_)
          refine lv_aload_n hx hb dX9_isWord_97 rfl (lv_at hl 1 rfl) ?_
          refine lv_iconst (v := 3) hx hb dX9_isWord_98 (by decide) ?_
          refine lv_iload hx hb dX9_isWord_99 (lv_at hl 5 rfl) ?_
          refine xc_Vr hF (c_X9_isAt0 l D cI cJ cZ cS ta sa sv s.heap.size h0 ys yk yo yt mk0 yfa yfe mL mS mM yro yhe ygr mF mC mY yta mz mv ywa ybi ysi ynu ymo tp 3 u9 bb (by omega) hbb (by omega)) kv_X9_272 ⟨rfl, rfl, Nat.le_of_ble_eq_true rfl, Nat.le_of_ble_eq_true rfl⟩ ⟨Nat.le_of_ble_eq_true rfl, Nat.le_of_ble_eq_true rfl⟩ hK hN hZ hP hD hS hA [0, 1] rfl rfl 0 rfl rfl rfl rfl hl.1 rfl (Nat.le_of_ble_eq_true rfl) dX9_isWord_101 (fun r_17 hw_r_17 => ?_)
          subst hw_r_17
          refine lv_if_eq (tgt := 142) hx hb dX9_isWord_104 (by decide) (fun c_18 => absurd c_18 (by decide)) (fun c_18 => ?_)
          refine lv_aload_n hx hb dX9_isWord_107 rfl (lv_at hl 1 rfl) ?_
          refine lv_iconst (v := 4) hx hb dX9_isWord_108 (by decide) ?_
          refine lv_iload hx hb dX9_isWord_109 (lv_at hl 6 rfl) ?_
          refine xc_Vr hF (c_X9_isAt0 l D cI cJ cZ cS ta sa sv s.heap.size h0 ys yk yo yt mk0 yfa yfe mL mS mM yro yhe ygr mF mC mY yta mz mv ywa ybi ysi ynu ymo tp 4 u9 bb (by omega) hbb (by omega)) kv_X9_272 ⟨rfl, rfl, Nat.le_of_ble_eq_true rfl, Nat.le_of_ble_eq_true rfl⟩ ⟨Nat.le_of_ble_eq_true rfl, Nat.le_of_ble_eq_true rfl⟩ hK hN hZ hP hD hS hA [0, 1] rfl rfl 0 rfl rfl rfl rfl hl.1 rfl (Nat.le_of_ble_eq_true rfl) dX9_isWord_111 (fun r_19 hw_r_19 => ?_)
          subst hw_r_19
          refine lv_if_eq (tgt := 142) hx hb dX9_isWord_114 (by decide) (fun c_20 => absurd c_20 (by decide)) (fun c_20 => ?_)
          refine lv_aload_n hx hb dX9_isWord_117 rfl (lv_at hl 1 rfl) ?_
          refine lv_iconst (v := 5) hx hb dX9_isWord_118 (by decide) ?_
          refine lv_iload hx hb dX9_isWord_119 (lv_at hl 7 rfl) ?_
          refine xc_Vr hF (c_X9_isAt0 l D cI cJ cZ cS ta sa sv s.heap.size h0 ys yk yo yt mk0 yfa yfe mL mS mM yro yhe ygr mF mC mY yta mz mv ywa ybi ysi ynu ymo tp 5 u9 bb (by omega) hbb (by omega)) kv_X9_272 ⟨rfl, rfl, Nat.le_of_ble_eq_true rfl, Nat.le_of_ble_eq_true rfl⟩ ⟨Nat.le_of_ble_eq_true rfl, Nat.le_of_ble_eq_true rfl⟩ hK hN hZ hP hD hS hA [0, 1] rfl rfl 0 rfl rfl rfl rfl hl.1 rfl (Nat.le_of_ble_eq_true rfl) dX9_isWord_121 (fun r_21 hw_r_21 => ?_)
          subst hw_r_21
          refine lv_if_eq (tgt := 142) hx hb dX9_isWord_124 (by decide) (fun c_22 => absurd c_22 (by decide)) (fun c_22 => ?_)
          refine lv_aload_n hx hb dX9_isWord_127 rfl (lv_at hl 1 rfl) ?_
          refine lv_bipush (v := 6) hx hb dX9_isWord_128 (by decide) ?_
          refine lv_iload hx hb dX9_isWord_130 (lv_at hl 8 rfl) ?_
          refine xc_Vr hF (c_X9_isAt0 l D cI cJ cZ cS ta sa sv s.heap.size h0 ys yk yo yt mk0 yfa yfe mL mS mM yro yhe ygr mF mC mY yta mz mv ywa ybi ysi ynu ymo tp 6 u9 bb (by omega) hbb (by omega)) kv_X9_272 ⟨rfl, rfl, Nat.le_of_ble_eq_true rfl, Nat.le_of_ble_eq_true rfl⟩ ⟨Nat.le_of_ble_eq_true rfl, Nat.le_of_ble_eq_true rfl⟩ hK hN hZ hP hD hS hA [0, 1] rfl rfl 0 rfl rfl rfl rfl hl.1 rfl (Nat.le_of_ble_eq_true rfl) dX9_isWord_132 (fun r_23 hw_r_23 => ?_)
          subst hw_r_23
          refine lv_if_eq (tgt := 142) hx hb dX9_isWord_135 (by decide) (fun c_24 => absurd c_24 (by decide)) (fun c_24 => ?_)
          refine lv_iconst (v := 1) hx hb dX9_isWord_138 (by decide) ?_
          refine lv_goto (tgt := 143) hx hb dX9_isWord_139 (by decide) ?_
          exact W.zret (v := 1) hx hb hr rfl (fun t ht hW => ⟨1, rfl, Or.inl ⟨rfl, isw_6 (by omega) h_6 h_10 h_14⟩, ht⟩) (fun q h => by cases h) dX9_isWord_143 hlk
        · skip
          refine lv_if_eq (tgt := 142) hx hb dX9_isWord_94 (by decide) (fun c_25 => ?_) (fun c_25 => absurd (by decide) c_25)
          refine lv_iconst (v := 0) hx hb dX9_isWord_142 (by decide) ?_
          exact W.zret (v := 0) hx hb hr rfl (fun t ht hW => ⟨0, rfl, Or.inr ⟨rfl, nisw_6_2 h_15⟩, ht⟩) (fun q h => by cases h) dX9_isWord_143 hlk
      · skip
        refine lv_if_eq (tgt := 142) hx hb dX9_isWord_85 (by decide) (fun c_26 => ?_) (fun c_26 => absurd (by decide) c_26)
        refine lv_iconst (v := 0) hx hb dX9_isWord_142 (by decide) ?_
        exact W.zret (v := 0) hx hb hr rfl (fun t ht hW => ⟨0, rfl, Or.inr ⟨rfl, nisw_6_1 h_11⟩, ht⟩) (fun q h => by cases h) dX9_isWord_143 hlk
    · skip
      refine lv_if_eq (tgt := 142) hx hb dX9_isWord_76 (by decide) (fun c_27 => ?_) (fun c_27 => absurd (by decide) c_27)
      refine lv_iconst (v := 0) hx hb dX9_isWord_142 (by decide) ?_
      exact W.zret (v := 0) hx hb hr rfl (fun t ht hW => ⟨0, rfl, Or.inr ⟨rfl, nisw_6_0 h_7⟩, ht⟩) (fun q h => by cases h) dX9_isWord_143 hlk
set_option maxHeartbeats 4000000 in
set_option maxRecDepth 100000 in
theorem c_X9_isWord_7 (l : Launch) (D : va_G) (cI cJ cZ cS : ClassId) (ta : Nat) (sa sv : Nat → Nat) (sz : Nat) (h0 : Nat) (ys : Nat) (yk : Nat) (yo : Nat) (yt : Nat) (mk0 : Int32) (yfa : Nat) (yfe : Nat) (mL : Int32) (mS : Int32) (mM : Int32) (yro : Nat) (yhe : Nat) (ygr : Nat) (mF : Int32) (mC : Int32) (mY : Int32) (yta : Nat) (mz : Nat) (mv : Int32) (ywa : Nat) (ybi : Nat) (ysi : Nat) (ynu : Nat) (ymo : Nat) (tp : Nat → Int32) (u9 : Nat) (bb : Nat → Int32) (hz : mz ≤ 120) (hbb : bA tp mz = bb) (hu9 : u9 ≤ mz) : Met l yX9_isWord (Cond.code yX9_isWord cX9_isWord 9 (some .boolean) :: wsU) ({ frames := 2, cells := 0, slots := 0, locals := 43 }) (va_Pc [.ref h0, .int 115, .int 108, .int 97, .int 99, .int 107, .int 0, .int 0] (XW D (xT cI cJ cZ cS) ta sa sv [(h0, .inr (9, [.ref ys, .ref yk, .ref yo, .ref yt, .int mk0, .ref yfa, .ref yfe, .int mL, .int mS, .int mM, .ref yro, .ref yhe, .ref ygr, .int mF, .int mC, .int mY, .ref yta, .int (nI (mz)), .int (nI (nf bb mz u9)), .int (nI (nx bb mz u9)), .int mv, .int 0, .ref ywa, .ref ybi, .ref ysi, .ref ynu, .ref ymo])), (yta, .inl (cI, 120, .inl tp))] sz)) (vp_Si (fun r : Int32 => (r = 1 ∧ (isW bb (nf bb mz u9) (nx bb mz u9) 7)) ∨ (r = 0 ∧ (¬ isW bb (nf bb mz u9) (nx bb mz u9) 7)))) 0 0 (fun _ => False) := by
  refine xh (QA := fun _ => vp_Si (fun r : Int32 => (r = 1 ∧ (isW bb (nf bb mz u9) (nx bb mz u9) 7)) ∨ (r = 0 ∧ (¬ isW bb (nf bb mz u9) (nx bb mz u9) 7)))) (fr := fun _ _ => False) (by decide) (Nat.le_of_ble_eq_true rfl) ?_
  intro p e s m below meth c ls A hF hr hlk hin hsz hP hK hD hN hZ hA hS hl
  have hF : CallFix p m c cX9_isWord 9 s _ _ RX9 := hF
  have hx := hF.1
  have hb := hF.2.1
  have hml := hF.2.2.1
  have hown := hF.2.2.2.1
  have hu : ∀ w ∈ wsU, w.before _ s = true := fun w h => hF.2.2.2.2 w (List.mem_cons_of_mem _ h)
  have hl : lv_has ls 9 [(0, .ref h0), (1, .int 115), (2, .int 108), (3, .int 97), (4, .int 99), (5, .int 107), (6, .int 0), (7, .int 0)] := hl
  have htk := tk_le (b := bb) hu9
  refine lv_iload_n hx hb dX9_isWord_0 rfl (lv_at hl 3 rfl) ?_
  refine lv_if_ne (tgt := 8) hx hb dX9_isWord_1 (by decide) (fun c_1 => ?_) (fun c_1 => absurd c_1 (by decide))
  refine lv_iload hx hb dX9_isWord_8 (lv_at hl 4 rfl) ?_
  refine lv_if_ne (tgt := 17) hx hb dX9_isWord_10 (by decide) (fun c_2 => ?_) (fun c_2 => absurd c_2 (by decide))
  refine lv_iload hx hb dX9_isWord_17 (lv_at hl 5 rfl) ?_
  refine lv_if_ne (tgt := 26) hx hb dX9_isWord_19 (by decide) (fun c_3 => ?_) (fun c_3 => absurd c_3 (by decide))
  refine lv_iload hx hb dX9_isWord_26 (lv_at hl 6 rfl) ?_
  refine lv_if_ne (tgt := 35) hx hb dX9_isWord_28 (by decide) (fun c_4 => absurd (by decide) c_4) (fun c_4 => ?_)
  refine lv_iconst (v := 5) hx hb dX9_isWord_31 (by decide) ?_
  refine lv_goto (tgt := 47) hx hb dX9_isWord_32 (by decide) ?_
  refine lv_istore (lv' := [(8, .int 5), (0, .ref h0), (1, .int 115), (2, .int 108), (3, .int 97), (4, .int 99), (5, .int 107), (6, .int 0), (7, .int 0)]) hx hb dX9_isWord_47 hl (by decide) rfl (fun ls hl => ?_)
  refine lv_aload_n hx hb dX9_isWord_49 rfl (lv_at hl 1 rfl) ?_
  refine xg hF kf_X9_266 hK hP 0 rfl rfl dX9_isWord_50 ?_
  refine lv_if_ne (tgt := 142) hx hb dX9_isWord_53 (by decide) (fun c_5 => absurd (by decide) c_5) (fun c_5 => ?_)
  refine lv_aload_n hx hb dX9_isWord_56 rfl (lv_at hl 1 rfl) ?_
  refine xg hF kf_X9_251 hK hP 0 rfl rfl dX9_isWord_57 ?_
  refine lv_aload_n hx hb dX9_isWord_60 rfl (lv_at hl 1 rfl) ?_
  refine xg hF kf_X9_254 hK hP 0 rfl rfl dX9_isWord_61 ?_
  refine lv_isub hx hb dX9_isWord_64 ?_
  refine xl_i (y := nI (nx bb mz u9 - (nf bb mz u9))) (pk_sub (show nf bb mz u9 ≤ nx bb mz u9 by omega)) ?_
  refine lv_iload hx hb dX9_isWord_65 (lv_at hl 0 rfl) ?_
  refine lv_icmp_ne (tgt := 142) hx hb dX9_isWord_67 (by decide) (fun c_6 => ?_) (fun c_6 => ?_)
  · skip
    have nc_6 : nx bb mz u9 - (nf bb mz u9) ≠ 5 := xn_ne (a := (nx bb mz u9 - (nf bb mz u9))) (b := 5) (by omega) (by omega) c_6
    refine lv_iconst (v := 0) hx hb dX9_isWord_142 (by decide) ?_
    exact W.zret (v := 0) hx hb hr rfl (fun t ht hW => ⟨0, rfl, Or.inr ⟨rfl, nisl_7 (by omega)⟩, ht⟩) (fun q h => by cases h) dX9_isWord_143 hlk
  · skip
    have nc_6 : nx bb mz u9 - (nf bb mz u9) = 5 := xn_eq (a := (nx bb mz u9 - (nf bb mz u9))) (b := 5) (by omega) (by omega) c_6
    refine lv_aload_n hx hb dX9_isWord_70 rfl (lv_at hl 1 rfl) ?_
    refine lv_iconst (v := 0) hx hb dX9_isWord_71 (by decide) ?_
    refine lv_iload_n hx hb dX9_isWord_72 rfl (lv_at hl 2 rfl) ?_
    refine xc_Vr hF (c_X9_isAtP l D cI cJ cZ cS ta sa sv s.heap.size h0 ys yk yo yt mk0 yfa yfe mL mS mM yro yhe ygr mF mC mY yta mz mv ywa ybi ysi ynu ymo tp 0 115 u9 bb (by omega) hbb (by omega) (by omega) (by decide)) kv_X9_272 ⟨rfl, rfl, Nat.le_of_ble_eq_true rfl, Nat.le_of_ble_eq_true rfl⟩ ⟨Nat.le_of_ble_eq_true rfl, Nat.le_of_ble_eq_true rfl⟩ hK hN hZ hP hD hS hA [0, 1] rfl rfl 0 rfl rfl rfl rfl hl.1 rfl (Nat.le_of_ble_eq_true rfl) dX9_isWord_73 (fun r_7 hw_r_7 => ?_)
    rcases hw_r_7 with ⟨rfl, h_8⟩ | ⟨rfl, h_9⟩
    · skip
      refine lv_if_eq (tgt := 142) hx hb dX9_isWord_76 (by decide) (fun c_10 => absurd c_10 (by decide)) (fun c_10 => ?_)
      refine lv_aload_n hx hb dX9_isWord_79 rfl (lv_at hl 1 rfl) ?_
      refine lv_iconst (v := 1) hx hb dX9_isWord_80 (by decide) ?_
      refine lv_iload_n hx hb dX9_isWord_81 rfl (lv_at hl 3 rfl) ?_
      refine xc_Vr hF (c_X9_isAtP l D cI cJ cZ cS ta sa sv s.heap.size h0 ys yk yo yt mk0 yfa yfe mL mS mM yro yhe ygr mF mC mY yta mz mv ywa ybi ysi ynu ymo tp 1 108 u9 bb (by omega) hbb (by omega) (by omega) (by decide)) kv_X9_272 ⟨rfl, rfl, Nat.le_of_ble_eq_true rfl, Nat.le_of_ble_eq_true rfl⟩ ⟨Nat.le_of_ble_eq_true rfl, Nat.le_of_ble_eq_true rfl⟩ hK hN hZ hP hD hS hA [0, 1] rfl rfl 0 rfl rfl rfl rfl hl.1 rfl (Nat.le_of_ble_eq_true rfl) dX9_isWord_82 (fun r_11 hw_r_11 => ?_)
      rcases hw_r_11 with ⟨rfl, h_12⟩ | ⟨rfl, h_13⟩
      · skip
        refine lv_if_eq (tgt := 142) hx hb dX9_isWord_85 (by decide) (fun c_14 => absurd c_14 (by decide)) (fun c_14 => ?_)
        refine lv_aload_n hx hb dX9_isWord_88 rfl (lv_at hl 1 rfl) ?_
        refine lv_iconst (v := 2) hx hb dX9_isWord_89 (by decide) ?_
        refine lv_iload_n hx hb dX9_isWord_90 rfl (lv_at hl 4 rfl) ?_
        refine xc_Vr hF (c_X9_isAtP l D cI cJ cZ cS ta sa sv s.heap.size h0 ys yk yo yt mk0 yfa yfe mL mS mM yro yhe ygr mF mC mY yta mz mv ywa ybi ysi ynu ymo tp 2 97 u9 bb (by omega) hbb (by omega) (by omega) (by decide)) kv_X9_272 ⟨rfl, rfl, Nat.le_of_ble_eq_true rfl, Nat.le_of_ble_eq_true rfl⟩ ⟨Nat.le_of_ble_eq_true rfl, Nat.le_of_ble_eq_true rfl⟩ hK hN hZ hP hD hS hA [0, 1] rfl rfl 0 rfl rfl rfl rfl hl.1 rfl (Nat.le_of_ble_eq_true rfl) dX9_isWord_91 (fun r_15 hw_r_15 => ?_)
        rcases hw_r_15 with ⟨rfl, h_16⟩ | ⟨rfl, h_17⟩
        · skip
          refine lv_if_eq (tgt := 142) hx hb dX9_isWord_94 (by decide) (fun c_18 => absurd c_18 (by decide)) (fun c_18 => ?_)
          refine lv_aload_n hx hb dX9_isWord_97 rfl (lv_at hl 1 rfl) ?_
          refine lv_iconst (v := 3) hx hb dX9_isWord_98 (by decide) ?_
          refine lv_iload hx hb dX9_isWord_99 (lv_at hl 5 rfl) ?_
          refine xc_Vr hF (c_X9_isAtP l D cI cJ cZ cS ta sa sv s.heap.size h0 ys yk yo yt mk0 yfa yfe mL mS mM yro yhe ygr mF mC mY yta mz mv ywa ybi ysi ynu ymo tp 3 99 u9 bb (by omega) hbb (by omega) (by omega) (by decide)) kv_X9_272 ⟨rfl, rfl, Nat.le_of_ble_eq_true rfl, Nat.le_of_ble_eq_true rfl⟩ ⟨Nat.le_of_ble_eq_true rfl, Nat.le_of_ble_eq_true rfl⟩ hK hN hZ hP hD hS hA [0, 1] rfl rfl 0 rfl rfl rfl rfl hl.1 rfl (Nat.le_of_ble_eq_true rfl) dX9_isWord_101 (fun r_19 hw_r_19 => ?_)
          rcases hw_r_19 with ⟨rfl, h_20⟩ | ⟨rfl, h_21⟩
          · skip
            refine lv_if_eq (tgt := 142) hx hb dX9_isWord_104 (by decide) (fun c_22 => absurd c_22 (by decide)) (fun c_22 => ?_)
            refine lv_aload_n hx hb dX9_isWord_107 rfl (lv_at hl 1 rfl) ?_
            refine lv_iconst (v := 4) hx hb dX9_isWord_108 (by decide) ?_
            refine lv_iload hx hb dX9_isWord_109 (lv_at hl 6 rfl) ?_
            refine xc_Vr hF (c_X9_isAtP l D cI cJ cZ cS ta sa sv s.heap.size h0 ys yk yo yt mk0 yfa yfe mL mS mM yro yhe ygr mF mC mY yta mz mv ywa ybi ysi ynu ymo tp 4 107 u9 bb (by omega) hbb (by omega) (by omega) (by decide)) kv_X9_272 ⟨rfl, rfl, Nat.le_of_ble_eq_true rfl, Nat.le_of_ble_eq_true rfl⟩ ⟨Nat.le_of_ble_eq_true rfl, Nat.le_of_ble_eq_true rfl⟩ hK hN hZ hP hD hS hA [0, 1] rfl rfl 0 rfl rfl rfl rfl hl.1 rfl (Nat.le_of_ble_eq_true rfl) dX9_isWord_111 (fun r_23 hw_r_23 => ?_)
            rcases hw_r_23 with ⟨rfl, h_24⟩ | ⟨rfl, h_25⟩
            · skip
              refine lv_if_eq (tgt := 142) hx hb dX9_isWord_114 (by decide) (fun c_26 => absurd c_26 (by decide)) (fun c_26 => ?_)
              refine lv_aload_n hx hb dX9_isWord_117 rfl (lv_at hl 1 rfl) ?_
              refine lv_iconst (v := 5) hx hb dX9_isWord_118 (by decide) ?_
              refine lv_iload hx hb dX9_isWord_119 (lv_at hl 7 rfl) ?_
              refine xc_Vr hF (c_X9_isAt0 l D cI cJ cZ cS ta sa sv s.heap.size h0 ys yk yo yt mk0 yfa yfe mL mS mM yro yhe ygr mF mC mY yta mz mv ywa ybi ysi ynu ymo tp 5 u9 bb (by omega) hbb (by omega)) kv_X9_272 ⟨rfl, rfl, Nat.le_of_ble_eq_true rfl, Nat.le_of_ble_eq_true rfl⟩ ⟨Nat.le_of_ble_eq_true rfl, Nat.le_of_ble_eq_true rfl⟩ hK hN hZ hP hD hS hA [0, 1] rfl rfl 0 rfl rfl rfl rfl hl.1 rfl (Nat.le_of_ble_eq_true rfl) dX9_isWord_121 (fun r_27 hw_r_27 => ?_)
              subst hw_r_27
              refine lv_if_eq (tgt := 142) hx hb dX9_isWord_124 (by decide) (fun c_28 => absurd c_28 (by decide)) (fun c_28 => ?_)
              refine lv_aload_n hx hb dX9_isWord_127 rfl (lv_at hl 1 rfl) ?_
              refine lv_bipush (v := 6) hx hb dX9_isWord_128 (by decide) ?_
              refine lv_iload hx hb dX9_isWord_130 (lv_at hl 8 rfl) ?_
              refine xc_Vr hF (c_X9_isAt0 l D cI cJ cZ cS ta sa sv s.heap.size h0 ys yk yo yt mk0 yfa yfe mL mS mM yro yhe ygr mF mC mY yta mz mv ywa ybi ysi ynu ymo tp 6 u9 bb (by omega) hbb (by omega)) kv_X9_272 ⟨rfl, rfl, Nat.le_of_ble_eq_true rfl, Nat.le_of_ble_eq_true rfl⟩ ⟨Nat.le_of_ble_eq_true rfl, Nat.le_of_ble_eq_true rfl⟩ hK hN hZ hP hD hS hA [0, 1] rfl rfl 0 rfl rfl rfl rfl hl.1 rfl (Nat.le_of_ble_eq_true rfl) dX9_isWord_132 (fun r_29 hw_r_29 => ?_)
              subst hw_r_29
              refine lv_if_eq (tgt := 142) hx hb dX9_isWord_135 (by decide) (fun c_30 => absurd c_30 (by decide)) (fun c_30 => ?_)
              refine lv_iconst (v := 1) hx hb dX9_isWord_138 (by decide) ?_
              refine lv_goto (tgt := 143) hx hb dX9_isWord_139 (by decide) ?_
              exact W.zret (v := 1) hx hb hr rfl (fun t ht hW => ⟨1, rfl, Or.inl ⟨rfl, isw_7 (by omega) h_8 h_12 h_16 h_20 h_24⟩, ht⟩) (fun q h => by cases h) dX9_isWord_143 hlk
            · skip
              refine lv_if_eq (tgt := 142) hx hb dX9_isWord_114 (by decide) (fun c_31 => ?_) (fun c_31 => absurd (by decide) c_31)
              refine lv_iconst (v := 0) hx hb dX9_isWord_142 (by decide) ?_
              exact W.zret (v := 0) hx hb hr rfl (fun t ht hW => ⟨0, rfl, Or.inr ⟨rfl, nisw_7_4 h_25⟩, ht⟩) (fun q h => by cases h) dX9_isWord_143 hlk
          · skip
            refine lv_if_eq (tgt := 142) hx hb dX9_isWord_104 (by decide) (fun c_32 => ?_) (fun c_32 => absurd (by decide) c_32)
            refine lv_iconst (v := 0) hx hb dX9_isWord_142 (by decide) ?_
            exact W.zret (v := 0) hx hb hr rfl (fun t ht hW => ⟨0, rfl, Or.inr ⟨rfl, nisw_7_3 h_21⟩, ht⟩) (fun q h => by cases h) dX9_isWord_143 hlk
        · skip
          refine lv_if_eq (tgt := 142) hx hb dX9_isWord_94 (by decide) (fun c_33 => ?_) (fun c_33 => absurd (by decide) c_33)
          refine lv_iconst (v := 0) hx hb dX9_isWord_142 (by decide) ?_
          exact W.zret (v := 0) hx hb hr rfl (fun t ht hW => ⟨0, rfl, Or.inr ⟨rfl, nisw_7_2 h_17⟩, ht⟩) (fun q h => by cases h) dX9_isWord_143 hlk
      · skip
        refine lv_if_eq (tgt := 142) hx hb dX9_isWord_85 (by decide) (fun c_34 => ?_) (fun c_34 => absurd (by decide) c_34)
        refine lv_iconst (v := 0) hx hb dX9_isWord_142 (by decide) ?_
        exact W.zret (v := 0) hx hb hr rfl (fun t ht hW => ⟨0, rfl, Or.inr ⟨rfl, nisw_7_1 h_13⟩, ht⟩) (fun q h => by cases h) dX9_isWord_143 hlk
    · skip
      refine lv_if_eq (tgt := 142) hx hb dX9_isWord_76 (by decide) (fun c_35 => ?_) (fun c_35 => absurd (by decide) c_35)
      refine lv_iconst (v := 0) hx hb dX9_isWord_142 (by decide) ?_
      exact W.zret (v := 0) hx hb hr rfl (fun t ht hW => ⟨0, rfl, Or.inr ⟨rfl, nisw_7_0 h_9⟩, ht⟩) (fun q h => by cases h) dX9_isWord_143 hlk
set_option maxHeartbeats 4000000 in
set_option maxRecDepth 100000 in
theorem c_X9_numberW (l : Launch) (D : va_G) (cI cJ cZ cS : ClassId) (ta : Nat) (sa sv : Nat → Nat) (sz : Nat) (h0 : Nat) (ys : Nat) (yk : Nat) (yo : Nat) (yt : Nat) (mk0 : Int32) (yfa : Nat) (yfe : Nat) (mL : Int32) (mS : Int32) (mM : Int32) (yro : Nat) (yhe : Nat) (ygr : Nat) (mF : Int32) (mC : Int32) (mY : Int32) (yta : Nat) (mz : Nat) (mv : Int32) (ywa : Nat) (ybi : Nat) (ysi : Nat) (ynu : Nat) (ymo : Nat) (tp : Nat → Int32) (p0 : Int32) (p1 : Int32) (u9 : Nat) (bb : Nat → Int32) (hz : mz ≤ 120) (hbb : bA tp mz = bb) (hu9 : u9 ≤ mz) : Met l yX9_number (Cond.code yX9_number cX9_number 6 none :: wsU) ({ frames := 0, cells := 0, slots := 0, locals := 0 }) (va_Pc [.ref h0, .int p0, .int p1] (XW D (xT cI cJ cZ cS) ta sa sv [(h0, .inr (9, [.ref ys, .ref yk, .ref yo, .ref yt, .int mk0, .ref yfa, .ref yfe, .int mL, .int mS, .int mM, .ref yro, .ref yhe, .ref ygr, .int mF, .int mC, .int mY, .ref yta, .int (nI (mz)), .int (nI (nf bb mz u9)), .int (nI (nx bb mz u9)), .int mv, .int 1, .ref ywa, .ref ybi, .ref ysi, .ref ynu, .ref ymo])), (yta, .inl (cI, 120, .inl tp))] sz)) (XQv (fun (_ : Unit) => True) D (fun _ : Unit => [(h0, .inr (9, [.ref ys, .ref yk, .ref yo, .ref yt, .int mk0, .ref yfa, .ref yfe, .int mL, .int mS, .int mM, .ref yro, .ref yhe, .ref ygr, .int mF, .int mC, .int mY, .ref yta, .int (nI (mz)), .int (nI (nf bb mz u9)), .int (nI (nx bb mz u9)), .int mv, .int 1, .ref ywa, .ref ybi, .ref ysi, .ref ynu, .ref ymo])), (yta, .inl (cI, 120, .inl tp))]) (va_A [(h0, .inr (9, [.ref ys, .ref yk, .ref yo, .ref yt, .int mk0, .ref yfa, .ref yfe, .int mL, .int mS, .int mM, .ref yro, .ref yhe, .ref ygr, .int mF, .int mC, .int mY, .ref yta, .int (nI (mz)), .int (nI (nf bb mz u9)), .int (nI (nx bb mz u9)), .int mv, .int 1, .ref ywa, .ref ybi, .ref ysi, .ref ynu, .ref ymo])), (yta, .inl (cI, 120, .inl tp))] sz)) 0 0 (va_A [(h0, .inr (9, [.ref ys, .ref yk, .ref yo, .ref yt, .int mk0, .ref yfa, .ref yfe, .int mL, .int mS, .int mM, .ref yro, .ref yhe, .ref ygr, .int mF, .int mC, .int mY, .ref yta, .int (nI (mz)), .int (nI (nf bb mz u9)), .int (nI (nx bb mz u9)), .int mv, .int 1, .ref ywa, .ref ybi, .ref ysi, .ref ynu, .ref ymo])), (yta, .inl (cI, 120, .inl tp))] sz) := by
  refine xh (QA := fun A => XQv (fun (_ : Unit) => True) D (fun _ : Unit => [(h0, .inr (9, [.ref ys, .ref yk, .ref yo, .ref yt, .int mk0, .ref yfa, .ref yfe, .int mL, .int mS, .int mM, .ref yro, .ref yhe, .ref ygr, .int mF, .int mC, .int mY, .ref yta, .int (nI (mz)), .int (nI (nf bb mz u9)), .int (nI (nx bb mz u9)), .int mv, .int 1, .ref ywa, .ref ybi, .ref ysi, .ref ynu, .ref ymo])), (yta, .inl (cI, 120, .inl tp))]) A) (fr := fun A => A) (by decide) (Nat.le_of_ble_eq_true rfl) ?_
  intro p e s m below meth c ls A hF hr hlk hin hsz hP hK hD hN hZ hA hS hl
  have hF : CallFix p m c cX9_number 6 s _ _ RX9 := hF
  have hx := hF.1
  have hb := hF.2.1
  have hml := hF.2.2.1
  have hown := hF.2.2.2.1
  have hu : ∀ w ∈ wsU, w.before _ s = true := fun w h => hF.2.2.2.2 w (List.mem_cons_of_mem _ h)
  have hl : lv_has ls 6 [(0, .ref h0), (1, .int p0), (2, .int p1)] := hl
  refine lv_aload_n hx hb dX9_number_0 rfl (lv_at hl 0 rfl) ?_
  refine xg hF kf_X9_266 hK hP 0 rfl rfl dX9_number_1 ?_
  refine lv_if_eq (tgt := 8) hx hb dX9_number_4 (by decide) (fun c_1 => absurd c_1 (by decide)) (fun c_1 => ?_)
  exact W.vret hx hb hr (fun t ht hW => ⟨⟨(), rfl, trivial, by rw [ht]; exact hP.sub [0, 1] rfl, hD.sub [0, 1] (by decide) rfl⟩, hS.F ht⟩) hS.2.2 dX9_number_7 hlk
set_option maxHeartbeats 4000000 in
set_option maxRecDepth 100000 in
theorem c_X9_number0 (l : Launch) (D : va_G) (cI cJ cZ cS : ClassId) (ta : Nat) (sa sv : Nat → Nat) (sz : Nat) (h0 : Nat) (ys : Nat) (yk : Nat) (yo : Nat) (yt : Nat) (mk0 : Int32) (yfa : Nat) (yfe : Nat) (mL : Int32) (mS : Int32) (mM : Int32) (yro : Nat) (yhe : Nat) (ygr : Nat) (mF : Int32) (mC : Int32) (mY : Int32) (yta : Nat) (mz : Nat) (mv : Int32) (ywa : Nat) (ybi : Nat) (ysi : Nat) (ynu : Nat) (ymo : Nat) (tp : Nat → Int32) (p0 : Int32) (p1 : Int32) (u9 : Nat) (bb : Nat → Int32) (hz : mz ≤ 120) (hbb : bA tp mz = bb) (hu9 : u9 ≤ mz) : Met l yX9_number (Cond.code yX9_number cX9_number 6 none :: wsU) ({ frames := 4, cells := 0, slots := 0, locals := 88 }) (va_Pc [.ref h0, .int p0, .int p1] (XW D (xT cI cJ cZ cS) ta sa sv [(h0, .inr (9, [.ref ys, .ref yk, .ref yo, .ref yt, .int mk0, .ref yfa, .ref yfe, .int mL, .int mS, .int mM, .ref yro, .ref yhe, .ref ygr, .int mF, .int mC, .int mY, .ref yta, .int (nI (mz)), .int (nI (nf bb mz u9)), .int (nI (nx bb mz u9)), .int mv, .int 0, .ref ywa, .ref ybi, .ref ysi, .ref ynu, .ref ymo])), (yta, .inl (cI, 120, .inl tp))] sz)) (XQv (fun (u : Nat × Int32 × Int32) => match u with | (u2, w2, v2) => (((okR9 bb mz u9 p0 p1) ∧ (u2 = nx bb mz u9) ∧ (w2 = 0) ∧ (v2 = nI (num bb (nf bb mz u9) (nx bb mz u9)))) ∨ ((¬ okR9 bb mz u9 p0 p1) ∧ (u2 = u9) ∧ (w2 = 1))) ∧ (u2 ≤ mz) ∧ (u9 ≤ u2)) D (fun (u : Nat × Int32 × Int32) => match u with | (u2, w2, v2) => [(h0, .inr (9, [.ref ys, .ref yk, .ref yo, .ref yt, .int mk0, .ref yfa, .ref yfe, .int mL, .int mS, .int mM, .ref yro, .ref yhe, .ref ygr, .int mF, .int mC, .int mY, .ref yta, .int (nI (mz)), .int (nI (nf bb mz u2)), .int (nI (nx bb mz u2)), .int v2, .int w2, .ref ywa, .ref ybi, .ref ysi, .ref ynu, .ref ymo])), (yta, .inl (cI, 120, .inl tp))]) (va_A [(h0, .inr (9, [.ref ys, .ref yk, .ref yo, .ref yt, .int mk0, .ref yfa, .ref yfe, .int mL, .int mS, .int mM, .ref yro, .ref yhe, .ref ygr, .int mF, .int mC, .int mY, .ref yta, .int (nI (mz)), .int (nI (nf bb mz u9)), .int (nI (nx bb mz u9)), .int mv, .int 0, .ref ywa, .ref ybi, .ref ysi, .ref ynu, .ref ymo])), (yta, .inl (cI, 120, .inl tp))] sz)) 0 0 (va_A [(h0, .inr (9, [.ref ys, .ref yk, .ref yo, .ref yt, .int mk0, .ref yfa, .ref yfe, .int mL, .int mS, .int mM, .ref yro, .ref yhe, .ref ygr, .int mF, .int mC, .int mY, .ref yta, .int (nI (mz)), .int (nI (nf bb mz u9)), .int (nI (nx bb mz u9)), .int mv, .int 0, .ref ywa, .ref ybi, .ref ysi, .ref ynu, .ref ymo])), (yta, .inl (cI, 120, .inl tp))] sz) := by
  refine xh (QA := fun A => XQv (fun (u : Nat × Int32 × Int32) => match u with | (u2, w2, v2) => (((okR9 bb mz u9 p0 p1) ∧ (u2 = nx bb mz u9) ∧ (w2 = 0) ∧ (v2 = nI (num bb (nf bb mz u9) (nx bb mz u9)))) ∨ ((¬ okR9 bb mz u9 p0 p1) ∧ (u2 = u9) ∧ (w2 = 1))) ∧ (u2 ≤ mz) ∧ (u9 ≤ u2)) D (fun (u : Nat × Int32 × Int32) => match u with | (u2, w2, v2) => [(h0, .inr (9, [.ref ys, .ref yk, .ref yo, .ref yt, .int mk0, .ref yfa, .ref yfe, .int mL, .int mS, .int mM, .ref yro, .ref yhe, .ref ygr, .int mF, .int mC, .int mY, .ref yta, .int (nI (mz)), .int (nI (nf bb mz u2)), .int (nI (nx bb mz u2)), .int v2, .int w2, .ref ywa, .ref ybi, .ref ysi, .ref ynu, .ref ymo])), (yta, .inl (cI, 120, .inl tp))]) A) (fr := fun A => A) (by decide) (Nat.le_of_ble_eq_true rfl) ?_
  intro p e s m below meth c ls A hF hr hlk hin hsz hP hK hD hN hZ hA hS hl
  have hF : CallFix p m c cX9_number 6 s _ _ RX9 := hF
  have hx := hF.1
  have hb := hF.2.1
  have hml := hF.2.2.1
  have hown := hF.2.2.2.1
  have hu : ∀ w ∈ wsU, w.before _ s = true := fun w h => hF.2.2.2.2 w (List.mem_cons_of_mem _ h)
  have hl : lv_has ls 6 [(0, .ref h0), (1, .int p0), (2, .int p1)] := hl
  have htk := tk_le (b := bb) hu9
  refine lv_aload_n hx hb dX9_number_0 rfl (lv_at hl 0 rfl) ?_
  refine xg hF kf_X9_266 hK hP 0 rfl rfl dX9_number_1 ?_
  refine lv_if_eq (tgt := 8) hx hb dX9_number_4 (by decide) (fun c_1 => ?_) (fun c_1 => absurd (by decide) c_1)
  refine lv_aload_n hx hb dX9_number_8 rfl (lv_at hl 0 rfl) ?_
  refine lv_aload_n hx hb dX9_number_9 rfl (lv_at hl 0 rfl) ?_
  refine xg hF kf_X9_254 hK hP 0 rfl rfl dX9_number_10 ?_
  refine xc_Vr hF (c_X9_byteAt l D cI cJ cZ cS ta sa sv s.heap.size h0 ys yk yo yt mk0 yfa yfe mL mS mM yro yhe ygr mF mC mY yta mz (nf bb mz u9) (nx bb mz u9) mv 0 ywa ybi ysi ynu ymo tp (nf bb mz u9) bb (by omega) hbb (by omega)) kv_X9_257 ⟨rfl, rfl, Nat.le_of_ble_eq_true rfl, Nat.le_of_ble_eq_true rfl⟩ ⟨Nat.le_of_ble_eq_true rfl, Nat.le_of_ble_eq_true rfl⟩ hK hN hZ hP hD hS hA [0, 1] rfl rfl 0 rfl rfl rfl rfl hl.1 rfl (Nat.le_of_ble_eq_true rfl) dX9_number_13 (fun r_2 hw_r_2 => ?_)
  rcases hw_r_2 with ⟨rfl, h_3⟩ | ⟨rfl, h_4⟩
  · skip
    refine xc_Sr hF (c_X9_isDigit l D cI cJ cZ cS ta sa sv s.heap.size (bb (nf bb mz u9)) ) ks_X9_263 ⟨rfl, rfl, Nat.le_of_ble_eq_true rfl, Nat.le_of_ble_eq_true rfl⟩ ⟨Nat.le_of_ble_eq_true rfl, Nat.le_of_ble_eq_true rfl⟩ hK hN hZ hP hD hS hA [] rfl rfl rfl hl.1 rfl (Nat.le_of_ble_eq_true rfl) dX9_number_16 (fun r_5 hw_r_5 => ?_)
    rcases hw_r_5 with ⟨rfl, h_6, h_7⟩ | ⟨rfl, h_8⟩
    · skip
      have hK9 : kd bb mz (nf bb mz u9) = 2 := (kd_D (by omega) ⟨h_6, h_7⟩)
      refine lv_istore_n (lv' := [(3, .int 1), (0, .ref h0), (1, .int p0), (2, .int p1)]) hx hb dX9_number_19 rfl hl (by decide) rfl (fun ls hl => ?_)
      refine lv_iconst (v := 0) hx hb dX9_number_20 (by decide) ?_
      refine lv_istore (lv' := [(4, .int 0), (3, .int 1), (0, .ref h0), (1, .int p0), (2, .int p1)]) hx hb dX9_number_21 hl (by decide) rfl (fun ls hl => ?_)
      refine lv_aload_n hx hb dX9_number_23 rfl (lv_at hl 2 rfl) ?_
      refine xg hF kf_X9_254 hK hP 0 rfl rfl dX9_number_24 ?_
      refine lv_istore (lv' := [(5, .int (nI (nf bb mz u9))), (4, .int 0), (3, .int 1), (0, .ref h0), (1, .int p0), (2, .int p1)]) hx hb dX9_number_27 hl (by decide) rfl (fun ls hl => ?_)
      suffices loop_29 : ∀ (n_29 : Nat) (i : Nat) (v8 : Nat) (H : Heap) (locs : List Loc) (ls : Array Slot), nx bb mz u9 - i < n_29 → (nf bb mz u9 ≤ i) → (i ≤ nx bb mz u9) → (v8 = nvM bb (i - nf bb mz u9) (nf bb mz u9) 0) → (v8 ≤ 99999) → va_P D vwCl [(h0, .inr (9, [.ref ys, .ref yk, .ref yo, .ref yt, .int mk0, .ref yfa, .ref yfe, .int mL, .int mS, .int mM, .ref yro, .ref yhe, .ref ygr, .int mF, .int mC, .int mY, .ref yta, .int (nI (mz)), .int (nI (nf bb mz u9)), .int (nI (nx bb mz u9)), .int mv, .int 0, .ref ywa, .ref ybi, .ref ysi, .ref ynu, .ref ymo])), (yta, .inl (cI, 120, .inl tp))] H → va_D A [(h0, .inr (9, [.ref ys, .ref yk, .ref yo, .ref yt, .int mk0, .ref yfa, .ref yfe, .int mL, .int mS, .int mM, .ref yro, .ref yhe, .ref ygr, .int mF, .int mC, .int mY, .ref yta, .int (nI (mz)), .int (nI (nf bb mz u9)), .int (nI (nx bb mz u9)), .int mv, .int 0, .ref ywa, .ref ybi, .ref ysi, .ref ynu, .ref ymo])), (yta, .inl (cI, 120, .inl tp))] → va_S A s.heap H locs → lv_has ls 6 [(5, .int (nI (i))), (4, .int (nI (v8))), (3, .int 1), (0, .ref h0), (1, .int p0), (2, .int p1)] → W p l e ({ frames := 4, cells := 0, slots := 0, locals := 88 }) s m ([.ref h0, .int p0, .int p1] : List Value).toArray below meth c H locs 0 0 (MQ below (XQv (fun (u : Nat × Int32 × Int32) => match u with | (u2, w2, v2) => (((okR9 bb mz u9 p0 p1) ∧ (u2 = nx bb mz u9) ∧ (w2 = 0) ∧ (v2 = nI (num bb (nf bb mz u9) (nx bb mz u9)))) ∨ ((¬ okR9 bb mz u9 p0 p1) ∧ (u2 = u9) ∧ (w2 = 1))) ∧ (u2 ≤ mz) ∧ (u9 ≤ u2)) D (fun (u : Nat × Int32 × Int32) => match u with | (u2, w2, v2) => [(h0, .inr (9, [.ref ys, .ref yk, .ref yo, .ref yt, .int mk0, .ref yfa, .ref yfe, .int mL, .int mS, .int mM, .ref yro, .ref yhe, .ref ygr, .int mF, .int mC, .int mY, .ref yta, .int (nI (mz)), .int (nI (nf bb mz u2)), .int (nI (nx bb mz u2)), .int v2, .int w2, .ref ywa, .ref ybi, .ref ysi, .ref ynu, .ref ymo])), (yta, .inl (cI, 120, .inl tp))]) A) ([.ref h0, .int p0, .int p1] : List Value).toArray s 0 0 A) (F0 m 29 ls []) by
        exact loop_29 _ (nf bb mz u9) 0 _ _ _ (Nat.lt_succ_self _) (by omega) (by omega) (by rw [Nat.sub_self]; rfl) (by omega) hP hD hS (lv_sub hl [0, 1, 2, 3, 4, 5] rfl)
      intro n_29
      induction n_29 with
      | zero =>
        intro i v8 H locs ls hm_29
        exact absurd hm_29 (Nat.not_lt_zero _)
      | succ n_29 ih_29 =>
        intro i v8 H locs ls hm_29 hi1 hi2 hv8 hvb hP hD hS hl
        refine lv_iload hx hb dX9_number_29 (lv_at hl 0 rfl) ?_
        refine lv_aload_n hx hb dX9_number_31 rfl (lv_at hl 3 rfl) ?_
        refine xg hF kf_X9_251 hK hP 0 rfl rfl dX9_number_32 ?_
        refine lv_icmp_ge (tgt := 79) hx hb dX9_number_35 (by decide) (fun c_9 => ?_) (fun c_9 => ?_)
        · skip
          have nc_9 : nx bb mz u9 ≤ i := xn_le (a := (nx bb mz u9)) (b := i) (by omega) (by omega) c_9
          refine lv_aload_n hx hb dX9_number_79 rfl (lv_at hl 3 rfl) ?_
          refine lv_iload hx hb dX9_number_80 (lv_at hl 1 rfl) ?_
          refine xp hF kf_X9_275 tyX9_ok nmX9 hK hP hD hS 0 rfl rfl rfl rfl (Nat.le_of_ble_eq_true rfl) dX9_number_82 (fun H locs hP hD hS => ?_)
          have hP : va_P D vwCl [(h0, .inr (9, [.ref ys, .ref yk, .ref yo, .ref yt, .int mk0, .ref yfa, .ref yfe, .int mL, .int mS, .int mM, .ref yro, .ref yhe, .ref ygr, .int mF, .int mC, .int mY, .ref yta, .int (nI (mz)), .int (nI (nf bb mz u9)), .int (nI (nx bb mz u9)), .int (nI (v8)), .int 0, .ref ywa, .ref ybi, .ref ysi, .ref ynu, .ref ymo])), (yta, .inl (cI, 120, .inl tp))] H := hP
          have hD : va_D A [(h0, .inr (9, [.ref ys, .ref yk, .ref yo, .ref yt, .int mk0, .ref yfa, .ref yfe, .int mL, .int mS, .int mM, .ref yro, .ref yhe, .ref ygr, .int mF, .int mC, .int mY, .ref yta, .int (nI (mz)), .int (nI (nf bb mz u9)), .int (nI (nx bb mz u9)), .int (nI (v8)), .int 0, .ref ywa, .ref ybi, .ref ysi, .ref ynu, .ref ymo])), (yta, .inl (cI, 120, .inl tp))] := hD
          refine lv_aload_n hx hb dX9_number_85 rfl (lv_at hl 3 rfl) ?_
          refine lv_iload_n hx hb dX9_number_86 rfl (lv_at hl 2 rfl) ?_
          refine lv_if_eq (tgt := 107) hx hb dX9_number_87 (by decide) (fun c_10 => absurd c_10 (by decide)) (fun c_10 => ?_)
          refine lv_iload hx hb dX9_number_90 (lv_at hl 1 rfl) ?_
          refine lv_i2l (v := (nI (v8)).toInt64) hx hb dX9_number_92 rfl ?_
          refine lv_iload_n hx hb dX9_number_93 rfl (lv_at hl 4 rfl) ?_
          refine lv_i2l (v := p0.toInt64) hx hb dX9_number_94 rfl ?_
          refine lv_iload_n hx hb dX9_number_95 rfl (lv_at hl 5 rfl) ?_
          refine lv_i2l (v := p1.toInt64) hx hb dX9_number_96 rfl ?_
          refine xc_Sr hF (c_X9_in l D cI cJ cZ cS ta sa sv H.size (nI (v8)) p0 p1 ) ks_X9_57 ⟨rfl, rfl, Nat.le_of_ble_eq_true rfl, Nat.le_of_ble_eq_true rfl⟩ ⟨Nat.le_of_ble_eq_true rfl, Nat.le_of_ble_eq_true rfl⟩ hK hN hZ hP hD hS hA [] rfl rfl rfl hl.1 rfl (Nat.le_of_ble_eq_true rfl) dX9_number_97 (fun r_11 hw_r_11 => ?_)
          rcases hw_r_11 with ⟨rfl, h_12, h_13⟩ | ⟨rfl, h_14⟩
          · skip
            refine lv_if_eq (tgt := 107) hx hb dX9_number_100 (by decide) (fun c_15 => absurd c_15 (by decide)) (fun c_15 => ?_)
            refine lv_iconst (v := 1) hx hb dX9_number_103 (by decide) ?_
            refine lv_goto (tgt := 108) hx hb dX9_number_104 (by decide) ?_
            refine xc_Vv (wr := []) hF (c_X9_needs1 l D cI cJ cZ cS ta sa sv H.size h0 ys yk yo yt mk0 yfa yfe mL mS mM yro yhe ygr mF mC mY yta mz (nI (v8)) ywa ybi ysi ynu ymo tp u9 bb (by omega) hbb (by omega)) kv_X9_278 ⟨rfl, rfl, Nat.le_of_ble_eq_true rfl, Nat.le_of_ble_eq_true rfl⟩ ⟨Nat.le_of_ble_eq_true rfl, Nat.le_of_ble_eq_true rfl⟩ hK hN hZ hP hD hS hA [0, 1] [] rfl rfl rfl rfl (by decide) 0 rfl rfl rfl rfl hl.1 rfl (Nat.le_of_ble_eq_true rfl) dX9_number_108 (fun u_r_16 H locs hw_r_16 hP hD hS => ?_)
            obtain ⟨i_17, i_18⟩ := hw_r_16
            have hP : va_P D vwCl [(h0, .inr (9, [.ref ys, .ref yk, .ref yo, .ref yt, .int mk0, .ref yfa, .ref yfe, .int mL, .int mS, .int mM, .ref yro, .ref yhe, .ref ygr, .int mF, .int mC, .int mY, .ref yta, .int (nI (mz)), .int (nI (nf bb mz (nx bb mz u9))), .int (nI (nx bb mz (nx bb mz u9))), .int (nI (v8)), .int 0, .ref ywa, .ref ybi, .ref ysi, .ref ynu, .ref ymo])), (yta, .inl (cI, 120, .inl tp))] H := hP
            have hD : va_D A [(h0, .inr (9, [.ref ys, .ref yk, .ref yo, .ref yt, .int mk0, .ref yfa, .ref yfe, .int mL, .int mS, .int mM, .ref yro, .ref yhe, .ref ygr, .int mF, .int mC, .int mY, .ref yta, .int (nI (mz)), .int (nI (nf bb mz (nx bb mz u9))), .int (nI (nx bb mz (nx bb mz u9))), .int (nI (v8)), .int 0, .ref ywa, .ref ybi, .ref ysi, .ref ynu, .ref ymo])), (yta, .inl (cI, 120, .inl tp))] := hD
            have hn8 : v8 = tN bb mz u9 := hv8.trans (by rw [show i = nx bb mz u9 by omega]; rfl)
            exact W.vret hx hb hr (fun t ht hW => ⟨⟨(nx bb mz u9, 0, (nI (v8))), rfl, ⟨Or.inl ⟨⟨hK9, (by rw [← hn8]; exact h_12), (by rw [← hn8]; exact h_13)⟩, rfl, rfl, congrArg nI hn8⟩, (by first | assumption | omega), (by first | assumption | omega)⟩, by rw [ht]; exact hP.sub [0, 1] rfl, hD.sub [0, 1] (by decide) rfl⟩, hS.F ht⟩) hS.2.2 dX9_number_111 hlk
          · skip
            refine lv_if_eq (tgt := 107) hx hb dX9_number_100 (by decide) (fun c_19 => ?_) (fun c_19 => absurd (by decide) c_19)
            refine lv_iconst (v := 0) hx hb dX9_number_107 (by decide) ?_
            refine xc_Vv (wr := []) hF (c_X9_needs0 l D cI cJ cZ cS ta sa sv H.size h0 ys yk yo yt mk0 yfa yfe mL mS mM yro yhe ygr mF mC mY yta mz (nI (v8)) ywa ybi ysi ynu ymo tp u9 bb (by omega) hbb (by omega)) kv_X9_278 ⟨rfl, rfl, Nat.le_of_ble_eq_true rfl, Nat.le_of_ble_eq_true rfl⟩ ⟨Nat.le_of_ble_eq_true rfl, Nat.le_of_ble_eq_true rfl⟩ hK hN hZ hP hD hS hA [0, 1] [] rfl rfl rfl rfl (by decide) 0 rfl rfl rfl rfl hl.1 rfl (Nat.le_of_ble_eq_true rfl) dX9_number_108 (fun u_r_20 H locs hw_r_20 hP hD hS => ?_)
            have hP : va_P D vwCl [(h0, .inr (9, [.ref ys, .ref yk, .ref yo, .ref yt, .int mk0, .ref yfa, .ref yfe, .int mL, .int mS, .int mM, .ref yro, .ref yhe, .ref ygr, .int mF, .int mC, .int mY, .ref yta, .int (nI (mz)), .int (nI (nf bb mz u9)), .int (nI (nx bb mz u9)), .int (nI (v8)), .int 1, .ref ywa, .ref ybi, .ref ysi, .ref ynu, .ref ymo])), (yta, .inl (cI, 120, .inl tp))] H := hP
            have hD : va_D A [(h0, .inr (9, [.ref ys, .ref yk, .ref yo, .ref yt, .int mk0, .ref yfa, .ref yfe, .int mL, .int mS, .int mM, .ref yro, .ref yhe, .ref ygr, .int mF, .int mC, .int mY, .ref yta, .int (nI (mz)), .int (nI (nf bb mz u9)), .int (nI (nx bb mz u9)), .int (nI (v8)), .int 1, .ref ywa, .ref ybi, .ref ysi, .ref ynu, .ref ymo])), (yta, .inl (cI, 120, .inl tp))] := hD
            have hn8 : v8 = tN bb mz u9 := hv8.trans (by rw [show i = nx bb mz u9 by omega]; rfl)
            exact W.vret hx hb hr (fun t ht hW => ⟨⟨(u9, 1, (nI (v8))), rfl, ⟨Or.inr ⟨fun h => h_14.elim (fun q => h.2.1 (by rw [← hn8]; exact q)) (fun q => h.2.2 (by rw [← hn8]; exact q)), rfl, rfl⟩, (by first | assumption | omega), (by first | assumption | omega)⟩, by rw [ht]; exact hP.sub [0, 1] rfl, hD.sub [0, 1] (by decide) rfl⟩, hS.F ht⟩) hS.2.2 dX9_number_111 hlk
        · skip
          have nc_9 : i < nx bb mz u9 := xn_nle (a := (nx bb mz u9)) (b := i) (by omega) (by omega) c_9
          refine lv_iload_n hx hb dX9_number_38 rfl (lv_at hl 2 rfl) ?_
          refine lv_if_eq (tgt := 79) hx hb dX9_number_39 (by decide) (fun c_21 => absurd c_21 (by decide)) (fun c_21 => ?_)
          refine lv_iload hx hb dX9_number_42 (lv_at hl 1 rfl) ?_
          refine lv_sipush (v := 9999) hx hb dX9_number_44 (by decide) ?_
          refine lv_icmp_le (tgt := 55) hx hb dX9_number_47 (by decide) (fun c_22 => ?_) (fun c_22 => ?_)
          · skip
            have nc_22 : v8 ≤ 9999 := xn_le (a := v8) (b := 9999) (by omega) (by omega) c_22
            refine lv_bipush (v := 10) hx hb dX9_number_55 (by decide) ?_
            refine lv_iload hx hb dX9_number_57 (lv_at hl 1 rfl) ?_
            refine lv_imul hx hb dX9_number_59 ?_
            refine xl_i (y := nI (10 * v8)) (pk_mul 10 v8) ?_
            refine lv_aload_n hx hb dX9_number_60 rfl (lv_at hl 3 rfl) ?_
            refine xg hF kf_X9_37 hK hP 0 rfl rfl dX9_number_61 ?_
            refine lv_iload hx hb dX9_number_64 (lv_at hl 0 rfl) ?_
            refine va_iald hx hb hK hP 1 0 rfl rfl (vp_in_nI (show i < 120 by omega) (by decide)) dX9_number_66 ?_
            refine xl_i (y := tp i) (congrArg tp (nI_clamp (show i < 2 ^ 31 by omega))) ?_
            obtain ⟨z_23, ez_23, hz_230, hz_231, hz_232⟩ := st_digM hbb hK9 (show nf bb mz u9 ≤ i by omega) (show i < ne bb mz (nf bb mz u9) by show i < nx bb mz u9; omega) (by omega)
            refine xl_i (y := nI (z_23)) ez_23 ?_
            refine lv_iadd hx hb dX9_number_67 ?_
            refine xl_i (y := nI (10 * v8 + z_23)) (nI_add (10 * v8) z_23) ?_
            refine lv_bipush (v := 48) hx hb dX9_number_68 (by decide) ?_
            refine lv_isub hx hb dX9_number_70 ?_
            refine xl_i (y := nI (10 * v8 + z_23 - 48)) (pk_sub (show 48 ≤ 10 * v8 + z_23 by omega)) ?_
            refine lv_istore (lv' := [(4, .int (nI (10 * v8 + z_23 - 48))), (5, .int (nI (i))), (3, .int 1), (0, .ref h0), (1, .int p0), (2, .int p1)]) hx hb dX9_number_71 hl (by decide) rfl (fun ls hl => ?_)
            refine lv_iinc (v := nI (i + 1)) (lv' := [(5, .int (nI (i + 1))), (4, .int (nI (10 * v8 + z_23 - 48))), (3, .int 1), (0, .ref h0), (1, .int p0), (2, .int p1)]) hx hb dX9_number_73 hl (k := 1) rfl (nI_1 (i)) (by decide) rfl (fun ls hl => ?_)
            refine lv_goto (tgt := 29) hx hb dX9_number_76 (by decide) ?_
            exact ih_29 (i + 1) (10 * v8 + z_23 - 48) _ _ _ (by omega) (by omega) (by omega) (nv_put (by omega) hv8 (by omega) hz_232 (by omega)) (by omega) (hP.sub [0, 1] rfl) (hD.sub [0, 1] (by decide) rfl) hS (lv_sub hl [0, 1, 2, 3, 4, 5] rfl)
          · skip
            have nc_22 : 9999 < v8 := xn_nle (a := v8) (b := 9999) (by omega) (by omega) c_22
            refine lv_iload hx hb dX9_number_50 (lv_at hl 1 rfl) ?_
            refine lv_goto (tgt := 71) hx hb dX9_number_52 (by decide) ?_
            refine lv_istore (lv' := [(4, .int (nI (v8))), (5, .int (nI (i))), (3, .int 1), (0, .ref h0), (1, .int p0), (2, .int p1)]) hx hb dX9_number_71 hl (by decide) rfl (fun ls hl => ?_)
            refine lv_iinc (v := nI (i + 1)) (lv' := [(5, .int (nI (i + 1))), (4, .int (nI (v8))), (3, .int 1), (0, .ref h0), (1, .int p0), (2, .int p1)]) hx hb dX9_number_73 hl (k := 1) rfl (nI_1 (i)) (by decide) rfl (fun ls hl => ?_)
            refine lv_goto (tgt := 29) hx hb dX9_number_76 (by decide) ?_
            exact ih_29 (i + 1) v8 _ _ _ (by omega) (by omega) (by omega) (nv_keep (by omega) hv8 (by omega)) (by omega) (hP.sub [0, 1] rfl) (hD.sub [0, 1] (by decide) rfl) hS (lv_sub hl [0, 1, 2, 3, 4, 5] rfl)
    · skip
      refine lv_istore_n (lv' := [(3, .int 0), (0, .ref h0), (1, .int p0), (2, .int p1)]) hx hb dX9_number_19 rfl hl (by decide) rfl (fun ls hl => ?_)
      refine lv_iconst (v := 0) hx hb dX9_number_20 (by decide) ?_
      refine lv_istore (lv' := [(4, .int 0), (3, .int 0), (0, .ref h0), (1, .int p0), (2, .int p1)]) hx hb dX9_number_21 hl (by decide) rfl (fun ls hl => ?_)
      refine lv_aload_n hx hb dX9_number_23 rfl (lv_at hl 2 rfl) ?_
      refine xg hF kf_X9_254 hK hP 0 rfl rfl dX9_number_24 ?_
      refine lv_istore (lv' := [(5, .int (nI (nf bb mz u9))), (4, .int 0), (3, .int 0), (0, .ref h0), (1, .int p0), (2, .int p1)]) hx hb dX9_number_27 hl (by decide) rfl (fun ls hl => ?_)
      refine lv_iload hx hb dX9_number_29 (lv_at hl 0 rfl) ?_
      refine lv_aload_n hx hb dX9_number_31 rfl (lv_at hl 3 rfl) ?_
      refine xg hF kf_X9_251 hK hP 0 rfl rfl dX9_number_32 ?_
      refine lv_icmp_ge (tgt := 79) hx hb dX9_number_35 (by decide) (fun c_24 => ?_) (fun c_24 => ?_)
      · skip
        have nc_24 : nx bb mz u9 ≤ nf bb mz u9 := xn_le (a := (nx bb mz u9)) (b := (nf bb mz u9)) (by omega) (by omega) c_24
        refine lv_aload_n hx hb dX9_number_79 rfl (lv_at hl 3 rfl) ?_
        refine lv_iload hx hb dX9_number_80 (lv_at hl 1 rfl) ?_
        refine xp hF kf_X9_275 tyX9_ok nmX9 hK hP hD hS 0 rfl rfl rfl rfl (Nat.le_of_ble_eq_true rfl) dX9_number_82 (fun H locs hP hD hS => ?_)
        have hP : va_P D vwCl [(h0, .inr (9, [.ref ys, .ref yk, .ref yo, .ref yt, .int mk0, .ref yfa, .ref yfe, .int mL, .int mS, .int mM, .ref yro, .ref yhe, .ref ygr, .int mF, .int mC, .int mY, .ref yta, .int (nI (mz)), .int (nI (nf bb mz u9)), .int (nI (nx bb mz u9)), .int 0, .int 0, .ref ywa, .ref ybi, .ref ysi, .ref ynu, .ref ymo])), (yta, .inl (cI, 120, .inl tp))] H := hP
        have hD : va_D A [(h0, .inr (9, [.ref ys, .ref yk, .ref yo, .ref yt, .int mk0, .ref yfa, .ref yfe, .int mL, .int mS, .int mM, .ref yro, .ref yhe, .ref ygr, .int mF, .int mC, .int mY, .ref yta, .int (nI (mz)), .int (nI (nf bb mz u9)), .int (nI (nx bb mz u9)), .int 0, .int 0, .ref ywa, .ref ybi, .ref ysi, .ref ynu, .ref ymo])), (yta, .inl (cI, 120, .inl tp))] := hD
        refine lv_aload_n hx hb dX9_number_85 rfl (lv_at hl 3 rfl) ?_
        refine lv_iload_n hx hb dX9_number_86 rfl (lv_at hl 2 rfl) ?_
        refine lv_if_eq (tgt := 107) hx hb dX9_number_87 (by decide) (fun c_25 => ?_) (fun c_25 => absurd (by decide) c_25)
        refine lv_iconst (v := 0) hx hb dX9_number_107 (by decide) ?_
        refine xc_Vv (wr := []) hF (c_X9_needs0 l D cI cJ cZ cS ta sa sv H.size h0 ys yk yo yt mk0 yfa yfe mL mS mM yro yhe ygr mF mC mY yta mz 0 ywa ybi ysi ynu ymo tp u9 bb (by omega) hbb (by omega)) kv_X9_278 ⟨rfl, rfl, Nat.le_of_ble_eq_true rfl, Nat.le_of_ble_eq_true rfl⟩ ⟨Nat.le_of_ble_eq_true rfl, Nat.le_of_ble_eq_true rfl⟩ hK hN hZ hP hD hS hA [0, 1] [] rfl rfl rfl rfl (by decide) 0 rfl rfl rfl rfl hl.1 rfl (Nat.le_of_ble_eq_true rfl) dX9_number_108 (fun u_r_26 H locs hw_r_26 hP hD hS => ?_)
        have hP : va_P D vwCl [(h0, .inr (9, [.ref ys, .ref yk, .ref yo, .ref yt, .int mk0, .ref yfa, .ref yfe, .int mL, .int mS, .int mM, .ref yro, .ref yhe, .ref ygr, .int mF, .int mC, .int mY, .ref yta, .int (nI (mz)), .int (nI (nf bb mz u9)), .int (nI (nx bb mz u9)), .int 0, .int 1, .ref ywa, .ref ybi, .ref ysi, .ref ynu, .ref ymo])), (yta, .inl (cI, 120, .inl tp))] H := hP
        have hD : va_D A [(h0, .inr (9, [.ref ys, .ref yk, .ref yo, .ref yt, .int mk0, .ref yfa, .ref yfe, .int mL, .int mS, .int mM, .ref yro, .ref yhe, .ref ygr, .int mF, .int mC, .int mY, .ref yta, .int (nI (mz)), .int (nI (nf bb mz u9)), .int (nI (nx bb mz u9)), .int 0, .int 1, .ref ywa, .ref ybi, .ref ysi, .ref ynu, .ref ymo])), (yta, .inl (cI, 120, .inl tp))] := hD
        exact W.vret hx hb hr (fun t ht hW => ⟨⟨(u9, 1, 0), rfl, ⟨Or.inr ⟨fun h => (kd_nD h_8) h.1, rfl, rfl⟩, (by first | assumption | omega), (by first | assumption | omega)⟩, by rw [ht]; exact hP.sub [0, 1] rfl, hD.sub [0, 1] (by decide) rfl⟩, hS.F ht⟩) hS.2.2 dX9_number_111 hlk
      · skip
        have nc_24 : nf bb mz u9 < nx bb mz u9 := xn_nle (a := (nx bb mz u9)) (b := (nf bb mz u9)) (by omega) (by omega) c_24
        refine lv_iload_n hx hb dX9_number_38 rfl (lv_at hl 2 rfl) ?_
        refine lv_if_eq (tgt := 79) hx hb dX9_number_39 (by decide) (fun c_27 => ?_) (fun c_27 => absurd (by decide) c_27)
        refine lv_aload_n hx hb dX9_number_79 rfl (lv_at hl 3 rfl) ?_
        refine lv_iload hx hb dX9_number_80 (lv_at hl 1 rfl) ?_
        refine xp hF kf_X9_275 tyX9_ok nmX9 hK hP hD hS 0 rfl rfl rfl rfl (Nat.le_of_ble_eq_true rfl) dX9_number_82 (fun H locs hP hD hS => ?_)
        have hP : va_P D vwCl [(h0, .inr (9, [.ref ys, .ref yk, .ref yo, .ref yt, .int mk0, .ref yfa, .ref yfe, .int mL, .int mS, .int mM, .ref yro, .ref yhe, .ref ygr, .int mF, .int mC, .int mY, .ref yta, .int (nI (mz)), .int (nI (nf bb mz u9)), .int (nI (nx bb mz u9)), .int 0, .int 0, .ref ywa, .ref ybi, .ref ysi, .ref ynu, .ref ymo])), (yta, .inl (cI, 120, .inl tp))] H := hP
        have hD : va_D A [(h0, .inr (9, [.ref ys, .ref yk, .ref yo, .ref yt, .int mk0, .ref yfa, .ref yfe, .int mL, .int mS, .int mM, .ref yro, .ref yhe, .ref ygr, .int mF, .int mC, .int mY, .ref yta, .int (nI (mz)), .int (nI (nf bb mz u9)), .int (nI (nx bb mz u9)), .int 0, .int 0, .ref ywa, .ref ybi, .ref ysi, .ref ynu, .ref ymo])), (yta, .inl (cI, 120, .inl tp))] := hD
        refine lv_aload_n hx hb dX9_number_85 rfl (lv_at hl 3 rfl) ?_
        refine lv_iload_n hx hb dX9_number_86 rfl (lv_at hl 2 rfl) ?_
        refine lv_if_eq (tgt := 107) hx hb dX9_number_87 (by decide) (fun c_28 => ?_) (fun c_28 => absurd (by decide) c_28)
        refine lv_iconst (v := 0) hx hb dX9_number_107 (by decide) ?_
        refine xc_Vv (wr := []) hF (c_X9_needs0 l D cI cJ cZ cS ta sa sv H.size h0 ys yk yo yt mk0 yfa yfe mL mS mM yro yhe ygr mF mC mY yta mz 0 ywa ybi ysi ynu ymo tp u9 bb (by omega) hbb (by omega)) kv_X9_278 ⟨rfl, rfl, Nat.le_of_ble_eq_true rfl, Nat.le_of_ble_eq_true rfl⟩ ⟨Nat.le_of_ble_eq_true rfl, Nat.le_of_ble_eq_true rfl⟩ hK hN hZ hP hD hS hA [0, 1] [] rfl rfl rfl rfl (by decide) 0 rfl rfl rfl rfl hl.1 rfl (Nat.le_of_ble_eq_true rfl) dX9_number_108 (fun u_r_29 H locs hw_r_29 hP hD hS => ?_)
        have hP : va_P D vwCl [(h0, .inr (9, [.ref ys, .ref yk, .ref yo, .ref yt, .int mk0, .ref yfa, .ref yfe, .int mL, .int mS, .int mM, .ref yro, .ref yhe, .ref ygr, .int mF, .int mC, .int mY, .ref yta, .int (nI (mz)), .int (nI (nf bb mz u9)), .int (nI (nx bb mz u9)), .int 0, .int 1, .ref ywa, .ref ybi, .ref ysi, .ref ynu, .ref ymo])), (yta, .inl (cI, 120, .inl tp))] H := hP
        have hD : va_D A [(h0, .inr (9, [.ref ys, .ref yk, .ref yo, .ref yt, .int mk0, .ref yfa, .ref yfe, .int mL, .int mS, .int mM, .ref yro, .ref yhe, .ref ygr, .int mF, .int mC, .int mY, .ref yta, .int (nI (mz)), .int (nI (nf bb mz u9)), .int (nI (nx bb mz u9)), .int 0, .int 1, .ref ywa, .ref ybi, .ref ysi, .ref ynu, .ref ymo])), (yta, .inl (cI, 120, .inl tp))] := hD
        exact W.vret hx hb hr (fun t ht hW => ⟨⟨(u9, 1, 0), rfl, ⟨Or.inr ⟨fun h => (kd_nD h_8) h.1, rfl, rfl⟩, (by first | assumption | omega), (by first | assumption | omega)⟩, by rw [ht]; exact hP.sub [0, 1] rfl, hD.sub [0, 1] (by decide) rfl⟩, hS.F ht⟩) hS.2.2 dX9_number_111 hlk
  · skip
    refine xc_Sr hF (c_X9_isDigitM l D cI cJ cZ cS ta sa sv s.heap.size  ) ks_X9_263 ⟨rfl, rfl, Nat.le_of_ble_eq_true rfl, Nat.le_of_ble_eq_true rfl⟩ ⟨Nat.le_of_ble_eq_true rfl, Nat.le_of_ble_eq_true rfl⟩ hK hN hZ hP hD hS hA [] rfl rfl rfl hl.1 rfl (Nat.le_of_ble_eq_true rfl) dX9_number_16 (fun r_30 hw_r_30 => ?_)
    subst hw_r_30
    refine lv_istore_n (lv' := [(3, .int 0), (0, .ref h0), (1, .int p0), (2, .int p1)]) hx hb dX9_number_19 rfl hl (by decide) rfl (fun ls hl => ?_)
    refine lv_iconst (v := 0) hx hb dX9_number_20 (by decide) ?_
    refine lv_istore (lv' := [(4, .int 0), (3, .int 0), (0, .ref h0), (1, .int p0), (2, .int p1)]) hx hb dX9_number_21 hl (by decide) rfl (fun ls hl => ?_)
    refine lv_aload_n hx hb dX9_number_23 rfl (lv_at hl 2 rfl) ?_
    refine xg hF kf_X9_254 hK hP 0 rfl rfl dX9_number_24 ?_
    refine lv_istore (lv' := [(5, .int (nI (nf bb mz u9))), (4, .int 0), (3, .int 0), (0, .ref h0), (1, .int p0), (2, .int p1)]) hx hb dX9_number_27 hl (by decide) rfl (fun ls hl => ?_)
    refine lv_iload hx hb dX9_number_29 (lv_at hl 0 rfl) ?_
    refine lv_aload_n hx hb dX9_number_31 rfl (lv_at hl 3 rfl) ?_
    refine xg hF kf_X9_251 hK hP 0 rfl rfl dX9_number_32 ?_
    refine lv_icmp_ge (tgt := 79) hx hb dX9_number_35 (by decide) (fun c_31 => ?_) (fun c_31 => ?_)
    · skip
      have nc_31 : nx bb mz u9 ≤ nf bb mz u9 := xn_le (a := (nx bb mz u9)) (b := (nf bb mz u9)) (by omega) (by omega) c_31
      refine lv_aload_n hx hb dX9_number_79 rfl (lv_at hl 3 rfl) ?_
      refine lv_iload hx hb dX9_number_80 (lv_at hl 1 rfl) ?_
      refine xp hF kf_X9_275 tyX9_ok nmX9 hK hP hD hS 0 rfl rfl rfl rfl (Nat.le_of_ble_eq_true rfl) dX9_number_82 (fun H locs hP hD hS => ?_)
      have hP : va_P D vwCl [(h0, .inr (9, [.ref ys, .ref yk, .ref yo, .ref yt, .int mk0, .ref yfa, .ref yfe, .int mL, .int mS, .int mM, .ref yro, .ref yhe, .ref ygr, .int mF, .int mC, .int mY, .ref yta, .int (nI (mz)), .int (nI (nf bb mz u9)), .int (nI (nx bb mz u9)), .int 0, .int 0, .ref ywa, .ref ybi, .ref ysi, .ref ynu, .ref ymo])), (yta, .inl (cI, 120, .inl tp))] H := hP
      have hD : va_D A [(h0, .inr (9, [.ref ys, .ref yk, .ref yo, .ref yt, .int mk0, .ref yfa, .ref yfe, .int mL, .int mS, .int mM, .ref yro, .ref yhe, .ref ygr, .int mF, .int mC, .int mY, .ref yta, .int (nI (mz)), .int (nI (nf bb mz u9)), .int (nI (nx bb mz u9)), .int 0, .int 0, .ref ywa, .ref ybi, .ref ysi, .ref ynu, .ref ymo])), (yta, .inl (cI, 120, .inl tp))] := hD
      refine lv_aload_n hx hb dX9_number_85 rfl (lv_at hl 3 rfl) ?_
      refine lv_iload_n hx hb dX9_number_86 rfl (lv_at hl 2 rfl) ?_
      refine lv_if_eq (tgt := 107) hx hb dX9_number_87 (by decide) (fun c_32 => ?_) (fun c_32 => absurd (by decide) c_32)
      refine lv_iconst (v := 0) hx hb dX9_number_107 (by decide) ?_
      refine xc_Vv (wr := []) hF (c_X9_needs0 l D cI cJ cZ cS ta sa sv H.size h0 ys yk yo yt mk0 yfa yfe mL mS mM yro yhe ygr mF mC mY yta mz 0 ywa ybi ysi ynu ymo tp u9 bb (by omega) hbb (by omega)) kv_X9_278 ⟨rfl, rfl, Nat.le_of_ble_eq_true rfl, Nat.le_of_ble_eq_true rfl⟩ ⟨Nat.le_of_ble_eq_true rfl, Nat.le_of_ble_eq_true rfl⟩ hK hN hZ hP hD hS hA [0, 1] [] rfl rfl rfl rfl (by decide) 0 rfl rfl rfl rfl hl.1 rfl (Nat.le_of_ble_eq_true rfl) dX9_number_108 (fun u_r_33 H locs hw_r_33 hP hD hS => ?_)
      have hP : va_P D vwCl [(h0, .inr (9, [.ref ys, .ref yk, .ref yo, .ref yt, .int mk0, .ref yfa, .ref yfe, .int mL, .int mS, .int mM, .ref yro, .ref yhe, .ref ygr, .int mF, .int mC, .int mY, .ref yta, .int (nI (mz)), .int (nI (nf bb mz u9)), .int (nI (nx bb mz u9)), .int 0, .int 1, .ref ywa, .ref ybi, .ref ysi, .ref ynu, .ref ymo])), (yta, .inl (cI, 120, .inl tp))] H := hP
      have hD : va_D A [(h0, .inr (9, [.ref ys, .ref yk, .ref yo, .ref yt, .int mk0, .ref yfa, .ref yfe, .int mL, .int mS, .int mM, .ref yro, .ref yhe, .ref ygr, .int mF, .int mC, .int mY, .ref yta, .int (nI (mz)), .int (nI (nf bb mz u9)), .int (nI (nx bb mz u9)), .int 0, .int 1, .ref ywa, .ref ybi, .ref ysi, .ref ynu, .ref ymo])), (yta, .inl (cI, 120, .inl tp))] := hD
      exact W.vret hx hb hr (fun t ht hW => ⟨⟨(u9, 1, 0), rfl, ⟨Or.inr ⟨fun h => (kd_nz (by omega)) h.1, rfl, rfl⟩, (by first | assumption | omega), (by first | assumption | omega)⟩, by rw [ht]; exact hP.sub [0, 1] rfl, hD.sub [0, 1] (by decide) rfl⟩, hS.F ht⟩) hS.2.2 dX9_number_111 hlk
    · skip
      have nc_31 : nf bb mz u9 < nx bb mz u9 := xn_nle (a := (nx bb mz u9)) (b := (nf bb mz u9)) (by omega) (by omega) c_31
      refine lv_iload_n hx hb dX9_number_38 rfl (lv_at hl 2 rfl) ?_
      refine lv_if_eq (tgt := 79) hx hb dX9_number_39 (by decide) (fun c_34 => ?_) (fun c_34 => absurd (by decide) c_34)
      refine lv_aload_n hx hb dX9_number_79 rfl (lv_at hl 3 rfl) ?_
      refine lv_iload hx hb dX9_number_80 (lv_at hl 1 rfl) ?_
      refine xp hF kf_X9_275 tyX9_ok nmX9 hK hP hD hS 0 rfl rfl rfl rfl (Nat.le_of_ble_eq_true rfl) dX9_number_82 (fun H locs hP hD hS => ?_)
      have hP : va_P D vwCl [(h0, .inr (9, [.ref ys, .ref yk, .ref yo, .ref yt, .int mk0, .ref yfa, .ref yfe, .int mL, .int mS, .int mM, .ref yro, .ref yhe, .ref ygr, .int mF, .int mC, .int mY, .ref yta, .int (nI (mz)), .int (nI (nf bb mz u9)), .int (nI (nx bb mz u9)), .int 0, .int 0, .ref ywa, .ref ybi, .ref ysi, .ref ynu, .ref ymo])), (yta, .inl (cI, 120, .inl tp))] H := hP
      have hD : va_D A [(h0, .inr (9, [.ref ys, .ref yk, .ref yo, .ref yt, .int mk0, .ref yfa, .ref yfe, .int mL, .int mS, .int mM, .ref yro, .ref yhe, .ref ygr, .int mF, .int mC, .int mY, .ref yta, .int (nI (mz)), .int (nI (nf bb mz u9)), .int (nI (nx bb mz u9)), .int 0, .int 0, .ref ywa, .ref ybi, .ref ysi, .ref ynu, .ref ymo])), (yta, .inl (cI, 120, .inl tp))] := hD
      refine lv_aload_n hx hb dX9_number_85 rfl (lv_at hl 3 rfl) ?_
      refine lv_iload_n hx hb dX9_number_86 rfl (lv_at hl 2 rfl) ?_
      refine lv_if_eq (tgt := 107) hx hb dX9_number_87 (by decide) (fun c_35 => ?_) (fun c_35 => absurd (by decide) c_35)
      refine lv_iconst (v := 0) hx hb dX9_number_107 (by decide) ?_
      refine xc_Vv (wr := []) hF (c_X9_needs0 l D cI cJ cZ cS ta sa sv H.size h0 ys yk yo yt mk0 yfa yfe mL mS mM yro yhe ygr mF mC mY yta mz 0 ywa ybi ysi ynu ymo tp u9 bb (by omega) hbb (by omega)) kv_X9_278 ⟨rfl, rfl, Nat.le_of_ble_eq_true rfl, Nat.le_of_ble_eq_true rfl⟩ ⟨Nat.le_of_ble_eq_true rfl, Nat.le_of_ble_eq_true rfl⟩ hK hN hZ hP hD hS hA [0, 1] [] rfl rfl rfl rfl (by decide) 0 rfl rfl rfl rfl hl.1 rfl (Nat.le_of_ble_eq_true rfl) dX9_number_108 (fun u_r_36 H locs hw_r_36 hP hD hS => ?_)
      have hP : va_P D vwCl [(h0, .inr (9, [.ref ys, .ref yk, .ref yo, .ref yt, .int mk0, .ref yfa, .ref yfe, .int mL, .int mS, .int mM, .ref yro, .ref yhe, .ref ygr, .int mF, .int mC, .int mY, .ref yta, .int (nI (mz)), .int (nI (nf bb mz u9)), .int (nI (nx bb mz u9)), .int 0, .int 1, .ref ywa, .ref ybi, .ref ysi, .ref ynu, .ref ymo])), (yta, .inl (cI, 120, .inl tp))] H := hP
      have hD : va_D A [(h0, .inr (9, [.ref ys, .ref yk, .ref yo, .ref yt, .int mk0, .ref yfa, .ref yfe, .int mL, .int mS, .int mM, .ref yro, .ref yhe, .ref ygr, .int mF, .int mC, .int mY, .ref yta, .int (nI (mz)), .int (nI (nf bb mz u9)), .int (nI (nx bb mz u9)), .int 0, .int 1, .ref ywa, .ref ybi, .ref ysi, .ref ynu, .ref ymo])), (yta, .inl (cI, 120, .inl tp))] := hD
      exact W.vret hx hb hr (fun t ht hW => ⟨⟨(u9, 1, 0), rfl, ⟨Or.inr ⟨fun h => (kd_nz (by omega)) h.1, rfl, rfl⟩, (by first | assumption | omega), (by first | assumption | omega)⟩, by rw [ht]; exact hP.sub [0, 1] rfl, hD.sub [0, 1] (by decide) rfl⟩, hS.F ht⟩) hS.2.2 dX9_number_111 hlk
set_option maxHeartbeats 4000000 in
set_option maxRecDepth 100000 in
theorem c_X9_mileW (l : Launch) (D : va_G) (cI cJ cZ cS : ClassId) (ta : Nat) (sa sv : Nat → Nat) (sz : Nat) (h0 : Nat) (ys : Nat) (yk : Nat) (yo : Nat) (yt : Nat) (mk0 : Int32) (yfa : Nat) (yfe : Nat) (mL : Int32) (mS : Int32) (mM : Int32) (yro : Nat) (yhe : Nat) (ygr : Nat) (mF : Int32) (mC : Int32) (mY : Int32) (yta : Nat) (mz : Nat) (mv : Int32) (ywa : Nat) (ybi : Nat) (ysi : Nat) (ynu : Nat) (ymo : Nat) (tp : Nat → Int32) (p0 : Int32) (p1 : Int32) (u9 : Nat) (bb : Nat → Int32) (hz : mz ≤ 120) (hbb : bA tp mz = bb) (hu9 : u9 ≤ mz) : Met l yX9_mile (Cond.code yX9_mile cX9_mile 4 none :: wsU) ({ frames := 1, cells := 0, slots := 0, locals := 25 }) (va_Pc [.ref h0, .int p0, .int p1] (XW D (xT cI cJ cZ cS) ta sa sv [(h0, .inr (9, [.ref ys, .ref yk, .ref yo, .ref yt, .int mk0, .ref yfa, .ref yfe, .int mL, .int mS, .int mM, .ref yro, .ref yhe, .ref ygr, .int mF, .int mC, .int mY, .ref yta, .int (nI (mz)), .int (nI (nf bb mz u9)), .int (nI (nx bb mz u9)), .int mv, .int 1, .ref ywa, .ref ybi, .ref ysi, .ref ynu, .ref ymo])), (yta, .inl (cI, 120, .inl tp))] sz)) (XQv (fun (_ : Unit) => True) D (fun _ : Unit => [(h0, .inr (9, [.ref ys, .ref yk, .ref yo, .ref yt, .int mk0, .ref yfa, .ref yfe, .int mL, .int mS, .int mM, .ref yro, .ref yhe, .ref ygr, .int mF, .int mC, .int mY, .ref yta, .int (nI (mz)), .int (nI (nf bb mz u9)), .int (nI (nx bb mz u9)), .int mv, .int 1, .ref ywa, .ref ybi, .ref ysi, .ref ynu, .ref ymo])), (yta, .inl (cI, 120, .inl tp))]) (va_A [(h0, .inr (9, [.ref ys, .ref yk, .ref yo, .ref yt, .int mk0, .ref yfa, .ref yfe, .int mL, .int mS, .int mM, .ref yro, .ref yhe, .ref ygr, .int mF, .int mC, .int mY, .ref yta, .int (nI (mz)), .int (nI (nf bb mz u9)), .int (nI (nx bb mz u9)), .int mv, .int 1, .ref ywa, .ref ybi, .ref ysi, .ref ynu, .ref ymo])), (yta, .inl (cI, 120, .inl tp))] sz)) 0 0 (va_A [(h0, .inr (9, [.ref ys, .ref yk, .ref yo, .ref yt, .int mk0, .ref yfa, .ref yfe, .int mL, .int mS, .int mM, .ref yro, .ref yhe, .ref ygr, .int mF, .int mC, .int mY, .ref yta, .int (nI (mz)), .int (nI (nf bb mz u9)), .int (nI (nx bb mz u9)), .int mv, .int 1, .ref ywa, .ref ybi, .ref ysi, .ref ynu, .ref ymo])), (yta, .inl (cI, 120, .inl tp))] sz) := by
  refine xh (QA := fun A => XQv (fun (_ : Unit) => True) D (fun _ : Unit => [(h0, .inr (9, [.ref ys, .ref yk, .ref yo, .ref yt, .int mk0, .ref yfa, .ref yfe, .int mL, .int mS, .int mM, .ref yro, .ref yhe, .ref ygr, .int mF, .int mC, .int mY, .ref yta, .int (nI (mz)), .int (nI (nf bb mz u9)), .int (nI (nx bb mz u9)), .int mv, .int 1, .ref ywa, .ref ybi, .ref ysi, .ref ynu, .ref ymo])), (yta, .inl (cI, 120, .inl tp))]) A) (fr := fun A => A) (by decide) (Nat.le_of_ble_eq_true rfl) ?_
  intro p e s m below meth c ls A hF hr hlk hin hsz hP hK hD hN hZ hA hS hl
  have hF : CallFix p m c cX9_mile 4 s _ _ RX9 := hF
  have hx := hF.1
  have hb := hF.2.1
  have hml := hF.2.2.1
  have hown := hF.2.2.2.1
  have hu : ∀ w ∈ wsU, w.before _ s = true := fun w h => hF.2.2.2.2 w (List.mem_cons_of_mem _ h)
  have hl : lv_has ls 4 [(0, .ref h0), (1, .int p0), (2, .int p1)] := hl
  refine lv_aload_n hx hb dX9_mile_0 rfl (lv_at hl 0 rfl) ?_
  refine xg hF kf_X9_266 hK hP 0 rfl rfl dX9_mile_1 ?_
  refine lv_if_ne (tgt := 24) hx hb dX9_mile_4 (by decide) (fun c_1 => ?_) (fun c_1 => absurd c_1 (by decide))
  refine lv_iconst (v := 0) hx hb dX9_mile_24 (by decide) ?_
  refine lv_istore_n (lv' := [(3, .int 0), (0, .ref h0), (1, .int p0), (2, .int p1)]) hx hb dX9_mile_25 rfl hl (by decide) rfl (fun ls hl => ?_)
  refine lv_iload_n hx hb dX9_mile_26 rfl (lv_at hl 0 rfl) ?_
  refine lv_if_eq (tgt := 35) hx hb dX9_mile_27 (by decide) (fun c_2 => ?_) (fun c_2 => absurd (by decide) c_2)
  refine lv_aload_n hx hb dX9_mile_35 rfl (lv_at hl 1 rfl) ?_
  refine lv_iload_n hx hb dX9_mile_36 rfl (lv_at hl 0 rfl) ?_
  refine lv_if_eq (tgt := 54) hx hb dX9_mile_37 (by decide) (fun c_3 => ?_) (fun c_3 => absurd (by decide) c_3)
  refine lv_iload_n hx hb dX9_mile_54 rfl (lv_at hl 2 rfl) ?_
  refine lv_if_ge (tgt := 62) hx hb dX9_mile_55 (by decide) (fun c_4 => ?_) (fun c_4 => ?_)
  · skip
    refine lv_iload_n hx hb dX9_mile_62 rfl (lv_at hl 2 rfl) ?_
    refine lv_iload_n hx hb dX9_mile_63 rfl (lv_at hl 0 rfl) ?_
    refine lv_if_eq (tgt := 81) hx hb dX9_mile_64 (by decide) (fun c_5 => ?_) (fun c_5 => absurd (by decide) c_5)
    refine lv_iload_n hx hb dX9_mile_81 rfl (lv_at hl 3 rfl) ?_
    refine xc_Vv (wr := []) hF (c_X9_numberW l D cI cJ cZ cS ta sa sv s.heap.size h0 ys yk yo yt mk0 yfa yfe mL mS mM yro yhe ygr mF mC mY yta mz mv ywa ybi ysi ynu ymo tp p0 p1 u9 bb (by omega) hbb (by omega)) kv_X9_282 ⟨rfl, rfl, Nat.le_of_ble_eq_true rfl, Nat.le_of_ble_eq_true rfl⟩ ⟨Nat.le_of_ble_eq_true rfl, Nat.le_of_ble_eq_true rfl⟩ hK hN hZ hP hD hS hA [0, 1] [] rfl rfl rfl rfl (by decide) 0 rfl rfl rfl rfl hl.1 rfl (Nat.le_of_ble_eq_true rfl) dX9_mile_82 (fun u_r_6 H locs hw_r_6 hP hD hS => ?_)
    have hP : va_P D vwCl [(h0, .inr (9, [.ref ys, .ref yk, .ref yo, .ref yt, .int mk0, .ref yfa, .ref yfe, .int mL, .int mS, .int mM, .ref yro, .ref yhe, .ref ygr, .int mF, .int mC, .int mY, .ref yta, .int (nI (mz)), .int (nI (nf bb mz u9)), .int (nI (nx bb mz u9)), .int mv, .int 1, .ref ywa, .ref ybi, .ref ysi, .ref ynu, .ref ymo])), (yta, .inl (cI, 120, .inl tp))] H := hP
    have hD : va_D A [(h0, .inr (9, [.ref ys, .ref yk, .ref yo, .ref yt, .int mk0, .ref yfa, .ref yfe, .int mL, .int mS, .int mM, .ref yro, .ref yhe, .ref ygr, .int mF, .int mC, .int mY, .ref yta, .int (nI (mz)), .int (nI (nf bb mz u9)), .int (nI (nx bb mz u9)), .int mv, .int 1, .ref ywa, .ref ybi, .ref ysi, .ref ynu, .ref ymo])), (yta, .inl (cI, 120, .inl tp))] := hD
    refine lv_aload_n hx hb dX9_mile_85 rfl (lv_at hl 1 rfl) ?_
    refine lv_iload_n hx hb dX9_mile_86 rfl (lv_at hl 0 rfl) ?_
    refine lv_if_eq (tgt := 99) hx hb dX9_mile_87 (by decide) (fun c_7 => ?_) (fun c_7 => absurd (by decide) c_7)
    refine lv_aload_n hx hb dX9_mile_99 rfl (lv_at hl 1 rfl) ?_
    refine xg hF kf_X9_275 hK hP 0 rfl rfl dX9_mile_100 ?_
    refine xp hF kf_X9_275 tyX9_ok nmX9 hK hP hD hS 0 rfl rfl rfl rfl (Nat.le_of_ble_eq_true rfl) dX9_mile_103 (fun H locs hP hD hS => ?_)
    have hP : va_P D vwCl [(h0, .inr (9, [.ref ys, .ref yk, .ref yo, .ref yt, .int mk0, .ref yfa, .ref yfe, .int mL, .int mS, .int mM, .ref yro, .ref yhe, .ref ygr, .int mF, .int mC, .int mY, .ref yta, .int (nI (mz)), .int (nI (nf bb mz u9)), .int (nI (nx bb mz u9)), .int mv, .int 1, .ref ywa, .ref ybi, .ref ysi, .ref ynu, .ref ymo])), (yta, .inl (cI, 120, .inl tp))] H := hP
    have hD : va_D A [(h0, .inr (9, [.ref ys, .ref yk, .ref yo, .ref yt, .int mk0, .ref yfa, .ref yfe, .int mL, .int mS, .int mM, .ref yro, .ref yhe, .ref ygr, .int mF, .int mC, .int mY, .ref yta, .int (nI (mz)), .int (nI (nf bb mz u9)), .int (nI (nx bb mz u9)), .int mv, .int 1, .ref ywa, .ref ybi, .ref ysi, .ref ynu, .ref ymo])), (yta, .inl (cI, 120, .inl tp))] := hD
    exact W.vret hx hb hr (fun t ht hW => ⟨⟨(), rfl, trivial, by rw [ht]; exact hP.sub [0, 1] rfl, hD.sub [0, 1] (by decide) rfl⟩, hS.F ht⟩) hS.2.2 dX9_mile_106 hlk
  · skip
    refine lv_iconst (v := 0) hx hb dX9_mile_58 (by decide) ?_
    refine lv_goto (tgt := 63) hx hb dX9_mile_59 (by decide) ?_
    refine lv_iload_n hx hb dX9_mile_63 rfl (lv_at hl 0 rfl) ?_
    refine lv_if_eq (tgt := 81) hx hb dX9_mile_64 (by decide) (fun c_8 => ?_) (fun c_8 => absurd (by decide) c_8)
    refine lv_iload_n hx hb dX9_mile_81 rfl (lv_at hl 3 rfl) ?_
    refine xc_Vv (wr := []) hF (c_X9_numberW l D cI cJ cZ cS ta sa sv s.heap.size h0 ys yk yo yt mk0 yfa yfe mL mS mM yro yhe ygr mF mC mY yta mz mv ywa ybi ysi ynu ymo tp 0 p1 u9 bb (by omega) hbb (by omega)) kv_X9_282 ⟨rfl, rfl, Nat.le_of_ble_eq_true rfl, Nat.le_of_ble_eq_true rfl⟩ ⟨Nat.le_of_ble_eq_true rfl, Nat.le_of_ble_eq_true rfl⟩ hK hN hZ hP hD hS hA [0, 1] [] rfl rfl rfl rfl (by decide) 0 rfl rfl rfl rfl hl.1 rfl (Nat.le_of_ble_eq_true rfl) dX9_mile_82 (fun u_r_9 H locs hw_r_9 hP hD hS => ?_)
    have hP : va_P D vwCl [(h0, .inr (9, [.ref ys, .ref yk, .ref yo, .ref yt, .int mk0, .ref yfa, .ref yfe, .int mL, .int mS, .int mM, .ref yro, .ref yhe, .ref ygr, .int mF, .int mC, .int mY, .ref yta, .int (nI (mz)), .int (nI (nf bb mz u9)), .int (nI (nx bb mz u9)), .int mv, .int 1, .ref ywa, .ref ybi, .ref ysi, .ref ynu, .ref ymo])), (yta, .inl (cI, 120, .inl tp))] H := hP
    have hD : va_D A [(h0, .inr (9, [.ref ys, .ref yk, .ref yo, .ref yt, .int mk0, .ref yfa, .ref yfe, .int mL, .int mS, .int mM, .ref yro, .ref yhe, .ref ygr, .int mF, .int mC, .int mY, .ref yta, .int (nI (mz)), .int (nI (nf bb mz u9)), .int (nI (nx bb mz u9)), .int mv, .int 1, .ref ywa, .ref ybi, .ref ysi, .ref ynu, .ref ymo])), (yta, .inl (cI, 120, .inl tp))] := hD
    refine lv_aload_n hx hb dX9_mile_85 rfl (lv_at hl 1 rfl) ?_
    refine lv_iload_n hx hb dX9_mile_86 rfl (lv_at hl 0 rfl) ?_
    refine lv_if_eq (tgt := 99) hx hb dX9_mile_87 (by decide) (fun c_10 => ?_) (fun c_10 => absurd (by decide) c_10)
    refine lv_aload_n hx hb dX9_mile_99 rfl (lv_at hl 1 rfl) ?_
    refine xg hF kf_X9_275 hK hP 0 rfl rfl dX9_mile_100 ?_
    refine xp hF kf_X9_275 tyX9_ok nmX9 hK hP hD hS 0 rfl rfl rfl rfl (Nat.le_of_ble_eq_true rfl) dX9_mile_103 (fun H locs hP hD hS => ?_)
    have hP : va_P D vwCl [(h0, .inr (9, [.ref ys, .ref yk, .ref yo, .ref yt, .int mk0, .ref yfa, .ref yfe, .int mL, .int mS, .int mM, .ref yro, .ref yhe, .ref ygr, .int mF, .int mC, .int mY, .ref yta, .int (nI (mz)), .int (nI (nf bb mz u9)), .int (nI (nx bb mz u9)), .int mv, .int 1, .ref ywa, .ref ybi, .ref ysi, .ref ynu, .ref ymo])), (yta, .inl (cI, 120, .inl tp))] H := hP
    have hD : va_D A [(h0, .inr (9, [.ref ys, .ref yk, .ref yo, .ref yt, .int mk0, .ref yfa, .ref yfe, .int mL, .int mS, .int mM, .ref yro, .ref yhe, .ref ygr, .int mF, .int mC, .int mY, .ref yta, .int (nI (mz)), .int (nI (nf bb mz u9)), .int (nI (nx bb mz u9)), .int mv, .int 1, .ref ywa, .ref ybi, .ref ysi, .ref ynu, .ref ymo])), (yta, .inl (cI, 120, .inl tp))] := hD
    exact W.vret hx hb hr (fun t ht hW => ⟨⟨(), rfl, trivial, by rw [ht]; exact hP.sub [0, 1] rfl, hD.sub [0, 1] (by decide) rfl⟩, hS.F ht⟩) hS.2.2 dX9_mile_106 hlk
set_option maxHeartbeats 4000000 in
set_option maxRecDepth 100000 in
theorem c_X9_mile0 (l : Launch) (D : va_G) (cI cJ cZ cS : ClassId) (ta : Nat) (sa sv : Nat → Nat) (sz : Nat) (h0 : Nat) (ys : Nat) (yk : Nat) (yo : Nat) (yt : Nat) (mk0 : Int32) (yfa : Nat) (yfe : Nat) (mL : Int32) (mS : Int32) (mM : Int32) (yro : Nat) (yhe : Nat) (ygr : Nat) (mF : Int32) (mC : Int32) (mY : Int32) (yta : Nat) (mz : Nat) (mv : Int32) (ywa : Nat) (ybi : Nat) (ysi : Nat) (ynu : Nat) (ymo : Nat) (tp : Nat → Int32) (p0 : Int32) (p1 : Int32) (u9 : Nat) (bb : Nat → Int32) (hz : mz ≤ 120) (hbb : bA tp mz = bb) (hu9 : u9 ≤ mz) (hl1 : -9999 ≤ p0.toInt) (hl2 : p0.toInt ≤ 9999) (hh1 : 0 ≤ p1.toInt) (hh2 : p1.toInt ≤ 9999) : Met l yX9_mile (Cond.code yX9_mile cX9_mile 4 none :: wsU) ({ frames := 5, cells := 0, slots := 0, locals := 113 }) (va_Pc [.ref h0, .int p0, .int p1] (XW D (xT cI cJ cZ cS) ta sa sv [(h0, .inr (9, [.ref ys, .ref yk, .ref yo, .ref yt, .int mk0, .ref yfa, .ref yfe, .int mL, .int mS, .int mM, .ref yro, .ref yhe, .ref ygr, .int mF, .int mC, .int mY, .ref yta, .int (nI (mz)), .int (nI (nf bb mz u9)), .int (nI (nx bb mz u9)), .int mv, .int 0, .ref ywa, .ref ybi, .ref ysi, .ref ynu, .ref ymo])), (yta, .inl (cI, 120, .inl tp))] sz)) (XQv (fun (u : Nat × Int32 × Int32) => match u with | (u2, w2, v2) => (((okMi bb mz u9 p0 p1) ∧ (u2 = nx bb mz (mSt bb mz u9)) ∧ (w2 = 0) ∧ (v2 = mV bb mz u9)) ∨ ((¬ okMi bb mz u9 p0 p1) ∧ (u2 = mSt bb mz u9) ∧ (w2 = 1))) ∧ (u2 ≤ mz) ∧ (u9 ≤ u2)) D (fun (u : Nat × Int32 × Int32) => match u with | (u2, w2, v2) => [(h0, .inr (9, [.ref ys, .ref yk, .ref yo, .ref yt, .int mk0, .ref yfa, .ref yfe, .int mL, .int mS, .int mM, .ref yro, .ref yhe, .ref ygr, .int mF, .int mC, .int mY, .ref yta, .int (nI (mz)), .int (nI (nf bb mz u2)), .int (nI (nx bb mz u2)), .int v2, .int w2, .ref ywa, .ref ybi, .ref ysi, .ref ynu, .ref ymo])), (yta, .inl (cI, 120, .inl tp))]) (va_A [(h0, .inr (9, [.ref ys, .ref yk, .ref yo, .ref yt, .int mk0, .ref yfa, .ref yfe, .int mL, .int mS, .int mM, .ref yro, .ref yhe, .ref ygr, .int mF, .int mC, .int mY, .ref yta, .int (nI (mz)), .int (nI (nf bb mz u9)), .int (nI (nx bb mz u9)), .int mv, .int 0, .ref ywa, .ref ybi, .ref ysi, .ref ynu, .ref ymo])), (yta, .inl (cI, 120, .inl tp))] sz)) 0 0 (va_A [(h0, .inr (9, [.ref ys, .ref yk, .ref yo, .ref yt, .int mk0, .ref yfa, .ref yfe, .int mL, .int mS, .int mM, .ref yro, .ref yhe, .ref ygr, .int mF, .int mC, .int mY, .ref yta, .int (nI (mz)), .int (nI (nf bb mz u9)), .int (nI (nx bb mz u9)), .int mv, .int 0, .ref ywa, .ref ybi, .ref ysi, .ref ynu, .ref ymo])), (yta, .inl (cI, 120, .inl tp))] sz) := by
  refine xh (QA := fun A => XQv (fun (u : Nat × Int32 × Int32) => match u with | (u2, w2, v2) => (((okMi bb mz u9 p0 p1) ∧ (u2 = nx bb mz (mSt bb mz u9)) ∧ (w2 = 0) ∧ (v2 = mV bb mz u9)) ∨ ((¬ okMi bb mz u9 p0 p1) ∧ (u2 = mSt bb mz u9) ∧ (w2 = 1))) ∧ (u2 ≤ mz) ∧ (u9 ≤ u2)) D (fun (u : Nat × Int32 × Int32) => match u with | (u2, w2, v2) => [(h0, .inr (9, [.ref ys, .ref yk, .ref yo, .ref yt, .int mk0, .ref yfa, .ref yfe, .int mL, .int mS, .int mM, .ref yro, .ref yhe, .ref ygr, .int mF, .int mC, .int mY, .ref yta, .int (nI (mz)), .int (nI (nf bb mz u2)), .int (nI (nx bb mz u2)), .int v2, .int w2, .ref ywa, .ref ybi, .ref ysi, .ref ynu, .ref ymo])), (yta, .inl (cI, 120, .inl tp))]) A) (fr := fun A => A) (by decide) (Nat.le_of_ble_eq_true rfl) ?_
  intro p e s m below meth c ls A hF hr hlk hin hsz hP hK hD hN hZ hA hS hl
  have hF : CallFix p m c cX9_mile 4 s _ _ RX9 := hF
  have hx := hF.1
  have hb := hF.2.1
  have hml := hF.2.2.1
  have hown := hF.2.2.2.1
  have hu : ∀ w ∈ wsU, w.before _ s = true := fun w h => hF.2.2.2.2 w (List.mem_cons_of_mem _ h)
  have hl : lv_has ls 4 [(0, .ref h0), (1, .int p0), (2, .int p1)] := hl
  have htk := tk_le (b := bb) hu9
  refine lv_aload_n hx hb dX9_mile_0 rfl (lv_at hl 0 rfl) ?_
  refine xg hF kf_X9_266 hK hP 0 rfl rfl dX9_mile_1 ?_
  refine lv_if_ne (tgt := 24) hx hb dX9_mile_4 (by decide) (fun c_1 => absurd (by decide) c_1) (fun c_1 => ?_)
  refine lv_aload_n hx hb dX9_mile_7 rfl (lv_at hl 0 rfl) ?_
  refine lv_aload_n hx hb dX9_mile_8 rfl (lv_at hl 0 rfl) ?_
  refine xg hF kf_X9_254 hK hP 0 rfl rfl dX9_mile_9 ?_
  refine xc_Vr hF (c_X9_byteAt l D cI cJ cZ cS ta sa sv s.heap.size h0 ys yk yo yt mk0 yfa yfe mL mS mM yro yhe ygr mF mC mY yta mz (nf bb mz u9) (nx bb mz u9) mv 0 ywa ybi ysi ynu ymo tp (nf bb mz u9) bb (by omega) hbb (by omega)) kv_X9_257 ⟨rfl, rfl, Nat.le_of_ble_eq_true rfl, Nat.le_of_ble_eq_true rfl⟩ ⟨Nat.le_of_ble_eq_true rfl, Nat.le_of_ble_eq_true rfl⟩ hK hN hZ hP hD hS hA [0, 1] rfl rfl 0 rfl rfl rfl rfl hl.1 rfl (Nat.le_of_ble_eq_true rfl) dX9_mile_12 (fun r_2 hw_r_2 => ?_)
  rcases hw_r_2 with ⟨rfl, h_3⟩ | ⟨rfl, h_4⟩
  · skip
    refine lv_bipush (v := 45) hx hb dX9_mile_15 (by decide) ?_
    refine lv_icmp_ne (tgt := 24) hx hb dX9_mile_17 (by decide) (fun c_5 => ?_) (fun c_5 => ?_)
    · skip
      refine lv_iconst (v := 0) hx hb dX9_mile_24 (by decide) ?_
      refine lv_istore_n (lv' := [(3, .int 0), (0, .ref h0), (1, .int p0), (2, .int p1)]) hx hb dX9_mile_25 rfl hl (by decide) rfl (fun ls hl => ?_)
      refine lv_iload_n hx hb dX9_mile_26 rfl (lv_at hl 0 rfl) ?_
      refine lv_if_eq (tgt := 35) hx hb dX9_mile_27 (by decide) (fun c_6 => ?_) (fun c_6 => absurd (by decide) c_6)
      refine lv_aload_n hx hb dX9_mile_35 rfl (lv_at hl 1 rfl) ?_
      refine lv_iload_n hx hb dX9_mile_36 rfl (lv_at hl 0 rfl) ?_
      refine lv_if_eq (tgt := 54) hx hb dX9_mile_37 (by decide) (fun c_7 => ?_) (fun c_7 => absurd (by decide) c_7)
      refine lv_iload_n hx hb dX9_mile_54 rfl (lv_at hl 2 rfl) ?_
      refine lv_if_ge (tgt := 62) hx hb dX9_mile_55 (by decide) (fun c_8 => ?_) (fun c_8 => ?_)
      · skip
        refine lv_iload_n hx hb dX9_mile_62 rfl (lv_at hl 2 rfl) ?_
        refine lv_iload_n hx hb dX9_mile_63 rfl (lv_at hl 0 rfl) ?_
        refine lv_if_eq (tgt := 81) hx hb dX9_mile_64 (by decide) (fun c_9 => ?_) (fun c_9 => absurd (by decide) c_9)
        refine lv_iload_n hx hb dX9_mile_81 rfl (lv_at hl 3 rfl) ?_
        refine xc_Vv (wr := []) hF (c_X9_number0 l D cI cJ cZ cS ta sa sv s.heap.size h0 ys yk yo yt mk0 yfa yfe mL mS mM yro yhe ygr mF mC mY yta mz mv ywa ybi ysi ynu ymo tp p0 p1 u9 bb (by omega) hbb (by omega)) kv_X9_282 ⟨rfl, rfl, Nat.le_of_ble_eq_true rfl, Nat.le_of_ble_eq_true rfl⟩ ⟨Nat.le_of_ble_eq_true rfl, Nat.le_of_ble_eq_true rfl⟩ hK hN hZ hP hD hS hA [0, 1] [] rfl rfl rfl rfl (by decide) 0 rfl rfl rfl rfl hl.1 rfl (Nat.le_of_ble_eq_true rfl) dX9_mile_82 (fun u_r_10 H locs hw_r_10 hP hD hS => ?_)
        obtain ⟨u2_11, w2_12, v2_13⟩ := u_r_10
        try dsimp only at hw_r_10
        obtain ⟨hw_r_10, i_14, i_15⟩ := hw_r_10
        have hP : va_P D vwCl [(h0, .inr (9, [.ref ys, .ref yk, .ref yo, .ref yt, .int mk0, .ref yfa, .ref yfe, .int mL, .int mS, .int mM, .ref yro, .ref yhe, .ref ygr, .int mF, .int mC, .int mY, .ref yta, .int (nI (mz)), .int (nI (nf bb mz u2_11)), .int (nI (nx bb mz u2_11)), .int v2_13, .int w2_12, .ref ywa, .ref ybi, .ref ysi, .ref ynu, .ref ymo])), (yta, .inl (cI, 120, .inl tp))] H := hP
        have hD : va_D A [(h0, .inr (9, [.ref ys, .ref yk, .ref yo, .ref yt, .int mk0, .ref yfa, .ref yfe, .int mL, .int mS, .int mM, .ref yro, .ref yhe, .ref ygr, .int mF, .int mC, .int mY, .ref yta, .int (nI (mz)), .int (nI (nf bb mz u2_11)), .int (nI (nx bb mz u2_11)), .int v2_13, .int w2_12, .ref ywa, .ref ybi, .ref ysi, .ref ynu, .ref ymo])), (yta, .inl (cI, 120, .inl tp))] := hD
        rcases hw_r_10 with ⟨h_16, h_17, h_18, h_19⟩ | ⟨h_20, h_21, h_22⟩
        · skip
          subst h_17
          subst h_18
          subst h_19
          refine lv_aload_n hx hb dX9_mile_85 rfl (lv_at hl 1 rfl) ?_
          refine lv_iload_n hx hb dX9_mile_86 rfl (lv_at hl 0 rfl) ?_
          refine lv_if_eq (tgt := 99) hx hb dX9_mile_87 (by decide) (fun c_23 => ?_) (fun c_23 => absurd (by decide) c_23)
          refine lv_aload_n hx hb dX9_mile_99 rfl (lv_at hl 1 rfl) ?_
          refine xg hF kf_X9_275 hK hP 0 rfl rfl dX9_mile_100 ?_
          refine xp hF kf_X9_275 tyX9_ok nmX9 hK hP hD hS 0 rfl rfl rfl rfl (Nat.le_of_ble_eq_true rfl) dX9_mile_103 (fun H locs hP hD hS => ?_)
          have hP : va_P D vwCl [(h0, .inr (9, [.ref ys, .ref yk, .ref yo, .ref yt, .int mk0, .ref yfa, .ref yfe, .int mL, .int mS, .int mM, .ref yro, .ref yhe, .ref ygr, .int mF, .int mC, .int mY, .ref yta, .int (nI (mz)), .int (nI (nf bb mz (nx bb mz u9))), .int (nI (nx bb mz (nx bb mz u9))), .int (nI (num bb (nf bb mz u9) (nx bb mz u9))), .int 0, .ref ywa, .ref ybi, .ref ysi, .ref ynu, .ref ymo])), (yta, .inl (cI, 120, .inl tp))] H := hP
          have hD : va_D A [(h0, .inr (9, [.ref ys, .ref yk, .ref yo, .ref yt, .int mk0, .ref yfa, .ref yfe, .int mL, .int mS, .int mM, .ref yro, .ref yhe, .ref ygr, .int mF, .int mC, .int mY, .ref yta, .int (nI (mz)), .int (nI (nf bb mz (nx bb mz u9))), .int (nI (nx bb mz (nx bb mz u9))), .int (nI (num bb (nf bb mz u9) (nx bb mz u9))), .int 0, .ref ywa, .ref ybi, .ref ysi, .ref ynu, .ref ymo])), (yta, .inl (cI, 120, .inl tp))] := hD
          have hK8 : ¬ kd bb mz (nf bb mz u9) = 4 := (kd_nmin c_5)
          have hI8 := ml_pos (hi := p1) hK8 hl2 hh1 hh2 (x_max0a c_8)
          exact W.vret hx hb hr (fun t ht hW => ⟨⟨(nx bb mz u9, 0, nI (num bb (nf bb mz u9) (nx bb mz u9))), rfl, ⟨Or.inl ⟨hI8.mp h_16, (by unfold mSt; rw [if_neg hK8]), rfl, ml_posV hK8 hh2 (hI8.mp h_16)⟩, (by first | assumption | omega), (by first | assumption | omega)⟩, by rw [ht]; exact hP.sub [0, 1] rfl, hD.sub [0, 1] (by decide) rfl⟩, hS.F ht⟩) hS.2.2 dX9_mile_106 hlk
        · skip
          replace h_21 := h_21.symm; subst h_21
          subst h_22
          refine lv_aload_n hx hb dX9_mile_85 rfl (lv_at hl 1 rfl) ?_
          refine lv_iload_n hx hb dX9_mile_86 rfl (lv_at hl 0 rfl) ?_
          refine lv_if_eq (tgt := 99) hx hb dX9_mile_87 (by decide) (fun c_24 => ?_) (fun c_24 => absurd (by decide) c_24)
          refine lv_aload_n hx hb dX9_mile_99 rfl (lv_at hl 1 rfl) ?_
          refine xg hF kf_X9_275 hK hP 0 rfl rfl dX9_mile_100 ?_
          refine xp hF kf_X9_275 tyX9_ok nmX9 hK hP hD hS 0 rfl rfl rfl rfl (Nat.le_of_ble_eq_true rfl) dX9_mile_103 (fun H locs hP hD hS => ?_)
          have hP : va_P D vwCl [(h0, .inr (9, [.ref ys, .ref yk, .ref yo, .ref yt, .int mk0, .ref yfa, .ref yfe, .int mL, .int mS, .int mM, .ref yro, .ref yhe, .ref ygr, .int mF, .int mC, .int mY, .ref yta, .int (nI (mz)), .int (nI (nf bb mz u9)), .int (nI (nx bb mz u9)), .int v2_13, .int 1, .ref ywa, .ref ybi, .ref ysi, .ref ynu, .ref ymo])), (yta, .inl (cI, 120, .inl tp))] H := hP
          have hD : va_D A [(h0, .inr (9, [.ref ys, .ref yk, .ref yo, .ref yt, .int mk0, .ref yfa, .ref yfe, .int mL, .int mS, .int mM, .ref yro, .ref yhe, .ref ygr, .int mF, .int mC, .int mY, .ref yta, .int (nI (mz)), .int (nI (nf bb mz u9)), .int (nI (nx bb mz u9)), .int v2_13, .int 1, .ref ywa, .ref ybi, .ref ysi, .ref ynu, .ref ymo])), (yta, .inl (cI, 120, .inl tp))] := hD
          have hK8 : ¬ kd bb mz (nf bb mz u9) = 4 := (kd_nmin c_5)
          have hI8 := ml_pos (hi := p1) hK8 hl2 hh1 hh2 (x_max0a c_8)
          exact W.vret hx hb hr (fun t ht hW => ⟨⟨(u9, 1, v2_13), rfl, ⟨Or.inr ⟨fun h => h_20 (hI8.mpr h), (by unfold mSt; rw [if_neg hK8]), rfl⟩, (by first | assumption | omega), (by first | assumption | omega)⟩, by rw [ht]; exact hP.sub [0, 1] rfl, hD.sub [0, 1] (by decide) rfl⟩, hS.F ht⟩) hS.2.2 dX9_mile_106 hlk
      · skip
        refine lv_iconst (v := 0) hx hb dX9_mile_58 (by decide) ?_
        refine lv_goto (tgt := 63) hx hb dX9_mile_59 (by decide) ?_
        refine lv_iload_n hx hb dX9_mile_63 rfl (lv_at hl 0 rfl) ?_
        refine lv_if_eq (tgt := 81) hx hb dX9_mile_64 (by decide) (fun c_25 => ?_) (fun c_25 => absurd (by decide) c_25)
        refine lv_iload_n hx hb dX9_mile_81 rfl (lv_at hl 3 rfl) ?_
        refine xc_Vv (wr := []) hF (c_X9_number0 l D cI cJ cZ cS ta sa sv s.heap.size h0 ys yk yo yt mk0 yfa yfe mL mS mM yro yhe ygr mF mC mY yta mz mv ywa ybi ysi ynu ymo tp 0 p1 u9 bb (by omega) hbb (by omega)) kv_X9_282 ⟨rfl, rfl, Nat.le_of_ble_eq_true rfl, Nat.le_of_ble_eq_true rfl⟩ ⟨Nat.le_of_ble_eq_true rfl, Nat.le_of_ble_eq_true rfl⟩ hK hN hZ hP hD hS hA [0, 1] [] rfl rfl rfl rfl (by decide) 0 rfl rfl rfl rfl hl.1 rfl (Nat.le_of_ble_eq_true rfl) dX9_mile_82 (fun u_r_26 H locs hw_r_26 hP hD hS => ?_)
        obtain ⟨u2_27, w2_28, v2_29⟩ := u_r_26
        try dsimp only at hw_r_26
        obtain ⟨hw_r_26, i_30, i_31⟩ := hw_r_26
        have hP : va_P D vwCl [(h0, .inr (9, [.ref ys, .ref yk, .ref yo, .ref yt, .int mk0, .ref yfa, .ref yfe, .int mL, .int mS, .int mM, .ref yro, .ref yhe, .ref ygr, .int mF, .int mC, .int mY, .ref yta, .int (nI (mz)), .int (nI (nf bb mz u2_27)), .int (nI (nx bb mz u2_27)), .int v2_29, .int w2_28, .ref ywa, .ref ybi, .ref ysi, .ref ynu, .ref ymo])), (yta, .inl (cI, 120, .inl tp))] H := hP
        have hD : va_D A [(h0, .inr (9, [.ref ys, .ref yk, .ref yo, .ref yt, .int mk0, .ref yfa, .ref yfe, .int mL, .int mS, .int mM, .ref yro, .ref yhe, .ref ygr, .int mF, .int mC, .int mY, .ref yta, .int (nI (mz)), .int (nI (nf bb mz u2_27)), .int (nI (nx bb mz u2_27)), .int v2_29, .int w2_28, .ref ywa, .ref ybi, .ref ysi, .ref ynu, .ref ymo])), (yta, .inl (cI, 120, .inl tp))] := hD
        rcases hw_r_26 with ⟨h_32, h_33, h_34, h_35⟩ | ⟨h_36, h_37, h_38⟩
        · skip
          subst h_33
          subst h_34
          subst h_35
          refine lv_aload_n hx hb dX9_mile_85 rfl (lv_at hl 1 rfl) ?_
          refine lv_iload_n hx hb dX9_mile_86 rfl (lv_at hl 0 rfl) ?_
          refine lv_if_eq (tgt := 99) hx hb dX9_mile_87 (by decide) (fun c_39 => ?_) (fun c_39 => absurd (by decide) c_39)
          refine lv_aload_n hx hb dX9_mile_99 rfl (lv_at hl 1 rfl) ?_
          refine xg hF kf_X9_275 hK hP 0 rfl rfl dX9_mile_100 ?_
          refine xp hF kf_X9_275 tyX9_ok nmX9 hK hP hD hS 0 rfl rfl rfl rfl (Nat.le_of_ble_eq_true rfl) dX9_mile_103 (fun H locs hP hD hS => ?_)
          have hP : va_P D vwCl [(h0, .inr (9, [.ref ys, .ref yk, .ref yo, .ref yt, .int mk0, .ref yfa, .ref yfe, .int mL, .int mS, .int mM, .ref yro, .ref yhe, .ref ygr, .int mF, .int mC, .int mY, .ref yta, .int (nI (mz)), .int (nI (nf bb mz (nx bb mz u9))), .int (nI (nx bb mz (nx bb mz u9))), .int (nI (num bb (nf bb mz u9) (nx bb mz u9))), .int 0, .ref ywa, .ref ybi, .ref ysi, .ref ynu, .ref ymo])), (yta, .inl (cI, 120, .inl tp))] H := hP
          have hD : va_D A [(h0, .inr (9, [.ref ys, .ref yk, .ref yo, .ref yt, .int mk0, .ref yfa, .ref yfe, .int mL, .int mS, .int mM, .ref yro, .ref yhe, .ref ygr, .int mF, .int mC, .int mY, .ref yta, .int (nI (mz)), .int (nI (nf bb mz (nx bb mz u9))), .int (nI (nx bb mz (nx bb mz u9))), .int (nI (num bb (nf bb mz u9) (nx bb mz u9))), .int 0, .ref ywa, .ref ybi, .ref ysi, .ref ynu, .ref ymo])), (yta, .inl (cI, 120, .inl tp))] := hD
          have hK8 : ¬ kd bb mz (nf bb mz u9) = 4 := (kd_nmin c_5)
          have hI8 := ml_pos (hi := p1) hK8 hl2 hh1 hh2 (x_max0b c_8)
          exact W.vret hx hb hr (fun t ht hW => ⟨⟨(nx bb mz u9, 0, nI (num bb (nf bb mz u9) (nx bb mz u9))), rfl, ⟨Or.inl ⟨hI8.mp h_32, (by unfold mSt; rw [if_neg hK8]), rfl, ml_posV hK8 hh2 (hI8.mp h_32)⟩, (by first | assumption | omega), (by first | assumption | omega)⟩, by rw [ht]; exact hP.sub [0, 1] rfl, hD.sub [0, 1] (by decide) rfl⟩, hS.F ht⟩) hS.2.2 dX9_mile_106 hlk
        · skip
          replace h_37 := h_37.symm; subst h_37
          subst h_38
          refine lv_aload_n hx hb dX9_mile_85 rfl (lv_at hl 1 rfl) ?_
          refine lv_iload_n hx hb dX9_mile_86 rfl (lv_at hl 0 rfl) ?_
          refine lv_if_eq (tgt := 99) hx hb dX9_mile_87 (by decide) (fun c_40 => ?_) (fun c_40 => absurd (by decide) c_40)
          refine lv_aload_n hx hb dX9_mile_99 rfl (lv_at hl 1 rfl) ?_
          refine xg hF kf_X9_275 hK hP 0 rfl rfl dX9_mile_100 ?_
          refine xp hF kf_X9_275 tyX9_ok nmX9 hK hP hD hS 0 rfl rfl rfl rfl (Nat.le_of_ble_eq_true rfl) dX9_mile_103 (fun H locs hP hD hS => ?_)
          have hP : va_P D vwCl [(h0, .inr (9, [.ref ys, .ref yk, .ref yo, .ref yt, .int mk0, .ref yfa, .ref yfe, .int mL, .int mS, .int mM, .ref yro, .ref yhe, .ref ygr, .int mF, .int mC, .int mY, .ref yta, .int (nI (mz)), .int (nI (nf bb mz u9)), .int (nI (nx bb mz u9)), .int v2_29, .int 1, .ref ywa, .ref ybi, .ref ysi, .ref ynu, .ref ymo])), (yta, .inl (cI, 120, .inl tp))] H := hP
          have hD : va_D A [(h0, .inr (9, [.ref ys, .ref yk, .ref yo, .ref yt, .int mk0, .ref yfa, .ref yfe, .int mL, .int mS, .int mM, .ref yro, .ref yhe, .ref ygr, .int mF, .int mC, .int mY, .ref yta, .int (nI (mz)), .int (nI (nf bb mz u9)), .int (nI (nx bb mz u9)), .int v2_29, .int 1, .ref ywa, .ref ybi, .ref ysi, .ref ynu, .ref ymo])), (yta, .inl (cI, 120, .inl tp))] := hD
          have hK8 : ¬ kd bb mz (nf bb mz u9) = 4 := (kd_nmin c_5)
          have hI8 := ml_pos (hi := p1) hK8 hl2 hh1 hh2 (x_max0b c_8)
          exact W.vret hx hb hr (fun t ht hW => ⟨⟨(u9, 1, v2_29), rfl, ⟨Or.inr ⟨fun h => h_36 (hI8.mpr h), (by unfold mSt; rw [if_neg hK8]), rfl⟩, (by first | assumption | omega), (by first | assumption | omega)⟩, by rw [ht]; exact hP.sub [0, 1] rfl, hD.sub [0, 1] (by decide) rfl⟩, hS.F ht⟩) hS.2.2 dX9_mile_106 hlk
    · skip
      refine lv_iconst (v := 1) hx hb dX9_mile_20 (by decide) ?_
      refine lv_goto (tgt := 25) hx hb dX9_mile_21 (by decide) ?_
      refine lv_istore_n (lv' := [(3, .int 1), (0, .ref h0), (1, .int p0), (2, .int p1)]) hx hb dX9_mile_25 rfl hl (by decide) rfl (fun ls hl => ?_)
      refine lv_iload_n hx hb dX9_mile_26 rfl (lv_at hl 0 rfl) ?_
      refine lv_if_eq (tgt := 35) hx hb dX9_mile_27 (by decide) (fun c_41 => absurd c_41 (by decide)) (fun c_41 => ?_)
      refine lv_aload_n hx hb dX9_mile_30 rfl (lv_at hl 1 rfl) ?_
      refine lv_iconst (v := 1) hx hb dX9_mile_31 (by decide) ?_
      refine xc_Vv (wr := []) hF (c_X9_needs1 l D cI cJ cZ cS ta sa sv s.heap.size h0 ys yk yo yt mk0 yfa yfe mL mS mM yro yhe ygr mF mC mY yta mz mv ywa ybi ysi ynu ymo tp u9 bb (by omega) hbb (by omega)) kv_X9_278 ⟨rfl, rfl, Nat.le_of_ble_eq_true rfl, Nat.le_of_ble_eq_true rfl⟩ ⟨Nat.le_of_ble_eq_true rfl, Nat.le_of_ble_eq_true rfl⟩ hK hN hZ hP hD hS hA [0, 1] [] rfl rfl rfl rfl (by decide) 0 rfl rfl rfl rfl hl.1 rfl (Nat.le_of_ble_eq_true rfl) dX9_mile_32 (fun u_r_42 H locs hw_r_42 hP hD hS => ?_)
      obtain ⟨i_43, i_44⟩ := hw_r_42
      have hP : va_P D vwCl [(h0, .inr (9, [.ref ys, .ref yk, .ref yo, .ref yt, .int mk0, .ref yfa, .ref yfe, .int mL, .int mS, .int mM, .ref yro, .ref yhe, .ref ygr, .int mF, .int mC, .int mY, .ref yta, .int (nI (mz)), .int (nI (nf bb mz (nx bb mz u9))), .int (nI (nx bb mz (nx bb mz u9))), .int mv, .int 0, .ref ywa, .ref ybi, .ref ysi, .ref ynu, .ref ymo])), (yta, .inl (cI, 120, .inl tp))] H := hP
      have hD : va_D A [(h0, .inr (9, [.ref ys, .ref yk, .ref yo, .ref yt, .int mk0, .ref yfa, .ref yfe, .int mL, .int mS, .int mM, .ref yro, .ref yhe, .ref ygr, .int mF, .int mC, .int mY, .ref yta, .int (nI (mz)), .int (nI (nf bb mz (nx bb mz u9))), .int (nI (nx bb mz (nx bb mz u9))), .int mv, .int 0, .ref ywa, .ref ybi, .ref ysi, .ref ynu, .ref ymo])), (yta, .inl (cI, 120, .inl tp))] := hD
      refine lv_aload_n hx hb dX9_mile_35 rfl (lv_at hl 1 rfl) ?_
      refine lv_iload_n hx hb dX9_mile_36 rfl (lv_at hl 0 rfl) ?_
      refine lv_if_eq (tgt := 54) hx hb dX9_mile_37 (by decide) (fun c_45 => absurd c_45 (by decide)) (fun c_45 => ?_)
      refine lv_iload_n hx hb dX9_mile_40 rfl (lv_at hl 3 rfl) ?_
      refine lv_if_ge (tgt := 50) hx hb dX9_mile_41 (by decide) (fun c_46 => ?_) (fun c_46 => absurd (x_ge0 hh1) c_46)
      refine lv_iconst (v := 0) hx hb dX9_mile_50 (by decide) ?_
      refine lv_goto (tgt := 63) hx hb dX9_mile_51 (by decide) ?_
      refine lv_iload_n hx hb dX9_mile_63 rfl (lv_at hl 0 rfl) ?_
      refine lv_if_eq (tgt := 81) hx hb dX9_mile_64 (by decide) (fun c_47 => absurd c_47 (by decide)) (fun c_47 => ?_)
      refine lv_iload_n hx hb dX9_mile_67 rfl (lv_at hl 2 rfl) ?_
      refine lv_if_le (tgt := 75) hx hb dX9_mile_68 (by decide) (fun c_48 => ?_) (fun c_48 => ?_)
      · skip
        refine lv_iconst (v := 0) hx hb dX9_mile_75 (by decide) ?_
        refine lv_iload_n hx hb dX9_mile_76 rfl (lv_at hl 2 rfl) ?_
        refine lv_isub hx hb dX9_mile_77 ?_
        refine lv_topi (fun x_49 ex_49 => ?_)
        refine lv_goto (tgt := 82) hx hb dX9_mile_78 (by decide) ?_
        refine xc_Vv (wr := []) hF (c_X9_number0 l D cI cJ cZ cS ta sa sv H.size h0 ys yk yo yt mk0 yfa yfe mL mS mM yro yhe ygr mF mC mY yta mz mv ywa ybi ysi ynu ymo tp 0 x_49 (nx bb mz u9) bb (by omega) hbb (by omega)) kv_X9_282 ⟨rfl, rfl, Nat.le_of_ble_eq_true rfl, Nat.le_of_ble_eq_true rfl⟩ ⟨Nat.le_of_ble_eq_true rfl, Nat.le_of_ble_eq_true rfl⟩ hK hN hZ hP hD hS hA [0, 1] [] rfl rfl rfl rfl (by decide) 0 rfl rfl rfl rfl hl.1 rfl (Nat.le_of_ble_eq_true rfl) dX9_mile_82 (fun u_r_50 H locs hw_r_50 hP hD hS => ?_)
        obtain ⟨u2_51, w2_52, v2_53⟩ := u_r_50
        try dsimp only at hw_r_50
        obtain ⟨hw_r_50, i_54, i_55⟩ := hw_r_50
        have hP : va_P D vwCl [(h0, .inr (9, [.ref ys, .ref yk, .ref yo, .ref yt, .int mk0, .ref yfa, .ref yfe, .int mL, .int mS, .int mM, .ref yro, .ref yhe, .ref ygr, .int mF, .int mC, .int mY, .ref yta, .int (nI (mz)), .int (nI (nf bb mz u2_51)), .int (nI (nx bb mz u2_51)), .int v2_53, .int w2_52, .ref ywa, .ref ybi, .ref ysi, .ref ynu, .ref ymo])), (yta, .inl (cI, 120, .inl tp))] H := hP
        have hD : va_D A [(h0, .inr (9, [.ref ys, .ref yk, .ref yo, .ref yt, .int mk0, .ref yfa, .ref yfe, .int mL, .int mS, .int mM, .ref yro, .ref yhe, .ref ygr, .int mF, .int mC, .int mY, .ref yta, .int (nI (mz)), .int (nI (nf bb mz u2_51)), .int (nI (nx bb mz u2_51)), .int v2_53, .int w2_52, .ref ywa, .ref ybi, .ref ysi, .ref ynu, .ref ymo])), (yta, .inl (cI, 120, .inl tp))] := hD
        rcases hw_r_50 with ⟨h_56, h_57, h_58, h_59⟩ | ⟨h_60, h_61, h_62⟩
        · skip
          subst h_57
          subst h_58
          subst h_59
          refine lv_aload_n hx hb dX9_mile_85 rfl (lv_at hl 1 rfl) ?_
          refine lv_iload_n hx hb dX9_mile_86 rfl (lv_at hl 0 rfl) ?_
          refine lv_if_eq (tgt := 99) hx hb dX9_mile_87 (by decide) (fun c_63 => absurd c_63 (by decide)) (fun c_63 => ?_)
          refine lv_iconst (v := 0) hx hb dX9_mile_90 (by decide) ?_
          refine lv_aload_n hx hb dX9_mile_91 rfl (lv_at hl 1 rfl) ?_
          refine xg hF kf_X9_275 hK hP 0 rfl rfl dX9_mile_92 ?_
          refine lv_isub hx hb dX9_mile_95 ?_
          refine lv_topi (fun x_64 ex_64 => ?_)
          refine lv_goto (tgt := 103) hx hb dX9_mile_96 (by decide) ?_
          refine xp hF kf_X9_275 tyX9_ok nmX9 hK hP hD hS 0 rfl rfl rfl rfl (Nat.le_of_ble_eq_true rfl) dX9_mile_103 (fun H locs hP hD hS => ?_)
          have hP : va_P D vwCl [(h0, .inr (9, [.ref ys, .ref yk, .ref yo, .ref yt, .int mk0, .ref yfa, .ref yfe, .int mL, .int mS, .int mM, .ref yro, .ref yhe, .ref ygr, .int mF, .int mC, .int mY, .ref yta, .int (nI (mz)), .int (nI (nf bb mz (nx bb mz (nx bb mz u9)))), .int (nI (nx bb mz (nx bb mz (nx bb mz u9)))), .int x_64, .int 0, .ref ywa, .ref ybi, .ref ysi, .ref ynu, .ref ymo])), (yta, .inl (cI, 120, .inl tp))] H := hP
          have hD : va_D A [(h0, .inr (9, [.ref ys, .ref yk, .ref yo, .ref yt, .int mk0, .ref yfa, .ref yfe, .int mL, .int mS, .int mM, .ref yro, .ref yhe, .ref ygr, .int mF, .int mC, .int mY, .ref yta, .int (nI (mz)), .int (nI (nf bb mz (nx bb mz (nx bb mz u9)))), .int (nI (nx bb mz (nx bb mz (nx bb mz u9)))), .int x_64, .int 0, .ref ywa, .ref ybi, .ref ysi, .ref ynu, .ref ymo])), (yta, .inl (cI, 120, .inl tp))] := hD
          have hK8 : kd bb mz (nf bb mz u9) = 4 := (kd_min (by omega) c_5)
          have hI8 := ml_less (hi := p1) hK8 hl1 hh1 (Or.inl ⟨x_le0 c_48, x_neg0 ex_49 hl1 hl2⟩)
          exact W.vret hx hb hr (fun t ht hW => ⟨⟨(nx bb mz (nx bb mz u9), 0, x_64), rfl, ⟨Or.inl ⟨hI8.mp h_56, (by unfold mSt; rw [if_pos hK8]), rfl, (by rw [ex_64]; exact ml_lessV hK8 hl1 (hI8.mp h_56))⟩, (by first | assumption | omega), (by first | assumption | omega)⟩, by rw [ht]; exact hP.sub [0, 1] rfl, hD.sub [0, 1] (by decide) rfl⟩, hS.F ht⟩) hS.2.2 dX9_mile_106 hlk
        · skip
          subst h_61
          subst h_62
          refine lv_aload_n hx hb dX9_mile_85 rfl (lv_at hl 1 rfl) ?_
          refine lv_iload_n hx hb dX9_mile_86 rfl (lv_at hl 0 rfl) ?_
          refine lv_if_eq (tgt := 99) hx hb dX9_mile_87 (by decide) (fun c_65 => absurd c_65 (by decide)) (fun c_65 => ?_)
          refine lv_iconst (v := 0) hx hb dX9_mile_90 (by decide) ?_
          refine lv_aload_n hx hb dX9_mile_91 rfl (lv_at hl 1 rfl) ?_
          refine xg hF kf_X9_275 hK hP 0 rfl rfl dX9_mile_92 ?_
          refine lv_isub hx hb dX9_mile_95 ?_
          refine lv_topi (fun x_66 ex_66 => ?_)
          refine lv_goto (tgt := 103) hx hb dX9_mile_96 (by decide) ?_
          refine xp hF kf_X9_275 tyX9_ok nmX9 hK hP hD hS 0 rfl rfl rfl rfl (Nat.le_of_ble_eq_true rfl) dX9_mile_103 (fun H locs hP hD hS => ?_)
          have hP : va_P D vwCl [(h0, .inr (9, [.ref ys, .ref yk, .ref yo, .ref yt, .int mk0, .ref yfa, .ref yfe, .int mL, .int mS, .int mM, .ref yro, .ref yhe, .ref ygr, .int mF, .int mC, .int mY, .ref yta, .int (nI (mz)), .int (nI (nf bb mz (nx bb mz u9))), .int (nI (nx bb mz (nx bb mz u9))), .int x_66, .int 1, .ref ywa, .ref ybi, .ref ysi, .ref ynu, .ref ymo])), (yta, .inl (cI, 120, .inl tp))] H := hP
          have hD : va_D A [(h0, .inr (9, [.ref ys, .ref yk, .ref yo, .ref yt, .int mk0, .ref yfa, .ref yfe, .int mL, .int mS, .int mM, .ref yro, .ref yhe, .ref ygr, .int mF, .int mC, .int mY, .ref yta, .int (nI (mz)), .int (nI (nf bb mz (nx bb mz u9))), .int (nI (nx bb mz (nx bb mz u9))), .int x_66, .int 1, .ref ywa, .ref ybi, .ref ysi, .ref ynu, .ref ymo])), (yta, .inl (cI, 120, .inl tp))] := hD
          have hK8 : kd bb mz (nf bb mz u9) = 4 := (kd_min (by omega) c_5)
          have hI8 := ml_less (hi := p1) hK8 hl1 hh1 (Or.inl ⟨x_le0 c_48, x_neg0 ex_49 hl1 hl2⟩)
          exact W.vret hx hb hr (fun t ht hW => ⟨⟨(nx bb mz u9, 1, x_66), rfl, ⟨Or.inr ⟨fun h => h_60 (hI8.mpr h), (by unfold mSt; rw [if_pos hK8]), rfl⟩, (by first | assumption | omega), (by first | assumption | omega)⟩, by rw [ht]; exact hP.sub [0, 1] rfl, hD.sub [0, 1] (by decide) rfl⟩, hS.F ht⟩) hS.2.2 dX9_mile_106 hlk
      · skip
        refine lv_iconst (v := (-1)) hx hb dX9_mile_71 (by decide) ?_
        refine lv_goto (tgt := 82) hx hb dX9_mile_72 (by decide) ?_
        refine xc_Vv (wr := []) hF (c_X9_number0 l D cI cJ cZ cS ta sa sv H.size h0 ys yk yo yt mk0 yfa yfe mL mS mM yro yhe ygr mF mC mY yta mz mv ywa ybi ysi ynu ymo tp 0 (-1) (nx bb mz u9) bb (by omega) hbb (by omega)) kv_X9_282 ⟨rfl, rfl, Nat.le_of_ble_eq_true rfl, Nat.le_of_ble_eq_true rfl⟩ ⟨Nat.le_of_ble_eq_true rfl, Nat.le_of_ble_eq_true rfl⟩ hK hN hZ hP hD hS hA [0, 1] [] rfl rfl rfl rfl (by decide) 0 rfl rfl rfl rfl hl.1 rfl (Nat.le_of_ble_eq_true rfl) dX9_mile_82 (fun u_r_67 H locs hw_r_67 hP hD hS => ?_)
        obtain ⟨u2_68, w2_69, v2_70⟩ := u_r_67
        try dsimp only at hw_r_67
        obtain ⟨hw_r_67, i_71, i_72⟩ := hw_r_67
        have hP : va_P D vwCl [(h0, .inr (9, [.ref ys, .ref yk, .ref yo, .ref yt, .int mk0, .ref yfa, .ref yfe, .int mL, .int mS, .int mM, .ref yro, .ref yhe, .ref ygr, .int mF, .int mC, .int mY, .ref yta, .int (nI (mz)), .int (nI (nf bb mz u2_68)), .int (nI (nx bb mz u2_68)), .int v2_70, .int w2_69, .ref ywa, .ref ybi, .ref ysi, .ref ynu, .ref ymo])), (yta, .inl (cI, 120, .inl tp))] H := hP
        have hD : va_D A [(h0, .inr (9, [.ref ys, .ref yk, .ref yo, .ref yt, .int mk0, .ref yfa, .ref yfe, .int mL, .int mS, .int mM, .ref yro, .ref yhe, .ref ygr, .int mF, .int mC, .int mY, .ref yta, .int (nI (mz)), .int (nI (nf bb mz u2_68)), .int (nI (nx bb mz u2_68)), .int v2_70, .int w2_69, .ref ywa, .ref ybi, .ref ysi, .ref ynu, .ref ymo])), (yta, .inl (cI, 120, .inl tp))] := hD
        rcases hw_r_67 with ⟨h_73, h_74, h_75, h_76⟩ | ⟨h_77, h_78, h_79⟩
        · skip
          subst h_74
          subst h_75
          subst h_76
          refine lv_aload_n hx hb dX9_mile_85 rfl (lv_at hl 1 rfl) ?_
          refine lv_iload_n hx hb dX9_mile_86 rfl (lv_at hl 0 rfl) ?_
          refine lv_if_eq (tgt := 99) hx hb dX9_mile_87 (by decide) (fun c_80 => absurd c_80 (by decide)) (fun c_80 => ?_)
          refine lv_iconst (v := 0) hx hb dX9_mile_90 (by decide) ?_
          refine lv_aload_n hx hb dX9_mile_91 rfl (lv_at hl 1 rfl) ?_
          refine xg hF kf_X9_275 hK hP 0 rfl rfl dX9_mile_92 ?_
          refine lv_isub hx hb dX9_mile_95 ?_
          refine lv_topi (fun x_81 ex_81 => ?_)
          refine lv_goto (tgt := 103) hx hb dX9_mile_96 (by decide) ?_
          refine xp hF kf_X9_275 tyX9_ok nmX9 hK hP hD hS 0 rfl rfl rfl rfl (Nat.le_of_ble_eq_true rfl) dX9_mile_103 (fun H locs hP hD hS => ?_)
          have hP : va_P D vwCl [(h0, .inr (9, [.ref ys, .ref yk, .ref yo, .ref yt, .int mk0, .ref yfa, .ref yfe, .int mL, .int mS, .int mM, .ref yro, .ref yhe, .ref ygr, .int mF, .int mC, .int mY, .ref yta, .int (nI (mz)), .int (nI (nf bb mz (nx bb mz (nx bb mz u9)))), .int (nI (nx bb mz (nx bb mz (nx bb mz u9)))), .int x_81, .int 0, .ref ywa, .ref ybi, .ref ysi, .ref ynu, .ref ymo])), (yta, .inl (cI, 120, .inl tp))] H := hP
          have hD : va_D A [(h0, .inr (9, [.ref ys, .ref yk, .ref yo, .ref yt, .int mk0, .ref yfa, .ref yfe, .int mL, .int mS, .int mM, .ref yro, .ref yhe, .ref ygr, .int mF, .int mC, .int mY, .ref yta, .int (nI (mz)), .int (nI (nf bb mz (nx bb mz (nx bb mz u9)))), .int (nI (nx bb mz (nx bb mz (nx bb mz u9)))), .int x_81, .int 0, .ref ywa, .ref ybi, .ref ysi, .ref ynu, .ref ymo])), (yta, .inl (cI, 120, .inl tp))] := hD
          have hK8 : kd bb mz (nf bb mz u9) = 4 := (kd_min (by omega) c_5)
          have hI8 := ml_less (hi := p1) (c := -1) hK8 hl1 hh1 (Or.inr ⟨x_gt0 c_48, by decide⟩)
          exact W.vret hx hb hr (fun t ht hW => ⟨⟨(nx bb mz (nx bb mz u9), 0, x_81), rfl, ⟨Or.inl ⟨hI8.mp h_73, (by unfold mSt; rw [if_pos hK8]), rfl, (by rw [ex_81]; exact ml_lessV hK8 hl1 (hI8.mp h_73))⟩, (by first | assumption | omega), (by first | assumption | omega)⟩, by rw [ht]; exact hP.sub [0, 1] rfl, hD.sub [0, 1] (by decide) rfl⟩, hS.F ht⟩) hS.2.2 dX9_mile_106 hlk
        · skip
          subst h_78
          subst h_79
          refine lv_aload_n hx hb dX9_mile_85 rfl (lv_at hl 1 rfl) ?_
          refine lv_iload_n hx hb dX9_mile_86 rfl (lv_at hl 0 rfl) ?_
          refine lv_if_eq (tgt := 99) hx hb dX9_mile_87 (by decide) (fun c_82 => absurd c_82 (by decide)) (fun c_82 => ?_)
          refine lv_iconst (v := 0) hx hb dX9_mile_90 (by decide) ?_
          refine lv_aload_n hx hb dX9_mile_91 rfl (lv_at hl 1 rfl) ?_
          refine xg hF kf_X9_275 hK hP 0 rfl rfl dX9_mile_92 ?_
          refine lv_isub hx hb dX9_mile_95 ?_
          refine lv_topi (fun x_83 ex_83 => ?_)
          refine lv_goto (tgt := 103) hx hb dX9_mile_96 (by decide) ?_
          refine xp hF kf_X9_275 tyX9_ok nmX9 hK hP hD hS 0 rfl rfl rfl rfl (Nat.le_of_ble_eq_true rfl) dX9_mile_103 (fun H locs hP hD hS => ?_)
          have hP : va_P D vwCl [(h0, .inr (9, [.ref ys, .ref yk, .ref yo, .ref yt, .int mk0, .ref yfa, .ref yfe, .int mL, .int mS, .int mM, .ref yro, .ref yhe, .ref ygr, .int mF, .int mC, .int mY, .ref yta, .int (nI (mz)), .int (nI (nf bb mz (nx bb mz u9))), .int (nI (nx bb mz (nx bb mz u9))), .int x_83, .int 1, .ref ywa, .ref ybi, .ref ysi, .ref ynu, .ref ymo])), (yta, .inl (cI, 120, .inl tp))] H := hP
          have hD : va_D A [(h0, .inr (9, [.ref ys, .ref yk, .ref yo, .ref yt, .int mk0, .ref yfa, .ref yfe, .int mL, .int mS, .int mM, .ref yro, .ref yhe, .ref ygr, .int mF, .int mC, .int mY, .ref yta, .int (nI (mz)), .int (nI (nf bb mz (nx bb mz u9))), .int (nI (nx bb mz (nx bb mz u9))), .int x_83, .int 1, .ref ywa, .ref ybi, .ref ysi, .ref ynu, .ref ymo])), (yta, .inl (cI, 120, .inl tp))] := hD
          have hK8 : kd bb mz (nf bb mz u9) = 4 := (kd_min (by omega) c_5)
          have hI8 := ml_less (hi := p1) (c := -1) hK8 hl1 hh1 (Or.inr ⟨x_gt0 c_48, by decide⟩)
          exact W.vret hx hb hr (fun t ht hW => ⟨⟨(nx bb mz u9, 1, x_83), rfl, ⟨Or.inr ⟨fun h => h_77 (hI8.mpr h), (by unfold mSt; rw [if_pos hK8]), rfl⟩, (by first | assumption | omega), (by first | assumption | omega)⟩, by rw [ht]; exact hP.sub [0, 1] rfl, hD.sub [0, 1] (by decide) rfl⟩, hS.F ht⟩) hS.2.2 dX9_mile_106 hlk
  · skip
    refine lv_bipush (v := 45) hx hb dX9_mile_15 (by decide) ?_
    refine lv_icmp_ne (tgt := 24) hx hb dX9_mile_17 (by decide) (fun c_84 => ?_) (fun c_84 => absurd c_84 (by decide))
    refine lv_iconst (v := 0) hx hb dX9_mile_24 (by decide) ?_
    refine lv_istore_n (lv' := [(3, .int 0), (0, .ref h0), (1, .int p0), (2, .int p1)]) hx hb dX9_mile_25 rfl hl (by decide) rfl (fun ls hl => ?_)
    refine lv_iload_n hx hb dX9_mile_26 rfl (lv_at hl 0 rfl) ?_
    refine lv_if_eq (tgt := 35) hx hb dX9_mile_27 (by decide) (fun c_85 => ?_) (fun c_85 => absurd (by decide) c_85)
    refine lv_aload_n hx hb dX9_mile_35 rfl (lv_at hl 1 rfl) ?_
    refine lv_iload_n hx hb dX9_mile_36 rfl (lv_at hl 0 rfl) ?_
    refine lv_if_eq (tgt := 54) hx hb dX9_mile_37 (by decide) (fun c_86 => ?_) (fun c_86 => absurd (by decide) c_86)
    refine lv_iload_n hx hb dX9_mile_54 rfl (lv_at hl 2 rfl) ?_
    refine lv_if_ge (tgt := 62) hx hb dX9_mile_55 (by decide) (fun c_87 => ?_) (fun c_87 => ?_)
    · skip
      refine lv_iload_n hx hb dX9_mile_62 rfl (lv_at hl 2 rfl) ?_
      refine lv_iload_n hx hb dX9_mile_63 rfl (lv_at hl 0 rfl) ?_
      refine lv_if_eq (tgt := 81) hx hb dX9_mile_64 (by decide) (fun c_88 => ?_) (fun c_88 => absurd (by decide) c_88)
      refine lv_iload_n hx hb dX9_mile_81 rfl (lv_at hl 3 rfl) ?_
      refine xc_Vv (wr := []) hF (c_X9_number0 l D cI cJ cZ cS ta sa sv s.heap.size h0 ys yk yo yt mk0 yfa yfe mL mS mM yro yhe ygr mF mC mY yta mz mv ywa ybi ysi ynu ymo tp p0 p1 u9 bb (by omega) hbb (by omega)) kv_X9_282 ⟨rfl, rfl, Nat.le_of_ble_eq_true rfl, Nat.le_of_ble_eq_true rfl⟩ ⟨Nat.le_of_ble_eq_true rfl, Nat.le_of_ble_eq_true rfl⟩ hK hN hZ hP hD hS hA [0, 1] [] rfl rfl rfl rfl (by decide) 0 rfl rfl rfl rfl hl.1 rfl (Nat.le_of_ble_eq_true rfl) dX9_mile_82 (fun u_r_89 H locs hw_r_89 hP hD hS => ?_)
      obtain ⟨u2_90, w2_91, v2_92⟩ := u_r_89
      try dsimp only at hw_r_89
      obtain ⟨hw_r_89, i_93, i_94⟩ := hw_r_89
      have hP : va_P D vwCl [(h0, .inr (9, [.ref ys, .ref yk, .ref yo, .ref yt, .int mk0, .ref yfa, .ref yfe, .int mL, .int mS, .int mM, .ref yro, .ref yhe, .ref ygr, .int mF, .int mC, .int mY, .ref yta, .int (nI (mz)), .int (nI (nf bb mz u2_90)), .int (nI (nx bb mz u2_90)), .int v2_92, .int w2_91, .ref ywa, .ref ybi, .ref ysi, .ref ynu, .ref ymo])), (yta, .inl (cI, 120, .inl tp))] H := hP
      have hD : va_D A [(h0, .inr (9, [.ref ys, .ref yk, .ref yo, .ref yt, .int mk0, .ref yfa, .ref yfe, .int mL, .int mS, .int mM, .ref yro, .ref yhe, .ref ygr, .int mF, .int mC, .int mY, .ref yta, .int (nI (mz)), .int (nI (nf bb mz u2_90)), .int (nI (nx bb mz u2_90)), .int v2_92, .int w2_91, .ref ywa, .ref ybi, .ref ysi, .ref ynu, .ref ymo])), (yta, .inl (cI, 120, .inl tp))] := hD
      rcases hw_r_89 with ⟨h_95, h_96, h_97, h_98⟩ | ⟨h_99, h_100, h_101⟩
      · skip
        subst h_96
        subst h_97
        subst h_98
        refine lv_aload_n hx hb dX9_mile_85 rfl (lv_at hl 1 rfl) ?_
        refine lv_iload_n hx hb dX9_mile_86 rfl (lv_at hl 0 rfl) ?_
        refine lv_if_eq (tgt := 99) hx hb dX9_mile_87 (by decide) (fun c_102 => ?_) (fun c_102 => absurd (by decide) c_102)
        refine lv_aload_n hx hb dX9_mile_99 rfl (lv_at hl 1 rfl) ?_
        refine xg hF kf_X9_275 hK hP 0 rfl rfl dX9_mile_100 ?_
        refine xp hF kf_X9_275 tyX9_ok nmX9 hK hP hD hS 0 rfl rfl rfl rfl (Nat.le_of_ble_eq_true rfl) dX9_mile_103 (fun H locs hP hD hS => ?_)
        have hP : va_P D vwCl [(h0, .inr (9, [.ref ys, .ref yk, .ref yo, .ref yt, .int mk0, .ref yfa, .ref yfe, .int mL, .int mS, .int mM, .ref yro, .ref yhe, .ref ygr, .int mF, .int mC, .int mY, .ref yta, .int (nI (mz)), .int (nI (nf bb mz (nx bb mz u9))), .int (nI (nx bb mz (nx bb mz u9))), .int (nI (num bb (nf bb mz u9) (nx bb mz u9))), .int 0, .ref ywa, .ref ybi, .ref ysi, .ref ynu, .ref ymo])), (yta, .inl (cI, 120, .inl tp))] H := hP
        have hD : va_D A [(h0, .inr (9, [.ref ys, .ref yk, .ref yo, .ref yt, .int mk0, .ref yfa, .ref yfe, .int mL, .int mS, .int mM, .ref yro, .ref yhe, .ref ygr, .int mF, .int mC, .int mY, .ref yta, .int (nI (mz)), .int (nI (nf bb mz (nx bb mz u9))), .int (nI (nx bb mz (nx bb mz u9))), .int (nI (num bb (nf bb mz u9) (nx bb mz u9))), .int 0, .ref ywa, .ref ybi, .ref ysi, .ref ynu, .ref ymo])), (yta, .inl (cI, 120, .inl tp))] := hD
        have hK8 : ¬ kd bb mz (nf bb mz u9) = 4 := (kd_nmin (by rw [bb_out hbb (show mz ≤ nf bb mz u9 by omega)]; decide))
        have hI8 := ml_pos (hi := p1) hK8 hl2 hh1 hh2 (x_max0a c_87)
        exact W.vret hx hb hr (fun t ht hW => ⟨⟨(nx bb mz u9, 0, nI (num bb (nf bb mz u9) (nx bb mz u9))), rfl, ⟨Or.inl ⟨hI8.mp h_95, (by unfold mSt; rw [if_neg hK8]), rfl, ml_posV hK8 hh2 (hI8.mp h_95)⟩, (by first | assumption | omega), (by first | assumption | omega)⟩, by rw [ht]; exact hP.sub [0, 1] rfl, hD.sub [0, 1] (by decide) rfl⟩, hS.F ht⟩) hS.2.2 dX9_mile_106 hlk
      · skip
        replace h_100 := h_100.symm; subst h_100
        subst h_101
        refine lv_aload_n hx hb dX9_mile_85 rfl (lv_at hl 1 rfl) ?_
        refine lv_iload_n hx hb dX9_mile_86 rfl (lv_at hl 0 rfl) ?_
        refine lv_if_eq (tgt := 99) hx hb dX9_mile_87 (by decide) (fun c_103 => ?_) (fun c_103 => absurd (by decide) c_103)
        refine lv_aload_n hx hb dX9_mile_99 rfl (lv_at hl 1 rfl) ?_
        refine xg hF kf_X9_275 hK hP 0 rfl rfl dX9_mile_100 ?_
        refine xp hF kf_X9_275 tyX9_ok nmX9 hK hP hD hS 0 rfl rfl rfl rfl (Nat.le_of_ble_eq_true rfl) dX9_mile_103 (fun H locs hP hD hS => ?_)
        have hP : va_P D vwCl [(h0, .inr (9, [.ref ys, .ref yk, .ref yo, .ref yt, .int mk0, .ref yfa, .ref yfe, .int mL, .int mS, .int mM, .ref yro, .ref yhe, .ref ygr, .int mF, .int mC, .int mY, .ref yta, .int (nI (mz)), .int (nI (nf bb mz u9)), .int (nI (nx bb mz u9)), .int v2_92, .int 1, .ref ywa, .ref ybi, .ref ysi, .ref ynu, .ref ymo])), (yta, .inl (cI, 120, .inl tp))] H := hP
        have hD : va_D A [(h0, .inr (9, [.ref ys, .ref yk, .ref yo, .ref yt, .int mk0, .ref yfa, .ref yfe, .int mL, .int mS, .int mM, .ref yro, .ref yhe, .ref ygr, .int mF, .int mC, .int mY, .ref yta, .int (nI (mz)), .int (nI (nf bb mz u9)), .int (nI (nx bb mz u9)), .int v2_92, .int 1, .ref ywa, .ref ybi, .ref ysi, .ref ynu, .ref ymo])), (yta, .inl (cI, 120, .inl tp))] := hD
        have hK8 : ¬ kd bb mz (nf bb mz u9) = 4 := (kd_nmin (by rw [bb_out hbb (show mz ≤ nf bb mz u9 by omega)]; decide))
        have hI8 := ml_pos (hi := p1) hK8 hl2 hh1 hh2 (x_max0a c_87)
        exact W.vret hx hb hr (fun t ht hW => ⟨⟨(u9, 1, v2_92), rfl, ⟨Or.inr ⟨fun h => h_99 (hI8.mpr h), (by unfold mSt; rw [if_neg hK8]), rfl⟩, (by first | assumption | omega), (by first | assumption | omega)⟩, by rw [ht]; exact hP.sub [0, 1] rfl, hD.sub [0, 1] (by decide) rfl⟩, hS.F ht⟩) hS.2.2 dX9_mile_106 hlk
    · skip
      refine lv_iconst (v := 0) hx hb dX9_mile_58 (by decide) ?_
      refine lv_goto (tgt := 63) hx hb dX9_mile_59 (by decide) ?_
      refine lv_iload_n hx hb dX9_mile_63 rfl (lv_at hl 0 rfl) ?_
      refine lv_if_eq (tgt := 81) hx hb dX9_mile_64 (by decide) (fun c_104 => ?_) (fun c_104 => absurd (by decide) c_104)
      refine lv_iload_n hx hb dX9_mile_81 rfl (lv_at hl 3 rfl) ?_
      refine xc_Vv (wr := []) hF (c_X9_number0 l D cI cJ cZ cS ta sa sv s.heap.size h0 ys yk yo yt mk0 yfa yfe mL mS mM yro yhe ygr mF mC mY yta mz mv ywa ybi ysi ynu ymo tp 0 p1 u9 bb (by omega) hbb (by omega)) kv_X9_282 ⟨rfl, rfl, Nat.le_of_ble_eq_true rfl, Nat.le_of_ble_eq_true rfl⟩ ⟨Nat.le_of_ble_eq_true rfl, Nat.le_of_ble_eq_true rfl⟩ hK hN hZ hP hD hS hA [0, 1] [] rfl rfl rfl rfl (by decide) 0 rfl rfl rfl rfl hl.1 rfl (Nat.le_of_ble_eq_true rfl) dX9_mile_82 (fun u_r_105 H locs hw_r_105 hP hD hS => ?_)
      obtain ⟨u2_106, w2_107, v2_108⟩ := u_r_105
      try dsimp only at hw_r_105
      obtain ⟨hw_r_105, i_109, i_110⟩ := hw_r_105
      have hP : va_P D vwCl [(h0, .inr (9, [.ref ys, .ref yk, .ref yo, .ref yt, .int mk0, .ref yfa, .ref yfe, .int mL, .int mS, .int mM, .ref yro, .ref yhe, .ref ygr, .int mF, .int mC, .int mY, .ref yta, .int (nI (mz)), .int (nI (nf bb mz u2_106)), .int (nI (nx bb mz u2_106)), .int v2_108, .int w2_107, .ref ywa, .ref ybi, .ref ysi, .ref ynu, .ref ymo])), (yta, .inl (cI, 120, .inl tp))] H := hP
      have hD : va_D A [(h0, .inr (9, [.ref ys, .ref yk, .ref yo, .ref yt, .int mk0, .ref yfa, .ref yfe, .int mL, .int mS, .int mM, .ref yro, .ref yhe, .ref ygr, .int mF, .int mC, .int mY, .ref yta, .int (nI (mz)), .int (nI (nf bb mz u2_106)), .int (nI (nx bb mz u2_106)), .int v2_108, .int w2_107, .ref ywa, .ref ybi, .ref ysi, .ref ynu, .ref ymo])), (yta, .inl (cI, 120, .inl tp))] := hD
      rcases hw_r_105 with ⟨h_111, h_112, h_113, h_114⟩ | ⟨h_115, h_116, h_117⟩
      · skip
        subst h_112
        subst h_113
        subst h_114
        refine lv_aload_n hx hb dX9_mile_85 rfl (lv_at hl 1 rfl) ?_
        refine lv_iload_n hx hb dX9_mile_86 rfl (lv_at hl 0 rfl) ?_
        refine lv_if_eq (tgt := 99) hx hb dX9_mile_87 (by decide) (fun c_118 => ?_) (fun c_118 => absurd (by decide) c_118)
        refine lv_aload_n hx hb dX9_mile_99 rfl (lv_at hl 1 rfl) ?_
        refine xg hF kf_X9_275 hK hP 0 rfl rfl dX9_mile_100 ?_
        refine xp hF kf_X9_275 tyX9_ok nmX9 hK hP hD hS 0 rfl rfl rfl rfl (Nat.le_of_ble_eq_true rfl) dX9_mile_103 (fun H locs hP hD hS => ?_)
        have hP : va_P D vwCl [(h0, .inr (9, [.ref ys, .ref yk, .ref yo, .ref yt, .int mk0, .ref yfa, .ref yfe, .int mL, .int mS, .int mM, .ref yro, .ref yhe, .ref ygr, .int mF, .int mC, .int mY, .ref yta, .int (nI (mz)), .int (nI (nf bb mz (nx bb mz u9))), .int (nI (nx bb mz (nx bb mz u9))), .int (nI (num bb (nf bb mz u9) (nx bb mz u9))), .int 0, .ref ywa, .ref ybi, .ref ysi, .ref ynu, .ref ymo])), (yta, .inl (cI, 120, .inl tp))] H := hP
        have hD : va_D A [(h0, .inr (9, [.ref ys, .ref yk, .ref yo, .ref yt, .int mk0, .ref yfa, .ref yfe, .int mL, .int mS, .int mM, .ref yro, .ref yhe, .ref ygr, .int mF, .int mC, .int mY, .ref yta, .int (nI (mz)), .int (nI (nf bb mz (nx bb mz u9))), .int (nI (nx bb mz (nx bb mz u9))), .int (nI (num bb (nf bb mz u9) (nx bb mz u9))), .int 0, .ref ywa, .ref ybi, .ref ysi, .ref ynu, .ref ymo])), (yta, .inl (cI, 120, .inl tp))] := hD
        have hK8 : ¬ kd bb mz (nf bb mz u9) = 4 := (kd_nmin (by rw [bb_out hbb (show mz ≤ nf bb mz u9 by omega)]; decide))
        have hI8 := ml_pos (hi := p1) hK8 hl2 hh1 hh2 (x_max0b c_87)
        exact W.vret hx hb hr (fun t ht hW => ⟨⟨(nx bb mz u9, 0, nI (num bb (nf bb mz u9) (nx bb mz u9))), rfl, ⟨Or.inl ⟨hI8.mp h_111, (by unfold mSt; rw [if_neg hK8]), rfl, ml_posV hK8 hh2 (hI8.mp h_111)⟩, (by first | assumption | omega), (by first | assumption | omega)⟩, by rw [ht]; exact hP.sub [0, 1] rfl, hD.sub [0, 1] (by decide) rfl⟩, hS.F ht⟩) hS.2.2 dX9_mile_106 hlk
      · skip
        replace h_116 := h_116.symm; subst h_116
        subst h_117
        refine lv_aload_n hx hb dX9_mile_85 rfl (lv_at hl 1 rfl) ?_
        refine lv_iload_n hx hb dX9_mile_86 rfl (lv_at hl 0 rfl) ?_
        refine lv_if_eq (tgt := 99) hx hb dX9_mile_87 (by decide) (fun c_119 => ?_) (fun c_119 => absurd (by decide) c_119)
        refine lv_aload_n hx hb dX9_mile_99 rfl (lv_at hl 1 rfl) ?_
        refine xg hF kf_X9_275 hK hP 0 rfl rfl dX9_mile_100 ?_
        refine xp hF kf_X9_275 tyX9_ok nmX9 hK hP hD hS 0 rfl rfl rfl rfl (Nat.le_of_ble_eq_true rfl) dX9_mile_103 (fun H locs hP hD hS => ?_)
        have hP : va_P D vwCl [(h0, .inr (9, [.ref ys, .ref yk, .ref yo, .ref yt, .int mk0, .ref yfa, .ref yfe, .int mL, .int mS, .int mM, .ref yro, .ref yhe, .ref ygr, .int mF, .int mC, .int mY, .ref yta, .int (nI (mz)), .int (nI (nf bb mz u9)), .int (nI (nx bb mz u9)), .int v2_108, .int 1, .ref ywa, .ref ybi, .ref ysi, .ref ynu, .ref ymo])), (yta, .inl (cI, 120, .inl tp))] H := hP
        have hD : va_D A [(h0, .inr (9, [.ref ys, .ref yk, .ref yo, .ref yt, .int mk0, .ref yfa, .ref yfe, .int mL, .int mS, .int mM, .ref yro, .ref yhe, .ref ygr, .int mF, .int mC, .int mY, .ref yta, .int (nI (mz)), .int (nI (nf bb mz u9)), .int (nI (nx bb mz u9)), .int v2_108, .int 1, .ref ywa, .ref ybi, .ref ysi, .ref ynu, .ref ymo])), (yta, .inl (cI, 120, .inl tp))] := hD
        have hK8 : ¬ kd bb mz (nf bb mz u9) = 4 := (kd_nmin (by rw [bb_out hbb (show mz ≤ nf bb mz u9 by omega)]; decide))
        have hI8 := ml_pos (hi := p1) hK8 hl2 hh1 hh2 (x_max0b c_87)
        exact W.vret hx hb hr (fun t ht hW => ⟨⟨(u9, 1, v2_108), rfl, ⟨Or.inr ⟨fun h => h_115 (hI8.mpr h), (by unfold mSt; rw [if_neg hK8]), rfl⟩, (by first | assumption | omega), (by first | assumption | omega)⟩, by rw [ht]; exact hP.sub [0, 1] rfl, hD.sub [0, 1] (by decide) rfl⟩, hS.F ht⟩) hS.2.2 dX9_mile_106 hlk
set_option maxHeartbeats 4000000 in
set_option maxRecDepth 100000 in
theorem c_X9_numberHereW (l : Launch) (D : va_G) (cI cJ cZ cS : ClassId) (ta : Nat) (sa sv : Nat → Nat) (sz : Nat) (h0 : Nat) (ys : Nat) (yk : Nat) (yo : Nat) (yt : Nat) (mk0 : Int32) (yfa : Nat) (yfe : Nat) (mL : Int32) (mS : Int32) (mM : Int32) (yro : Nat) (yhe : Nat) (ygr : Nat) (mF : Int32) (mC : Int32) (mY : Int32) (yta : Nat) (mz : Nat) (mv : Int32) (ywa : Nat) (ybi : Nat) (ysi : Nat) (ynu : Nat) (ymo : Nat) (tp : Nat → Int32) (u9 : Nat) (bb : Nat → Int32) (hz : mz ≤ 120) (hbb : bA tp mz = bb) (hu9 : u9 ≤ mz) : Met l yX9_numberHere (Cond.code yX9_numberHere cX9_numberHere 3 (some .int) :: wsU) ({ frames := 0, cells := 0, slots := 0, locals := 0 }) (va_Pc [.ref h0] (XW D (xT cI cJ cZ cS) ta sa sv [(h0, .inr (9, [.ref ys, .ref yk, .ref yo, .ref yt, .int mk0, .ref yfa, .ref yfe, .int mL, .int mS, .int mM, .ref yro, .ref yhe, .ref ygr, .int mF, .int mC, .int mY, .ref yta, .int (nI (mz)), .int (nI (nf bb mz u9)), .int (nI (nx bb mz u9)), .int mv, .int 1, .ref ywa, .ref ybi, .ref ysi, .ref ynu, .ref ymo])), (yta, .inl (cI, 120, .inl tp))] sz)) (vp_Si (fun r : Int32 => (r = (-1)))) 0 0 (fun _ => False) := by
  refine xh (QA := fun _ => vp_Si (fun r : Int32 => (r = (-1)))) (fr := fun _ _ => False) (by decide) (Nat.le_of_ble_eq_true rfl) ?_
  intro p e s m below meth c ls A hF hr hlk hin hsz hP hK hD hN hZ hA hS hl
  have hF : CallFix p m c cX9_numberHere 3 s _ _ RX9 := hF
  have hx := hF.1
  have hb := hF.2.1
  have hml := hF.2.2.1
  have hown := hF.2.2.2.1
  have hu : ∀ w ∈ wsU, w.before _ s = true := fun w h => hF.2.2.2.2 w (List.mem_cons_of_mem _ h)
  have hl : lv_has ls 3 [(0, .ref h0)] := hl
  have htk := tk_le (b := bb) hu9
  refine lv_iconst (v := 0) hx hb dX9_numberHere_0 (by decide) ?_
  refine lv_istore_n (lv' := [(1, .int 0), (0, .ref h0)]) hx hb dX9_numberHere_1 rfl hl (by decide) rfl (fun ls hl => ?_)
  refine lv_aload_n hx hb dX9_numberHere_2 rfl (lv_at hl 1 rfl) ?_
  refine xg hF kf_X9_254 hK hP 0 rfl rfl dX9_numberHere_3 ?_
  refine lv_istore_n (lv' := [(2, .int (nI (nf bb mz u9))), (1, .int 0), (0, .ref h0)]) hx hb dX9_numberHere_6 rfl hl (by decide) rfl (fun ls hl => ?_)
  suffices loop_7 : ∀ (n_7 : Nat) (i : Nat) (u8 : Int32) (ls : Array Slot), 120 - i < n_7 → (i ≤ 120) → lv_has ls 3 [(2, .int (nI (i))), (1, .int u8), (0, .ref h0)] → W p l e ({ frames := 0, cells := 0, slots := 0, locals := 0 }) s m ([.ref h0] : List Value).toArray below meth c s.heap [] 0 0 (MQ below (vp_Si (fun r : Int32 => (r = (-1)))) ([.ref h0] : List Value).toArray s 0 0 (fun _ => False)) (F0 m 7 ls []) by
    exact loop_7 _ (nf bb mz u9) 0 _ (Nat.lt_succ_self _) (by omega) (lv_sub hl [0, 1, 2] rfl)
  intro n_7
  induction n_7 with
  | zero =>
    intro i u8 ls hm_7
    exact absurd hm_7 (Nat.not_lt_zero _)
  | succ n_7 ih_7 =>
    intro i u8 ls hm_7 hi2 hl
    refine lv_iload_n hx hb dX9_numberHere_7 rfl (lv_at hl 0 rfl) ?_
    refine lv_aload_n hx hb dX9_numberHere_8 rfl (lv_at hl 2 rfl) ?_
    refine xg hF kf_X9_251 hK hP 0 rfl rfl dX9_numberHere_9 ?_
    refine lv_icmp_ge (tgt := 47) hx hb dX9_numberHere_12 (by decide) (fun c_1 => ?_) (fun c_1 => ?_)
    · skip
      have nc_1 : nx bb mz u9 ≤ i := xn_le (a := (nx bb mz u9)) (b := i) (by omega) (by omega) c_1
      refine lv_aload_n hx hb dX9_numberHere_47 rfl (lv_at hl 2 rfl) ?_
      refine xg hF kf_X9_266 hK hP 0 rfl rfl dX9_numberHere_48 ?_
      refine lv_if_ne (tgt := 72) hx hb dX9_numberHere_51 (by decide) (fun c_2 => ?_) (fun c_2 => absurd c_2 (by decide))
      refine lv_iconst (v := (-1)) hx hb dX9_numberHere_72 (by decide) ?_
      exact W.iret (v := (-1)) hx hb hr (fun t ht hW => ⟨(-1), rfl, (by first | exact rfl), ht⟩) (fun q h => by cases h) dX9_numberHere_73 hlk
    · skip
      have nc_1 : i < nx bb mz u9 := xn_nle (a := (nx bb mz u9)) (b := i) (by omega) (by omega) c_1
      refine lv_iload_n hx hb dX9_numberHere_15 rfl (lv_at hl 1 rfl) ?_
      refine lv_sipush (v := 9999) hx hb dX9_numberHere_16 (by decide) ?_
      refine lv_icmp_le (tgt := 26) hx hb dX9_numberHere_19 (by decide) (fun c_3 => ?_) (fun c_3 => ?_)
      · skip
        refine lv_bipush (v := 10) hx hb dX9_numberHere_26 (by decide) ?_
        refine lv_iload_n hx hb dX9_numberHere_28 rfl (lv_at hl 1 rfl) ?_
        refine lv_imul hx hb dX9_numberHere_29 ?_
        refine lv_topi (fun x_4 ex_4 => ?_)
        refine lv_aload_n hx hb dX9_numberHere_30 rfl (lv_at hl 2 rfl) ?_
        refine xg hF kf_X9_37 hK hP 0 rfl rfl dX9_numberHere_31 ?_
        refine lv_iload_n hx hb dX9_numberHere_34 rfl (lv_at hl 0 rfl) ?_
        refine va_iald hx hb hK hP 1 0 rfl rfl (vp_in_nI (show i < 120 by omega) (by decide)) dX9_numberHere_35 ?_
        refine xl_i (y := tp i) (congrArg tp (nI_clamp (show i < 2 ^ 31 by omega))) ?_
        refine lv_iadd hx hb dX9_numberHere_36 ?_
        refine lv_topi (fun x_5 ex_5 => ?_)
        refine lv_bipush (v := 48) hx hb dX9_numberHere_37 (by decide) ?_
        refine lv_isub hx hb dX9_numberHere_39 ?_
        refine lv_topi (fun x_6 ex_6 => ?_)
        refine lv_istore_n (lv' := [(1, .int x_6), (2, .int (nI (i))), (0, .ref h0)]) hx hb dX9_numberHere_40 rfl hl (by decide) rfl (fun ls hl => ?_)
        refine lv_iinc (v := nI (i + 1)) (lv' := [(2, .int (nI (i + 1))), (1, .int x_6), (0, .ref h0)]) hx hb dX9_numberHere_41 hl (k := 1) rfl (nI_1 (i)) (by decide) rfl (fun ls hl => ?_)
        refine lv_goto (tgt := 7) hx hb dX9_numberHere_44 (by decide) ?_
        exact ih_7 (i + 1) x_6 _ (by omega) (by omega) (lv_sub hl [0, 1, 2] rfl)
      · skip
        refine lv_iload_n hx hb dX9_numberHere_22 rfl (lv_at hl 1 rfl) ?_
        refine lv_goto (tgt := 40) hx hb dX9_numberHere_23 (by decide) ?_
        refine lv_istore_n (lv' := [(1, .int u8), (2, .int (nI (i))), (0, .ref h0)]) hx hb dX9_numberHere_40 rfl hl (by decide) rfl (fun ls hl => ?_)
        refine lv_iinc (v := nI (i + 1)) (lv' := [(2, .int (nI (i + 1))), (1, .int u8), (0, .ref h0)]) hx hb dX9_numberHere_41 hl (k := 1) rfl (nI_1 (i)) (by decide) rfl (fun ls hl => ?_)
        refine lv_goto (tgt := 7) hx hb dX9_numberHere_44 (by decide) ?_
        exact ih_7 (i + 1) u8 _ (by omega) (by omega) (lv_sub hl [0, 1, 2] rfl)
set_option maxHeartbeats 4000000 in
set_option maxRecDepth 100000 in
theorem c_X9_numberHere0 (l : Launch) (D : va_G) (cI cJ cZ cS : ClassId) (ta : Nat) (sa sv : Nat → Nat) (sz : Nat) (h0 : Nat) (ys : Nat) (yk : Nat) (yo : Nat) (yt : Nat) (mk0 : Int32) (yfa : Nat) (yfe : Nat) (mL : Int32) (mS : Int32) (mM : Int32) (yro : Nat) (yhe : Nat) (ygr : Nat) (mF : Int32) (mC : Int32) (mY : Int32) (yta : Nat) (mz : Nat) (mv : Int32) (ywa : Nat) (ybi : Nat) (ysi : Nat) (ynu : Nat) (ymo : Nat) (tp : Nat → Int32) (u9 : Nat) (bb : Nat → Int32) (hz : mz ≤ 120) (hbb : bA tp mz = bb) (hu9 : u9 ≤ mz) : Met l yX9_numberHere (Cond.code yX9_numberHere cX9_numberHere 3 (some .int) :: wsU) ({ frames := 2, cells := 0, slots := 0, locals := 45 }) (va_Pc [.ref h0] (XW D (xT cI cJ cZ cS) ta sa sv [(h0, .inr (9, [.ref ys, .ref yk, .ref yo, .ref yt, .int mk0, .ref yfa, .ref yfe, .int mL, .int mS, .int mM, .ref yro, .ref yhe, .ref ygr, .int mF, .int mC, .int mY, .ref yta, .int (nI (mz)), .int (nI (nf bb mz u9)), .int (nI (nx bb mz u9)), .int mv, .int 0, .ref ywa, .ref ybi, .ref ysi, .ref ynu, .ref ymo])), (yta, .inl (cI, 120, .inl tp))] sz)) (vp_Si (fun r : Int32 => (r = nI (num bb (nf bb mz u9) (nx bb mz u9)) ∧ (kd bb mz (nf bb mz u9) = 2)) ∨ (r = (-1) ∧ (¬ kd bb mz (nf bb mz u9) = 2)))) 0 0 (fun _ => False) := by
  refine xh (QA := fun _ => vp_Si (fun r : Int32 => (r = nI (num bb (nf bb mz u9) (nx bb mz u9)) ∧ (kd bb mz (nf bb mz u9) = 2)) ∨ (r = (-1) ∧ (¬ kd bb mz (nf bb mz u9) = 2)))) (fr := fun _ _ => False) (by decide) (Nat.le_of_ble_eq_true rfl) ?_
  intro p e s m below meth c ls A hF hr hlk hin hsz hP hK hD hN hZ hA hS hl
  have hF : CallFix p m c cX9_numberHere 3 s _ _ RX9 := hF
  have hx := hF.1
  have hb := hF.2.1
  have hml := hF.2.2.1
  have hown := hF.2.2.2.1
  have hu : ∀ w ∈ wsU, w.before _ s = true := fun w h => hF.2.2.2.2 w (List.mem_cons_of_mem _ h)
  have hl : lv_has ls 3 [(0, .ref h0)] := hl
  have htk := tk_le (b := bb) hu9
  rcases Classical.em (kd bb mz (nf bb mz u9) = 2) with hK9 | hK9
  · skip
    refine lv_iconst (v := 0) hx hb dX9_numberHere_0 (by decide) ?_
    refine lv_istore_n (lv' := [(1, .int 0), (0, .ref h0)]) hx hb dX9_numberHere_1 rfl hl (by decide) rfl (fun ls hl => ?_)
    refine lv_aload_n hx hb dX9_numberHere_2 rfl (lv_at hl 1 rfl) ?_
    refine xg hF kf_X9_254 hK hP 0 rfl rfl dX9_numberHere_3 ?_
    refine lv_istore_n (lv' := [(2, .int (nI (nf bb mz u9))), (1, .int 0), (0, .ref h0)]) hx hb dX9_numberHere_6 rfl hl (by decide) rfl (fun ls hl => ?_)
    suffices loop_7 : ∀ (n_7 : Nat) (i : Nat) (v8 : Nat) (ls : Array Slot), nx bb mz u9 - i < n_7 → (nf bb mz u9 ≤ i) → (i ≤ nx bb mz u9) → (v8 = nvM bb (i - nf bb mz u9) (nf bb mz u9) 0) → (v8 ≤ 99999) → lv_has ls 3 [(2, .int (nI (i))), (1, .int (nI (v8))), (0, .ref h0)] → W p l e ({ frames := 2, cells := 0, slots := 0, locals := 45 }) s m ([.ref h0] : List Value).toArray below meth c s.heap [] 0 0 (MQ below (vp_Si (fun r : Int32 => (r = nI (num bb (nf bb mz u9) (nx bb mz u9)) ∧ (kd bb mz (nf bb mz u9) = 2)) ∨ (r = (-1) ∧ (¬ kd bb mz (nf bb mz u9) = 2)))) ([.ref h0] : List Value).toArray s 0 0 (fun _ => False)) (F0 m 7 ls []) by
      exact loop_7 _ (nf bb mz u9) 0 _ (Nat.lt_succ_self _) (by omega) (by omega) (by rw [Nat.sub_self]; rfl) (by omega) (lv_sub hl [0, 1, 2] rfl)
    intro n_7
    induction n_7 with
    | zero =>
      intro i v8 ls hm_7
      exact absurd hm_7 (Nat.not_lt_zero _)
    | succ n_7 ih_7 =>
      intro i v8 ls hm_7 hi1 hi2 hv8 hvb hl
      refine lv_iload_n hx hb dX9_numberHere_7 rfl (lv_at hl 0 rfl) ?_
      refine lv_aload_n hx hb dX9_numberHere_8 rfl (lv_at hl 2 rfl) ?_
      refine xg hF kf_X9_251 hK hP 0 rfl rfl dX9_numberHere_9 ?_
      refine lv_icmp_ge (tgt := 47) hx hb dX9_numberHere_12 (by decide) (fun c_1 => ?_) (fun c_1 => ?_)
      · skip
        have nc_1 : nx bb mz u9 ≤ i := xn_le (a := (nx bb mz u9)) (b := i) (by omega) (by omega) c_1
        refine lv_aload_n hx hb dX9_numberHere_47 rfl (lv_at hl 2 rfl) ?_
        refine xg hF kf_X9_266 hK hP 0 rfl rfl dX9_numberHere_48 ?_
        refine lv_if_ne (tgt := 72) hx hb dX9_numberHere_51 (by decide) (fun c_2 => absurd (by decide) c_2) (fun c_2 => ?_)
        refine lv_aload_n hx hb dX9_numberHere_54 rfl (lv_at hl 2 rfl) ?_
        refine lv_aload_n hx hb dX9_numberHere_55 rfl (lv_at hl 2 rfl) ?_
        refine xg hF kf_X9_254 hK hP 0 rfl rfl dX9_numberHere_56 ?_
        refine xc_Vr hF (c_X9_byteAt l D cI cJ cZ cS ta sa sv s.heap.size h0 ys yk yo yt mk0 yfa yfe mL mS mM yro yhe ygr mF mC mY yta mz (nf bb mz u9) (nx bb mz u9) mv 0 ywa ybi ysi ynu ymo tp (nf bb mz u9) bb (by omega) hbb (by omega)) kv_X9_257 ⟨rfl, rfl, Nat.le_of_ble_eq_true rfl, Nat.le_of_ble_eq_true rfl⟩ ⟨Nat.le_of_ble_eq_true rfl, Nat.le_of_ble_eq_true rfl⟩ hK hN hZ hP hD hS hA [0, 1] rfl rfl 0 rfl rfl rfl rfl hl.1 rfl (Nat.le_of_ble_eq_true rfl) dX9_numberHere_59 (fun r_3 hw_r_3 => ?_)
        rcases hw_r_3 with ⟨rfl, h_4⟩ | ⟨rfl, h_5⟩
        · skip
          refine xc_Sr hF (c_X9_isDigit l D cI cJ cZ cS ta sa sv s.heap.size (bb (nf bb mz u9)) ) ks_X9_263 ⟨rfl, rfl, Nat.le_of_ble_eq_true rfl, Nat.le_of_ble_eq_true rfl⟩ ⟨Nat.le_of_ble_eq_true rfl, Nat.le_of_ble_eq_true rfl⟩ hK hN hZ hP hD hS hA [] rfl rfl rfl hl.1 rfl (Nat.le_of_ble_eq_true rfl) dX9_numberHere_62 (fun r_6 hw_r_6 => ?_)
          rcases hw_r_6 with ⟨rfl, h_7, h_8⟩ | ⟨rfl, h_9⟩
          · skip
            refine lv_if_eq (tgt := 72) hx hb dX9_numberHere_65 (by decide) (fun c_10 => absurd c_10 (by decide)) (fun c_10 => ?_)
            refine lv_iload_n hx hb dX9_numberHere_68 rfl (lv_at hl 1 rfl) ?_
            refine lv_goto (tgt := 73) hx hb dX9_numberHere_69 (by decide) ?_
            have hn8 : v8 = num bb (nf bb mz u9) (nx bb mz u9) := hv8.trans (by rw [show i = nx bb mz u9 by omega]; rfl)
            exact W.iret (v := nI (v8)) hx hb hr (fun t ht hW => ⟨nI (v8), rfl, Or.inl ⟨congrArg nI hn8, hK9⟩, ht⟩) (fun q h => by cases h) dX9_numberHere_73 hlk
          · exact absurd hK9 (kd_nD h_9)
        · exact absurd hK9 (kd_nz h_5)
      · skip
        have nc_1 : i < nx bb mz u9 := xn_nle (a := (nx bb mz u9)) (b := i) (by omega) (by omega) c_1
        refine lv_iload_n hx hb dX9_numberHere_15 rfl (lv_at hl 1 rfl) ?_
        refine lv_sipush (v := 9999) hx hb dX9_numberHere_16 (by decide) ?_
        refine lv_icmp_le (tgt := 26) hx hb dX9_numberHere_19 (by decide) (fun c_11 => ?_) (fun c_11 => ?_)
        · skip
          have nc_11 : v8 ≤ 9999 := xn_le (a := v8) (b := 9999) (by omega) (by omega) c_11
          refine lv_bipush (v := 10) hx hb dX9_numberHere_26 (by decide) ?_
          refine lv_iload_n hx hb dX9_numberHere_28 rfl (lv_at hl 1 rfl) ?_
          refine lv_imul hx hb dX9_numberHere_29 ?_
          refine xl_i (y := nI (10 * v8)) (pk_mul 10 v8) ?_
          refine lv_aload_n hx hb dX9_numberHere_30 rfl (lv_at hl 2 rfl) ?_
          refine xg hF kf_X9_37 hK hP 0 rfl rfl dX9_numberHere_31 ?_
          refine lv_iload_n hx hb dX9_numberHere_34 rfl (lv_at hl 0 rfl) ?_
          refine va_iald hx hb hK hP 1 0 rfl rfl (vp_in_nI (show i < 120 by omega) (by decide)) dX9_numberHere_35 ?_
          refine xl_i (y := tp i) (congrArg tp (nI_clamp (show i < 2 ^ 31 by omega))) ?_
          obtain ⟨z_12, ez_12, hz_120, hz_121, hz_122⟩ := st_digM hbb hK9 (show nf bb mz u9 ≤ i by omega) (show i < ne bb mz (nf bb mz u9) by show i < nx bb mz u9; omega) (by omega)
          refine xl_i (y := nI (z_12)) ez_12 ?_
          refine lv_iadd hx hb dX9_numberHere_36 ?_
          refine xl_i (y := nI (10 * v8 + z_12)) (nI_add (10 * v8) z_12) ?_
          refine lv_bipush (v := 48) hx hb dX9_numberHere_37 (by decide) ?_
          refine lv_isub hx hb dX9_numberHere_39 ?_
          refine xl_i (y := nI (10 * v8 + z_12 - 48)) (pk_sub (show 48 ≤ 10 * v8 + z_12 by omega)) ?_
          refine lv_istore_n (lv' := [(1, .int (nI (10 * v8 + z_12 - 48))), (2, .int (nI (i))), (0, .ref h0)]) hx hb dX9_numberHere_40 rfl hl (by decide) rfl (fun ls hl => ?_)
          refine lv_iinc (v := nI (i + 1)) (lv' := [(2, .int (nI (i + 1))), (1, .int (nI (10 * v8 + z_12 - 48))), (0, .ref h0)]) hx hb dX9_numberHere_41 hl (k := 1) rfl (nI_1 (i)) (by decide) rfl (fun ls hl => ?_)
          refine lv_goto (tgt := 7) hx hb dX9_numberHere_44 (by decide) ?_
          exact ih_7 (i + 1) (10 * v8 + z_12 - 48) _ (by omega) (by omega) (by omega) (nv_put (by omega) hv8 (by omega) hz_122 (by omega)) (by omega) (lv_sub hl [0, 1, 2] rfl)
        · skip
          have nc_11 : 9999 < v8 := xn_nle (a := v8) (b := 9999) (by omega) (by omega) c_11
          refine lv_iload_n hx hb dX9_numberHere_22 rfl (lv_at hl 1 rfl) ?_
          refine lv_goto (tgt := 40) hx hb dX9_numberHere_23 (by decide) ?_
          refine lv_istore_n (lv' := [(1, .int (nI (v8))), (2, .int (nI (i))), (0, .ref h0)]) hx hb dX9_numberHere_40 rfl hl (by decide) rfl (fun ls hl => ?_)
          refine lv_iinc (v := nI (i + 1)) (lv' := [(2, .int (nI (i + 1))), (1, .int (nI (v8))), (0, .ref h0)]) hx hb dX9_numberHere_41 hl (k := 1) rfl (nI_1 (i)) (by decide) rfl (fun ls hl => ?_)
          refine lv_goto (tgt := 7) hx hb dX9_numberHere_44 (by decide) ?_
          exact ih_7 (i + 1) v8 _ (by omega) (by omega) (by omega) (nv_keep (by omega) hv8 (by omega)) (by omega) (lv_sub hl [0, 1, 2] rfl)
  · skip
    refine lv_iconst (v := 0) hx hb dX9_numberHere_0 (by decide) ?_
    refine lv_istore_n (lv' := [(1, .int 0), (0, .ref h0)]) hx hb dX9_numberHere_1 rfl hl (by decide) rfl (fun ls hl => ?_)
    refine lv_aload_n hx hb dX9_numberHere_2 rfl (lv_at hl 1 rfl) ?_
    refine xg hF kf_X9_254 hK hP 0 rfl rfl dX9_numberHere_3 ?_
    refine lv_istore_n (lv' := [(2, .int (nI (nf bb mz u9))), (1, .int 0), (0, .ref h0)]) hx hb dX9_numberHere_6 rfl hl (by decide) rfl (fun ls hl => ?_)
    suffices loop_7 : ∀ (n_7 : Nat) (i : Nat) (u8 : Int32) (ls : Array Slot), 120 - i < n_7 → (i ≤ 120) → lv_has ls 3 [(2, .int (nI (i))), (1, .int u8), (0, .ref h0)] → W p l e ({ frames := 2, cells := 0, slots := 0, locals := 45 }) s m ([.ref h0] : List Value).toArray below meth c s.heap [] 0 0 (MQ below (vp_Si (fun r : Int32 => (r = nI (num bb (nf bb mz u9) (nx bb mz u9)) ∧ (kd bb mz (nf bb mz u9) = 2)) ∨ (r = (-1) ∧ (¬ kd bb mz (nf bb mz u9) = 2)))) ([.ref h0] : List Value).toArray s 0 0 (fun _ => False)) (F0 m 7 ls []) by
      exact loop_7 _ (nf bb mz u9) 0 _ (Nat.lt_succ_self _) (by omega) (lv_sub hl [0, 1, 2] rfl)
    intro n_7
    induction n_7 with
    | zero =>
      intro i u8 ls hm_7
      exact absurd hm_7 (Nat.not_lt_zero _)
    | succ n_7 ih_7 =>
      intro i u8 ls hm_7 hi2 hl
      refine lv_iload_n hx hb dX9_numberHere_7 rfl (lv_at hl 0 rfl) ?_
      refine lv_aload_n hx hb dX9_numberHere_8 rfl (lv_at hl 2 rfl) ?_
      refine xg hF kf_X9_251 hK hP 0 rfl rfl dX9_numberHere_9 ?_
      refine lv_icmp_ge (tgt := 47) hx hb dX9_numberHere_12 (by decide) (fun c_13 => ?_) (fun c_13 => ?_)
      · skip
        have nc_13 : nx bb mz u9 ≤ i := xn_le (a := (nx bb mz u9)) (b := i) (by omega) (by omega) c_13
        refine lv_aload_n hx hb dX9_numberHere_47 rfl (lv_at hl 2 rfl) ?_
        refine xg hF kf_X9_266 hK hP 0 rfl rfl dX9_numberHere_48 ?_
        refine lv_if_ne (tgt := 72) hx hb dX9_numberHere_51 (by decide) (fun c_14 => absurd (by decide) c_14) (fun c_14 => ?_)
        refine lv_aload_n hx hb dX9_numberHere_54 rfl (lv_at hl 2 rfl) ?_
        refine lv_aload_n hx hb dX9_numberHere_55 rfl (lv_at hl 2 rfl) ?_
        refine xg hF kf_X9_254 hK hP 0 rfl rfl dX9_numberHere_56 ?_
        refine xc_Vr hF (c_X9_byteAt l D cI cJ cZ cS ta sa sv s.heap.size h0 ys yk yo yt mk0 yfa yfe mL mS mM yro yhe ygr mF mC mY yta mz (nf bb mz u9) (nx bb mz u9) mv 0 ywa ybi ysi ynu ymo tp (nf bb mz u9) bb (by omega) hbb (by omega)) kv_X9_257 ⟨rfl, rfl, Nat.le_of_ble_eq_true rfl, Nat.le_of_ble_eq_true rfl⟩ ⟨Nat.le_of_ble_eq_true rfl, Nat.le_of_ble_eq_true rfl⟩ hK hN hZ hP hD hS hA [0, 1] rfl rfl 0 rfl rfl rfl rfl hl.1 rfl (Nat.le_of_ble_eq_true rfl) dX9_numberHere_59 (fun r_15 hw_r_15 => ?_)
        rcases hw_r_15 with ⟨rfl, h_16⟩ | ⟨rfl, h_17⟩
        · skip
          refine xc_Sr hF (c_X9_isDigit l D cI cJ cZ cS ta sa sv s.heap.size (bb (nf bb mz u9)) ) ks_X9_263 ⟨rfl, rfl, Nat.le_of_ble_eq_true rfl, Nat.le_of_ble_eq_true rfl⟩ ⟨Nat.le_of_ble_eq_true rfl, Nat.le_of_ble_eq_true rfl⟩ hK hN hZ hP hD hS hA [] rfl rfl rfl hl.1 rfl (Nat.le_of_ble_eq_true rfl) dX9_numberHere_62 (fun r_18 hw_r_18 => ?_)
          rcases hw_r_18 with ⟨rfl, h_19, h_20⟩ | ⟨rfl, h_21⟩
          · exact absurd (kd_D (by omega) ⟨h_19, h_20⟩) hK9
          · skip
            refine lv_if_eq (tgt := 72) hx hb dX9_numberHere_65 (by decide) (fun c_22 => ?_) (fun c_22 => absurd (by decide) c_22)
            refine lv_iconst (v := (-1)) hx hb dX9_numberHere_72 (by decide) ?_
            exact W.iret (v := (-1)) hx hb hr (fun t ht hW => ⟨(-1), rfl, Or.inr ⟨rfl, hK9⟩, ht⟩) (fun q h => by cases h) dX9_numberHere_73 hlk
        · skip
          refine xc_Sr hF (c_X9_isDigitM l D cI cJ cZ cS ta sa sv s.heap.size  ) ks_X9_263 ⟨rfl, rfl, Nat.le_of_ble_eq_true rfl, Nat.le_of_ble_eq_true rfl⟩ ⟨Nat.le_of_ble_eq_true rfl, Nat.le_of_ble_eq_true rfl⟩ hK hN hZ hP hD hS hA [] rfl rfl rfl hl.1 rfl (Nat.le_of_ble_eq_true rfl) dX9_numberHere_62 (fun r_23 hw_r_23 => ?_)
          subst hw_r_23
          refine lv_if_eq (tgt := 72) hx hb dX9_numberHere_65 (by decide) (fun c_24 => ?_) (fun c_24 => absurd (by decide) c_24)
          refine lv_iconst (v := (-1)) hx hb dX9_numberHere_72 (by decide) ?_
          exact W.iret (v := (-1)) hx hb hr (fun t ht hW => ⟨(-1), rfl, Or.inr ⟨rfl, hK9⟩, ht⟩) (fun q h => by cases h) dX9_numberHere_73 hlk
      · skip
        have nc_13 : i < nx bb mz u9 := xn_nle (a := (nx bb mz u9)) (b := i) (by omega) (by omega) c_13
        refine lv_iload_n hx hb dX9_numberHere_15 rfl (lv_at hl 1 rfl) ?_
        refine lv_sipush (v := 9999) hx hb dX9_numberHere_16 (by decide) ?_
        refine lv_icmp_le (tgt := 26) hx hb dX9_numberHere_19 (by decide) (fun c_25 => ?_) (fun c_25 => ?_)
        · skip
          refine lv_bipush (v := 10) hx hb dX9_numberHere_26 (by decide) ?_
          refine lv_iload_n hx hb dX9_numberHere_28 rfl (lv_at hl 1 rfl) ?_
          refine lv_imul hx hb dX9_numberHere_29 ?_
          refine lv_topi (fun x_26 ex_26 => ?_)
          refine lv_aload_n hx hb dX9_numberHere_30 rfl (lv_at hl 2 rfl) ?_
          refine xg hF kf_X9_37 hK hP 0 rfl rfl dX9_numberHere_31 ?_
          refine lv_iload_n hx hb dX9_numberHere_34 rfl (lv_at hl 0 rfl) ?_
          refine va_iald hx hb hK hP 1 0 rfl rfl (vp_in_nI (show i < 120 by omega) (by decide)) dX9_numberHere_35 ?_
          refine xl_i (y := tp i) (congrArg tp (nI_clamp (show i < 2 ^ 31 by omega))) ?_
          refine lv_iadd hx hb dX9_numberHere_36 ?_
          refine lv_topi (fun x_27 ex_27 => ?_)
          refine lv_bipush (v := 48) hx hb dX9_numberHere_37 (by decide) ?_
          refine lv_isub hx hb dX9_numberHere_39 ?_
          refine lv_topi (fun x_28 ex_28 => ?_)
          refine lv_istore_n (lv' := [(1, .int x_28), (2, .int (nI (i))), (0, .ref h0)]) hx hb dX9_numberHere_40 rfl hl (by decide) rfl (fun ls hl => ?_)
          refine lv_iinc (v := nI (i + 1)) (lv' := [(2, .int (nI (i + 1))), (1, .int x_28), (0, .ref h0)]) hx hb dX9_numberHere_41 hl (k := 1) rfl (nI_1 (i)) (by decide) rfl (fun ls hl => ?_)
          refine lv_goto (tgt := 7) hx hb dX9_numberHere_44 (by decide) ?_
          exact ih_7 (i + 1) x_28 _ (by omega) (by omega) (lv_sub hl [0, 1, 2] rfl)
        · skip
          refine lv_iload_n hx hb dX9_numberHere_22 rfl (lv_at hl 1 rfl) ?_
          refine lv_goto (tgt := 40) hx hb dX9_numberHere_23 (by decide) ?_
          refine lv_istore_n (lv' := [(1, .int u8), (2, .int (nI (i))), (0, .ref h0)]) hx hb dX9_numberHere_40 rfl hl (by decide) rfl (fun ls hl => ?_)
          refine lv_iinc (v := nI (i + 1)) (lv' := [(2, .int (nI (i + 1))), (1, .int u8), (0, .ref h0)]) hx hb dX9_numberHere_41 hl (k := 1) rfl (nI_1 (i)) (by decide) rfl (fun ls hl => ?_)
          refine lv_goto (tgt := 7) hx hb dX9_numberHere_44 (by decide) ?_
          exact ih_7 (i + 1) u8 _ (by omega) (by omega) (lv_sub hl [0, 1, 2] rfl)
