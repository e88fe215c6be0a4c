def LRX9_image_3 : List UInt8 := []
def LBX9_image_2 : List UInt8 := [0x04, 0xac]
def LRX9_image_2 : List UInt8 := LBX9_image_2 ++ LRX9_image_3
def LBX9_image_1 : List UInt8 := [0x00, 0x07, 0x1b, 0x2e, 0x4f, 0x84, 0x01, 0x01, 0xa7, 0xff, 0xea, 0x2a, 0x04, 0xb5, 0x01, 0x3d]
def LRX9_image_1 : List UInt8 := LBX9_image_1 ++ LRX9_image_2
def LBX9_image_0 : List UInt8 := [0x03, 0x3c, 0x1b, 0x11, 0x01, 0xc1, 0xa2, 0x00, 0x15, 0x2a, 0xb4, 0x00, 0x0d, 0x1b, 0x2a, 0xb4]
def LRX9_image_0 : List UInt8 := LBX9_image_0 ++ LRX9_image_1
set_option maxRecDepth 100000 in
theorem LBX9_image_eq : cX9_image.data.toList = LRX9_image_0 := by decide +kernel
theorem LBX9_imager_0 (k : Nat) : cX9_image.data.toList[0 + k]? = LRX9_image_0[k]? := by rw [LBX9_image_eq, Nat.zero_add]
theorem LBX9_imager_1 (k : Nat) : cX9_image.data.toList[16 + k]? = LRX9_image_1[k]? := by
  have h := LBX9_imager_0 (16 + k)
  rw [show 0 + (16 + k) = 16 + k by omega] at h
  rw [h]
  exact (List.getElem?_append_right (l₁ := LBX9_image_0) (l₂ := LRX9_image_1) (show 16 ≤ 16 + k by omega)).trans (congrArg (fun i => LRX9_image_1[i]?) (show 16 + k - 16 = k by omega))
theorem LBX9_imager_2 (k : Nat) : cX9_image.data.toList[32 + k]? = LRX9_image_2[k]? := by
  have h := LBX9_imager_1 (16 + k)
  rw [show 16 + (16 + k) = 32 + k by omega] at h
  rw [h]
  exact (List.getElem?_append_right (l₁ := LBX9_image_1) (l₂ := LRX9_image_2) (show 16 ≤ 16 + k by omega)).trans (congrArg (fun i => LRX9_image_2[i]?) (show 16 + k - 16 = k by omega))
theorem dX9_image_0 : decode cX9_image 0 = .ok (.iconst 0, 1) := dk_3_ (show cX9_image.data.toList[0]? = some 0x03 from (LBX9_imager_0 0).trans (by decide +kernel))
theorem dX9_image_1 : decode cX9_image 1 = .ok (.istore_n 1, 1) := dk_60_ (show cX9_image.data.toList[1]? = some 0x3c from (LBX9_imager_0 1).trans (by decide +kernel))
theorem dX9_image_2 : decode cX9_image 2 = .ok (.iload_n 1, 1) := dk_27_ (show cX9_image.data.toList[2]? = some 0x1b from (LBX9_imager_0 2).trans (by decide +kernel))
theorem dX9_image_3 : decode cX9_image 3 = .ok (.sipush 449, 3) := dk_17_ (show cX9_image.data.toList[3]? = some 0x11 from (LBX9_imager_0 3).trans (by decide +kernel)) (show cX9_image.data.toList[4]? = some 0x01 from (LBX9_imager_0 4).trans (by decide +kernel)) (show cX9_image.data.toList[5]? = some 0xc1 from (LBX9_imager_0 5).trans (by decide +kernel)) (by decide)
theorem dX9_image_6 : decode cX9_image 6 = .ok (.if_icmp .ge 21, 3) := dk_162_ (show cX9_image.data.toList[6]? = some 0xa2 from (LBX9_imager_0 6).trans (by decide +kernel)) (show cX9_image.data.toList[7]? = some 0x00 from (LBX9_imager_0 7).trans (by decide +kernel)) (show cX9_image.data.toList[8]? = some 0x15 from (LBX9_imager_0 8).trans (by decide +kernel)) (by decide)
theorem dX9_image_9 : decode cX9_image 9 = .ok (.aload_n 0, 1) := dk_42_ (show cX9_image.data.toList[9]? = some 0x2a from (LBX9_imager_0 9).trans (by decide +kernel))
theorem dX9_image_10 : decode cX9_image 10 = .ok (.getfield 13, 3) := dk_180_ (show cX9_image.data.toList[10]? = some 0xb4 from (LBX9_imager_0 10).trans (by decide +kernel)) (show cX9_image.data.toList[11]? = some 0x00 from (LBX9_imager_0 11).trans (by decide +kernel)) (show cX9_image.data.toList[12]? = some 0x0d from (LBX9_imager_0 12).trans (by decide +kernel)) (by decide)
theorem dX9_image_13 : decode cX9_image 13 = .ok (.iload_n 1, 1) := dk_27_ (show cX9_image.data.toList[13]? = some 0x1b from (LBX9_imager_0 13).trans (by decide +kernel))
theorem dX9_image_14 : decode cX9_image 14 = .ok (.aload_n 0, 1) := dk_42_ (show cX9_image.data.toList[14]? = some 0x2a from (LBX9_imager_0 14).trans (by decide +kernel))
theorem dX9_image_15 : decode cX9_image 15 = .ok (.getfield 7, 3) := dk_180_ (show cX9_image.data.toList[15]? = some 0xb4 from (LBX9_imager_0 15).trans (by decide +kernel)) (show cX9_image.data.toList[16]? = some 0x00 from (LBX9_imager_1 0).trans (by decide +kernel)) (show cX9_image.data.toList[17]? = some 0x07 from (LBX9_imager_1 1).trans (by decide +kernel)) (by decide)
theorem dX9_image_18 : decode cX9_image 18 = .ok (.iload_n 1, 1) := dk_27_ (show cX9_image.data.toList[18]? = some 0x1b from (LBX9_imager_1 2).trans (by decide +kernel))
theorem dX9_image_19 : decode cX9_image 19 = .ok (.iaload, 1) := dk_46_ (show cX9_image.data.toList[19]? = some 0x2e from (LBX9_imager_1 3).trans (by decide +kernel))
theorem dX9_image_20 : decode cX9_image 20 = .ok (.iastore, 1) := dk_79_ (show cX9_image.data.toList[20]? = some 0x4f from (LBX9_imager_1 4).trans (by decide +kernel))
theorem dX9_image_21 : decode cX9_image 21 = .ok (.iinc 1 1, 3) := dk_132_ (show cX9_image.data.toList[21]? = some 0x84 from (LBX9_imager_1 5).trans (by decide +kernel)) (show cX9_image.data.toList[22]? = some 0x01 from (LBX9_imager_1 6).trans (by decide +kernel)) (show cX9_image.data.toList[23]? = some 0x01 from (LBX9_imager_1 7).trans (by decide +kernel)) (by decide) (by decide)
theorem dX9_image_24 : decode cX9_image 24 = .ok (.goto (-22), 3) := dk_167_ (show cX9_image.data.toList[24]? = some 0xa7 from (LBX9_imager_1 8).trans (by decide +kernel)) (show cX9_image.data.toList[25]? = some 0xff from (LBX9_imager_1 9).trans (by decide +kernel)) (show cX9_image.data.toList[26]? = some 0xea from (LBX9_imager_1 10).trans (by decide +kernel)) (by decide)
theorem dX9_image_27 : decode cX9_image 27 = .ok (.aload_n 0, 1) := dk_42_ (show cX9_image.data.toList[27]? = some 0x2a from (LBX9_imager_1 11).trans (by decide +kernel))
theorem dX9_image_28 : decode cX9_image 28 = .ok (.iconst 1, 1) := dk_4_ (show cX9_image.data.toList[28]? = some 0x04 from (LBX9_imager_1 12).trans (by decide +kernel))
theorem dX9_image_29 : decode cX9_image 29 = .ok (.putfield 317, 3) := dk_181_ (show cX9_image.data.toList[29]? = some 0xb5 from (LBX9_imager_1 13).trans (by decide +kernel)) (show cX9_image.data.toList[30]? = some 0x01 from (LBX9_imager_1 14).trans (by decide +kernel)) (show cX9_image.data.toList[31]? = some 0x3d from (LBX9_imager_1 15).trans (by decide +kernel)) (by decide)
theorem dX9_image_32 : decode cX9_image 32 = .ok (.iconst 1, 1) := dk_4_ (show cX9_image.data.toList[32]? = some 0x04 from (LBX9_imager_2 0).trans (by decide +kernel))
theorem dX9_image_33 : decode cX9_image 33 = .ok (.ireturn, 1) := dk_172_ (show cX9_image.data.toList[33]? = some 0xac from (LBX9_imager_2 1).trans (by decide +kernel))
def LRX9_undo_3 : List UInt8 := []
def LBX9_undo_2 : List UInt8 := [0x1b, 0x2e, 0x4f, 0x84, 0x01, 0x01, 0xa7, 0xff, 0xea, 0x2a, 0xb4, 0x00, 0x07, 0x03, 0x2e, 0xac]
def LRX9_undo_2 : List UInt8 := LBX9_undo_2 ++ LRX9_undo_3
def LBX9_undo_1 : List UInt8 := [0x1b, 0x11, 0x01, 0xc1, 0xa2, 0x00, 0x15, 0x2a, 0xb4, 0x00, 0x07, 0x1b, 0x2a, 0xb4, 0x00, 0x0d]
def LRX9_undo_1 : List UInt8 := LBX9_undo_1 ++ LRX9_undo_2
def LBX9_undo_0 : List UInt8 := [0x2a, 0xb4, 0x01, 0x3d, 0x9a, 0x00, 0x0a, 0x2a, 0x12, 0x60, 0xb6, 0x00, 0x46, 0xac, 0x03, 0x3c]
def LRX9_undo_0 : List UInt8 := LBX9_undo_0 ++ LRX9_undo_1
set_option maxRecDepth 100000 in
theorem LBX9_undo_eq : cX9_undo.data.toList = LRX9_undo_0 := by decide +kernel
theorem LBX9_undor_0 (k : Nat) : cX9_undo.data.toList[0 + k]? = LRX9_undo_0[k]? := by rw [LBX9_undo_eq, Nat.zero_add]
theorem LBX9_undor_1 (k : Nat) : cX9_undo.data.toList[16 + k]? = LRX9_undo_1[k]? := by
  have h := LBX9_undor_0 (16 + k)
  rw [show 0 + (16 + k) = 16 + k by omega] at h
  rw [h]
  exact (List.getElem?_append_right (l₁ := LBX9_undo_0) (l₂ := LRX9_undo_1) (show 16 ≤ 16 + k by omega)).trans (congrArg (fun i => LRX9_undo_1[i]?) (show 16 + k - 16 = k by omega))
theorem LBX9_undor_2 (k : Nat) : cX9_undo.data.toList[32 + k]? = LRX9_undo_2[k]? := by
  have h := LBX9_undor_1 (16 + k)
  rw [show 16 + (16 + k) = 32 + k by omega] at h
  rw [h]
  exact (List.getElem?_append_right (l₁ := LBX9_undo_1) (l₂ := LRX9_undo_2) (show 16 ≤ 16 + k by omega)).trans (congrArg (fun i => LRX9_undo_2[i]?) (show 16 + k - 16 = k by omega))
theorem dX9_undo_0 : decode cX9_undo 0 = .ok (.aload_n 0, 1) := dk_42_ (show cX9_undo.data.toList[0]? = some 0x2a from (LBX9_undor_0 0).trans (by decide +kernel))
theorem dX9_undo_1 : decode cX9_undo 1 = .ok (.getfield 317, 3) := dk_180_ (show cX9_undo.data.toList[1]? = some 0xb4 from (LBX9_undor_0 1).trans (by decide +kernel)) (show cX9_undo.data.toList[2]? = some 0x01 from (LBX9_undor_0 2).trans (by decide +kernel)) (show cX9_undo.data.toList[3]? = some 0x3d from (LBX9_undor_0 3).trans (by decide +kernel)) (by decide)
theorem dX9_undo_4 : decode cX9_undo 4 = .ok (.ifCond .ne 10, 3) := dk_154_ (show cX9_undo.data.toList[4]? = some 0x9a from (LBX9_undor_0 4).trans (by decide +kernel)) (show cX9_undo.data.toList[5]? = some 0x00 from (LBX9_undor_0 5).trans (by decide +kernel)) (show cX9_undo.data.toList[6]? = some 0x0a from (LBX9_undor_0 6).trans (by decide +kernel)) (by decide)
theorem dX9_undo_7 : decode cX9_undo 7 = .ok (.aload_n 0, 1) := dk_42_ (show cX9_undo.data.toList[7]? = some 0x2a from (LBX9_undor_0 7).trans (by decide +kernel))
theorem dX9_undo_8 : decode cX9_undo 8 = .ok (.ldc 96, 2) := dk_18_ (show cX9_undo.data.toList[8]? = some 0x12 from (LBX9_undor_0 8).trans (by decide +kernel)) (show cX9_undo.data.toList[9]? = some 0x60 from (LBX9_undor_0 9).trans (by decide +kernel)) (by decide)
theorem dX9_undo_10 : decode cX9_undo 10 = .ok (.invokevirtual 70, 3) := dk_182_ (show cX9_undo.data.toList[10]? = some 0xb6 from (LBX9_undor_0 10).trans (by decide +kernel)) (show cX9_undo.data.toList[11]? = some 0x00 from (LBX9_undor_0 11).trans (by decide +kernel)) (show cX9_undo.data.toList[12]? = some 0x46 from (LBX9_undor_0 12).trans (by decide +kernel)) (by decide)
theorem dX9_undo_13 : decode cX9_undo 13 = .ok (.ireturn, 1) := dk_172_ (show cX9_undo.data.toList[13]? = some 0xac from (LBX9_undor_0 13).trans (by decide +kernel))
theorem dX9_undo_14 : decode cX9_undo 14 = .ok (.iconst 0, 1) := dk_3_ (show cX9_undo.data.toList[14]? = some 0x03 from (LBX9_undor_0 14).trans (by decide +kernel))
theorem dX9_undo_15 : decode cX9_undo 15 = .ok (.istore_n 1, 1) := dk_60_ (show cX9_undo.data.toList[15]? = some 0x3c from (LBX9_undor_0 15).trans (by decide +kernel))
theorem dX9_undo_16 : decode cX9_undo 16 = .ok (.iload_n 1, 1) := dk_27_ (show cX9_undo.data.toList[16]? = some 0x1b from (LBX9_undor_1 0).trans (by decide +kernel))
theorem dX9_undo_17 : decode cX9_undo 17 = .ok (.sipush 449, 3) := dk_17_ (show cX9_undo.data.toList[17]? = some 0x11 from (LBX9_undor_1 1).trans (by decide +kernel)) (show cX9_undo.data.toList[18]? = some 0x01 from (LBX9_undor_1 2).trans (by decide +kernel)) (show cX9_undo.data.toList[19]? = some 0xc1 from (LBX9_undor_1 3).trans (by decide +kernel)) (by decide)
theorem dX9_undo_20 : decode cX9_undo 20 = .ok (.if_icmp .ge 21, 3) := dk_162_ (show cX9_undo.data.toList[20]? = some 0xa2 from (LBX9_undor_1 4).trans (by decide +kernel)) (show cX9_undo.data.toList[21]? = some 0x00 from (LBX9_undor_1 5).trans (by decide +kernel)) (show cX9_undo.data.toList[22]? = some 0x15 from (LBX9_undor_1 6).trans (by decide +kernel)) (by decide)
theorem dX9_undo_23 : decode cX9_undo 23 = .ok (.aload_n 0, 1) := dk_42_ (show cX9_undo.data.toList[23]? = some 0x2a from (LBX9_undor_1 7).trans (by decide +kernel))
theorem dX9_undo_24 : decode cX9_undo 24 = .ok (.getfield 7, 3) := dk_180_ (show cX9_undo.data.toList[24]? = some 0xb4 from (LBX9_undor_1 8).trans (by decide +kernel)) (show cX9_undo.data.toList[25]? = some 0x00 from (LBX9_undor_1 9).trans (by decide +kernel)) (show cX9_undo.data.toList[26]? = some 0x07 from (LBX9_undor_1 10).trans (by decide +kernel)) (by decide)
theorem dX9_undo_27 : decode cX9_undo 27 = .ok (.iload_n 1, 1) := dk_27_ (show cX9_undo.data.toList[27]? = some 0x1b from (LBX9_undor_1 11).trans (by decide +kernel))
theorem dX9_undo_28 : decode cX9_undo 28 = .ok (.aload_n 0, 1) := dk_42_ (show cX9_undo.data.toList[28]? = some 0x2a from (LBX9_undor_1 12).trans (by decide +kernel))
theorem dX9_undo_29 : decode cX9_undo 29 = .ok (.getfield 13, 3) := dk_180_ (show cX9_undo.data.toList[29]? = some 0xb4 from (LBX9_undor_1 13).trans (by decide +kernel)) (show cX9_undo.data.toList[30]? = some 0x00 from (LBX9_undor_1 14).trans (by decide +kernel)) (show cX9_undo.data.toList[31]? = some 0x0d from (LBX9_undor_1 15).trans (by decide +kernel)) (by decide)
theorem dX9_undo_32 : decode cX9_undo 32 = .ok (.iload_n 1, 1) := dk_27_ (show cX9_undo.data.toList[32]? = some 0x1b from (LBX9_undor_2 0).trans (by decide +kernel))
theorem dX9_undo_33 : decode cX9_undo 33 = .ok (.iaload, 1) := dk_46_ (show cX9_undo.data.toList[33]? = some 0x2e from (LBX9_undor_2 1).trans (by decide +kernel))
theorem dX9_undo_34 : decode cX9_undo 34 = .ok (.iastore, 1) := dk_79_ (show cX9_undo.data.toList[34]? = some 0x4f from (LBX9_undor_2 2).trans (by decide +kernel))
theorem dX9_undo_35 : decode cX9_undo 35 = .ok (.iinc 1 1, 3) := dk_132_ (show cX9_undo.data.toList[35]? = some 0x84 from (LBX9_undor_2 3).trans (by decide +kernel)) (show cX9_undo.data.toList[36]? = some 0x01 from (LBX9_undor_2 4).trans (by decide +kernel)) (show cX9_undo.data.toList[37]? = some 0x01 from (LBX9_undor_2 5).trans (by decide +kernel)) (by decide) (by decide)
theorem dX9_undo_38 : decode cX9_undo 38 = .ok (.goto (-22), 3) := dk_167_ (show cX9_undo.data.toList[38]? = some 0xa7 from (LBX9_undor_2 6).trans (by decide +kernel)) (show cX9_undo.data.toList[39]? = some 0xff from (LBX9_undor_2 7).trans (by decide +kernel)) (show cX9_undo.data.toList[40]? = some 0xea from (LBX9_undor_2 8).trans (by decide +kernel)) (by decide)
theorem dX9_undo_41 : decode cX9_undo 41 = .ok (.aload_n 0, 1) := dk_42_ (show cX9_undo.data.toList[41]? = some 0x2a from (LBX9_undor_2 9).trans (by decide +kernel))
theorem dX9_undo_42 : decode cX9_undo 42 = .ok (.getfield 7, 3) := dk_180_ (show cX9_undo.data.toList[42]? = some 0xb4 from (LBX9_undor_2 10).trans (by decide +kernel)) (show cX9_undo.data.toList[43]? = some 0x00 from (LBX9_undor_2 11).trans (by decide +kernel)) (show cX9_undo.data.toList[44]? = some 0x07 from (LBX9_undor_2 12).trans (by decide +kernel)) (by decide)
theorem dX9_undo_45 : decode cX9_undo 45 = .ok (.iconst 0, 1) := dk_3_ (show cX9_undo.data.toList[45]? = some 0x03 from (LBX9_undor_2 13).trans (by decide +kernel))
theorem dX9_undo_46 : decode cX9_undo 46 = .ok (.iaload, 1) := dk_46_ (show cX9_undo.data.toList[46]? = some 0x2e from (LBX9_undor_2 14).trans (by decide +kernel))
theorem dX9_undo_47 : decode cX9_undo 47 = .ok (.ireturn, 1) := dk_172_ (show cX9_undo.data.toList[47]? = some 0xac from (LBX9_undor_2 15).trans (by decide +kernel))
def LRX9_tear_2 : List UInt8 := []
def LBX9_tear_1 : List UInt8 := [0x01, 0x3d, 0x1b, 0xac]
def LRX9_tear_1 : List UInt8 := LBX9_tear_1 ++ LRX9_tear_2
def LBX9_tear_0 : List UInt8 := [0x2a, 0xb4, 0x01, 0x3d, 0x99, 0x00, 0x07, 0x04, 0xa7, 0x00, 0x04, 0x03, 0x3c, 0x2a, 0x03, 0xb5]
def LRX9_tear_0 : List UInt8 := LBX9_tear_0 ++ LRX9_tear_1
set_option maxRecDepth 100000 in
theorem LBX9_tear_eq : cX9_tear.data.toList = LRX9_tear_0 := by decide +kernel
theorem LBX9_tearr_0 (k : Nat) : cX9_tear.data.toList[0 + k]? = LRX9_tear_0[k]? := by rw [LBX9_tear_eq, Nat.zero_add]
theorem LBX9_tearr_1 (k : Nat) : cX9_tear.data.toList[16 + k]? = LRX9_tear_1[k]? := by
  have h := LBX9_tearr_0 (16 + k)
  rw [show 0 + (16 + k) = 16 + k by omega] at h
  rw [h]
  exact (List.getElem?_append_right (l₁ := LBX9_tear_0) (l₂ := LRX9_tear_1) (show 16 ≤ 16 + k by omega)).trans (congrArg (fun i => LRX9_tear_1[i]?) (show 16 + k - 16 = k by omega))
theorem dX9_tear_0 : decode cX9_tear 0 = .ok (.aload_n 0, 1) := dk_42_ (show cX9_tear.data.toList[0]? = some 0x2a from (LBX9_tearr_0 0).trans (by decide +kernel))
theorem dX9_tear_1 : decode cX9_tear 1 = .ok (.getfield 317, 3) := dk_180_ (show cX9_tear.data.toList[1]? = some 0xb4 from (LBX9_tearr_0 1).trans (by decide +kernel)) (show cX9_tear.data.toList[2]? = some 0x01 from (LBX9_tearr_0 2).trans (by decide +kernel)) (show cX9_tear.data.toList[3]? = some 0x3d from (LBX9_tearr_0 3).trans (by decide +kernel)) (by decide)
theorem dX9_tear_4 : decode cX9_tear 4 = .ok (.ifCond .eq 7, 3) := dk_153_ (show cX9_tear.data.toList[4]? = some 0x99 from (LBX9_tearr_0 4).trans (by decide +kernel)) (show cX9_tear.data.toList[5]? = some 0x00 from (LBX9_tearr_0 5).trans (by decide +kernel)) (show cX9_tear.data.toList[6]? = some 0x07 from (LBX9_tearr_0 6).trans (by decide +kernel)) (by decide)
theorem dX9_tear_7 : decode cX9_tear 7 = .ok (.iconst 1, 1) := dk_4_ (show cX9_tear.data.toList[7]? = some 0x04 from (LBX9_tearr_0 7).trans (by decide +kernel))
theorem dX9_tear_8 : decode cX9_tear 8 = .ok (.goto 4, 3) := dk_167_ (show cX9_tear.data.toList[8]? = some 0xa7 from (LBX9_tearr_0 8).trans (by decide +kernel)) (show cX9_tear.data.toList[9]? = some 0x00 from (LBX9_tearr_0 9).trans (by decide +kernel)) (show cX9_tear.data.toList[10]? = some 0x04 from (LBX9_tearr_0 10).trans (by decide +kernel)) (by decide)
theorem dX9_tear_11 : decode cX9_tear 11 = .ok (.iconst 0, 1) := dk_3_ (show cX9_tear.data.toList[11]? = some 0x03 from (LBX9_tearr_0 11).trans (by decide +kernel))
theorem dX9_tear_12 : decode cX9_tear 12 = .ok (.istore_n 1, 1) := dk_60_ (show cX9_tear.data.toList[12]? = some 0x3c from (LBX9_tearr_0 12).trans (by decide +kernel))
theorem dX9_tear_13 : decode cX9_tear 13 = .ok (.aload_n 0, 1) := dk_42_ (show cX9_tear.data.toList[13]? = some 0x2a from (LBX9_tearr_0 13).trans (by decide +kernel))
theorem dX9_tear_14 : decode cX9_tear 14 = .ok (.iconst 0, 1) := dk_3_ (show cX9_tear.data.toList[14]? = some 0x03 from (LBX9_tearr_0 14).trans (by decide +kernel))
theorem dX9_tear_15 : decode cX9_tear 15 = .ok (.putfield 317, 3) := dk_181_ (show cX9_tear.data.toList[15]? = some 0xb5 from (LBX9_tearr_0 15).trans (by decide +kernel)) (show cX9_tear.data.toList[16]? = some 0x01 from (LBX9_tearr_1 0).trans (by decide +kernel)) (show cX9_tear.data.toList[17]? = some 0x3d from (LBX9_tearr_1 1).trans (by decide +kernel)) (by decide)
theorem dX9_tear_18 : decode cX9_tear 18 = .ok (.iload_n 1, 1) := dk_27_ (show cX9_tear.data.toList[18]? = some 0x1b from (LBX9_tearr_1 2).trans (by decide +kernel))
theorem dX9_tear_19 : decode cX9_tear 19 = .ok (.ireturn, 1) := dk_172_ (show cX9_tear.data.toList[19]? = some 0xac from (LBX9_tearr_1 3).trans (by decide +kernel))
def LRX9_count_7 : List UInt8 := []
def LBX9_count_6 : List UInt8 := [0x03, 0x01, 0xa7, 0xff, 0xe8, 0x1c, 0xac, 0x2a, 0x12, 0x38, 0xb6, 0x00, 0x46, 0xac]
def LRX9_count_6 : List UInt8 := LBX9_count_6 ++ LRX9_count_7
def LBX9_count_5 : List UInt8 := [0x2e, 0xa2, 0x00, 0x14, 0x1c, 0x2a, 0xb4, 0x00, 0x07, 0x06, 0x1d, 0x60, 0x2e, 0x60, 0x3d, 0x84]
def LRX9_count_5 : List UInt8 := LBX9_count_5 ++ LRX9_count_6
def LBX9_count_4 : List UInt8 := [0x05, 0x2e, 0xac, 0x2a, 0xb4, 0x00, 0xf0, 0xac, 0x03, 0x3e, 0x1d, 0x2a, 0xb4, 0x00, 0x07, 0x03]
def LRX9_count_4 : List UInt8 := LBX9_count_4 ++ LRX9_count_5
def LBX9_count_3 : List UInt8 := [0x03, 0xb6, 0x01, 0x40, 0xac, 0x2a, 0xb4, 0x00, 0x07, 0x04, 0x2e, 0xac, 0x2a, 0xb4, 0x00, 0x07]
def LRX9_count_3 : List UInt8 := LBX9_count_3 ++ LRX9_count_4
def LBX9_count_2 : List UInt8 := [0x00, 0x00, 0x00, 0x40, 0x00, 0x00, 0x00, 0x45, 0x2a, 0xb4, 0x00, 0x07, 0x03, 0x2e, 0xac, 0x2a]
def LRX9_count_2 : List UInt8 := LBX9_count_2 ++ LRX9_count_3
def LBX9_count_1 : List UInt8 := [0x00, 0x00, 0x00, 0x25, 0x00, 0x00, 0x00, 0x2c, 0x00, 0x00, 0x00, 0x32, 0x00, 0x00, 0x00, 0x39]
def LRX9_count_1 : List UInt8 := LBX9_count_1 ++ LRX9_count_2
def LBX9_count_0 : List UInt8 := [0x03, 0x3d, 0x1b, 0xaa, 0x00, 0x00, 0x00, 0x64, 0x00, 0x00, 0x00, 0x00, 0x00, 0x00, 0x00, 0x05]
def LRX9_count_0 : List UInt8 := LBX9_count_0 ++ LRX9_count_1
set_option maxRecDepth 100000 in
theorem LBX9_count_eq : cX9_count.data.toList = LRX9_count_0 := by decide +kernel
theorem LBX9_countr_0 (k : Nat) : cX9_count.data.toList[0 + k]? = LRX9_count_0[k]? := by rw [LBX9_count_eq, Nat.zero_add]
theorem LBX9_countr_1 (k : Nat) : cX9_count.data.toList[16 + k]? = LRX9_count_1[k]? := by
  have h := LBX9_countr_0 (16 + k)
  rw [show 0 + (16 + k) = 16 + k by omega] at h
  rw [h]
  exact (List.getElem?_append_right (l₁ := LBX9_count_0) (l₂ := LRX9_count_1) (show 16 ≤ 16 + k by omega)).trans (congrArg (fun i => LRX9_count_1[i]?) (show 16 + k - 16 = k by omega))
theorem LBX9_countr_2 (k : Nat) : cX9_count.data.toList[32 + k]? = LRX9_count_2[k]? := by
  have h := LBX9_countr_1 (16 + k)
  rw [show 16 + (16 + k) = 32 + k by omega] at h
  rw [h]
  exact (List.getElem?_append_right (l₁ := LBX9_count_1) (l₂ := LRX9_count_2) (show 16 ≤ 16 + k by omega)).trans (congrArg (fun i => LRX9_count_2[i]?) (show 16 + k - 16 = k by omega))
theorem LBX9_countr_3 (k : Nat) : cX9_count.data.toList[48 + k]? = LRX9_count_3[k]? := by
  have h := LBX9_countr_2 (16 + k)
  rw [show 32 + (16 + k) = 48 + k by omega] at h
  rw [h]
  exact (List.getElem?_append_right (l₁ := LBX9_count_2) (l₂ := LRX9_count_3) (show 16 ≤ 16 + k by omega)).trans (congrArg (fun i => LRX9_count_3[i]?) (show 16 + k - 16 = k by omega))
theorem LBX9_countr_4 (k : Nat) : cX9_count.data.toList[64 + k]? = LRX9_count_4[k]? := by
  have h := LBX9_countr_3 (16 + k)
  rw [show 48 + (16 + k) = 64 + k by omega] at h
  rw [h]
  exact (List.getElem?_append_right (l₁ := LBX9_count_3) (l₂ := LRX9_count_4) (show 16 ≤ 16 + k by omega)).trans (congrArg (fun i => LRX9_count_4[i]?) (show 16 + k - 16 = k by omega))
theorem LBX9_countr_5 (k : Nat) : cX9_count.data.toList[80 + k]? = LRX9_count_5[k]? := by
  have h := LBX9_countr_4 (16 + k)
  rw [show 64 + (16 + k) = 80 + k by omega] at h
  rw [h]
  exact (List.getElem?_append_right (l₁ := LBX9_count_4) (l₂ := LRX9_count_5) (show 16 ≤ 16 + k by omega)).trans (congrArg (fun i => LRX9_count_5[i]?) (show 16 + k - 16 = k by omega))
theorem LBX9_countr_6 (k : Nat) : cX9_count.data.toList[96 + k]? = LRX9_count_6[k]? := by
  have h := LBX9_countr_5 (16 + k)
  rw [show 80 + (16 + k) = 96 + k by omega] at h
  rw [h]
  exact (List.getElem?_append_right (l₁ := LBX9_count_5) (l₂ := LRX9_count_6) (show 16 ≤ 16 + k by omega)).trans (congrArg (fun i => LRX9_count_6[i]?) (show 16 + k - 16 = k by omega))
theorem dX9_count_0 : decode cX9_count 0 = .ok (.iconst 0, 1) := dk_3_ (show cX9_count.data.toList[0]? = some 0x03 from (LBX9_countr_0 0).trans (by decide +kernel))
theorem dX9_count_1 : decode cX9_count 1 = .ok (.istore_n 2, 1) := dk_61_ (show cX9_count.data.toList[1]? = some 0x3d from (LBX9_countr_0 1).trans (by decide +kernel))
theorem dX9_count_2 : decode cX9_count 2 = .ok (.iload_n 1, 1) := dk_27_ (show cX9_count.data.toList[2]? = some 0x1b from (LBX9_countr_0 2).trans (by decide +kernel))
theorem dX9_count_3 : decode cX9_count 3 = .ok (.tableswitch 100 0 5 #[37, 44, 50, 57, 64, 69], 37) := by decide +kernel
theorem dX9_count_40 : decode cX9_count 40 = .ok (.aload_n 0, 1) := dk_42_ (show cX9_count.data.toList[40]? = some 0x2a from (LBX9_countr_2 8).trans (by decide +kernel))
theorem dX9_count_41 : decode cX9_count 41 = .ok (.getfield 7, 3) := dk_180_ (show cX9_count.data.toList[41]? = some 0xb4 from (LBX9_countr_2 9).trans (by decide +kernel)) (show cX9_count.data.toList[42]? = some 0x00 from (LBX9_countr_2 10).trans (by decide +kernel)) (show cX9_count.data.toList[43]? = some 0x07 from (LBX9_countr_2 11).trans (by decide +kernel)) (by decide)
theorem dX9_count_44 : decode cX9_count 44 = .ok (.iconst 0, 1) := dk_3_ (show cX9_count.data.toList[44]? = some 0x03 from (LBX9_countr_2 12).trans (by decide +kernel))
theorem dX9_count_45 : decode cX9_count 45 = .ok (.iaload, 1) := dk_46_ (show cX9_count.data.toList[45]? = some 0x2e from (LBX9_countr_2 13).trans (by decide +kernel))
theorem dX9_count_46 : decode cX9_count 46 = .ok (.ireturn, 1) := dk_172_ (show cX9_count.data.toList[46]? = some 0xac from (LBX9_countr_2 14).trans (by decide +kernel))
theorem dX9_count_47 : decode cX9_count 47 = .ok (.aload_n 0, 1) := dk_42_ (show cX9_count.data.toList[47]? = some 0x2a from (LBX9_countr_2 15).trans (by decide +kernel))
theorem dX9_count_48 : decode cX9_count 48 = .ok (.iconst 0, 1) := dk_3_ (show cX9_count.data.toList[48]? = some 0x03 from (LBX9_countr_3 0).trans (by decide +kernel))
theorem dX9_count_49 : decode cX9_count 49 = .ok (.invokevirtual 320, 3) := dk_182_ (show cX9_count.data.toList[49]? = some 0xb6 from (LBX9_countr_3 1).trans (by decide +kernel)) (show cX9_count.data.toList[50]? = some 0x01 from (LBX9_countr_3 2).trans (by decide +kernel)) (show cX9_count.data.toList[51]? = some 0x40 from (LBX9_countr_3 3).trans (by decide +kernel)) (by decide)
theorem dX9_count_52 : decode cX9_count 52 = .ok (.ireturn, 1) := dk_172_ (show cX9_count.data.toList[52]? = some 0xac from (LBX9_countr_3 4).trans (by decide +kernel))
theorem dX9_count_53 : decode cX9_count 53 = .ok (.aload_n 0, 1) := dk_42_ (show cX9_count.data.toList[53]? = some 0x2a from (LBX9_countr_3 5).trans (by decide +kernel))
theorem dX9_count_54 : decode cX9_count 54 = .ok (.getfield 7, 3) := dk_180_ (show cX9_count.data.toList[54]? = some 0xb4 from (LBX9_countr_3 6).trans (by decide +kernel)) (show cX9_count.data.toList[55]? = some 0x00 from (LBX9_countr_3 7).trans (by decide +kernel)) (show cX9_count.data.toList[56]? = some 0x07 from (LBX9_countr_3 8).trans (by decide +kernel)) (by decide)
theorem dX9_count_57 : decode cX9_count 57 = .ok (.iconst 1, 1) := dk_4_ (show cX9_count.data.toList[57]? = some 0x04 from (LBX9_countr_3 9).trans (by decide +kernel))
theorem dX9_count_58 : decode cX9_count 58 = .ok (.iaload, 1) := dk_46_ (show cX9_count.data.toList[58]? = some 0x2e from (LBX9_countr_3 10).trans (by decide +kernel))
theorem dX9_count_59 : decode cX9_count 59 = .ok (.ireturn, 1) := dk_172_ (show cX9_count.data.toList[59]? = some 0xac from (LBX9_countr_3 11).trans (by decide +kernel))
theorem dX9_count_60 : decode cX9_count 60 = .ok (.aload_n 0, 1) := dk_42_ (show cX9_count.data.toList[60]? = some 0x2a from (LBX9_countr_3 12).trans (by decide +kernel))
theorem dX9_count_61 : decode cX9_count 61 = .ok (.getfield 7, 3) := dk_180_ (show cX9_count.data.toList[61]? = some 0xb4 from (LBX9_countr_3 13).trans (by decide +kernel)) (show cX9_count.data.toList[62]? = some 0x00 from (LBX9_countr_3 14).trans (by decide +kernel)) (show cX9_count.data.toList[63]? = some 0x07 from (LBX9_countr_3 15).trans (by decide +kernel)) (by decide)
theorem dX9_count_64 : decode cX9_count 64 = .ok (.iconst 2, 1) := dk_5_ (show cX9_count.data.toList[64]? = some 0x05 from (LBX9_countr_4 0).trans (by decide +kernel))
theorem dX9_count_65 : decode cX9_count 65 = .ok (.iaload, 1) := dk_46_ (show cX9_count.data.toList[65]? = some 0x2e from (LBX9_countr_4 1).trans (by decide +kernel))
theorem dX9_count_66 : decode cX9_count 66 = .ok (.ireturn, 1) := dk_172_ (show cX9_count.data.toList[66]? = some 0xac from (LBX9_countr_4 2).trans (by decide +kernel))
theorem dX9_count_67 : decode cX9_count 67 = .ok (.aload_n 0, 1) := dk_42_ (show cX9_count.data.toList[67]? = some 0x2a from (LBX9_countr_4 3).trans (by decide +kernel))
theorem dX9_count_68 : decode cX9_count 68 = .ok (.getfield 240, 3) := dk_180_ (show cX9_count.data.toList[68]? = some 0xb4 from (LBX9_countr_4 4).trans (by decide +kernel)) (show cX9_count.data.toList[69]? = some 0x00 from (LBX9_countr_4 5).trans (by decide +kernel)) (show cX9_count.data.toList[70]? = some 0xf0 from (LBX9_countr_4 6).trans (by decide +kernel)) (by decide)
theorem dX9_count_71 : decode cX9_count 71 = .ok (.ireturn, 1) := dk_172_ (show cX9_count.data.toList[71]? = some 0xac from (LBX9_countr_4 7).trans (by decide +kernel))
theorem dX9_count_72 : decode cX9_count 72 = .ok (.iconst 0, 1) := dk_3_ (show cX9_count.data.toList[72]? = some 0x03 from (LBX9_countr_4 8).trans (by decide +kernel))
theorem dX9_count_73 : decode cX9_count 73 = .ok (.istore_n 3, 1) := dk_62_ (show cX9_count.data.toList[73]? = some 0x3e from (LBX9_countr_4 9).trans (by decide +kernel))
theorem dX9_count_74 : decode cX9_count 74 = .ok (.iload_n 3, 1) := dk_29_ (show cX9_count.data.toList[74]? = some 0x1d from (LBX9_countr_4 10).trans (by decide +kernel))
theorem dX9_count_75 : decode cX9_count 75 = .ok (.aload_n 0, 1) := dk_42_ (show cX9_count.data.toList[75]? = some 0x2a from (LBX9_countr_4 11).trans (by decide +kernel))
theorem dX9_count_76 : decode cX9_count 76 = .ok (.getfield 7, 3) := dk_180_ (show cX9_count.data.toList[76]? = some 0xb4 from (LBX9_countr_4 12).trans (by decide +kernel)) (show cX9_count.data.toList[77]? = some 0x00 from (LBX9_countr_4 13).trans (by decide +kernel)) (show cX9_count.data.toList[78]? = some 0x07 from (LBX9_countr_4 14).trans (by decide +kernel)) (by decide)
theorem dX9_count_79 : decode cX9_count 79 = .ok (.iconst 0, 1) := dk_3_ (show cX9_count.data.toList[79]? = some 0x03 from (LBX9_countr_4 15).trans (by decide +kernel))
theorem dX9_count_80 : decode cX9_count 80 = .ok (.iaload, 1) := dk_46_ (show cX9_count.data.toList[80]? = some 0x2e from (LBX9_countr_5 0).trans (by decide +kernel))
theorem dX9_count_81 : decode cX9_count 81 = .ok (.if_icmp .ge 20, 3) := dk_162_ (show cX9_count.data.toList[81]? = some 0xa2 from (LBX9_countr_5 1).trans (by decide +kernel)) (show cX9_count.data.toList[82]? = some 0x00 from (LBX9_countr_5 2).trans (by decide +kernel)) (show cX9_count.data.toList[83]? = some 0x14 from (LBX9_countr_5 3).trans (by decide +kernel)) (by decide)
theorem dX9_count_84 : decode cX9_count 84 = .ok (.iload_n 2, 1) := dk_28_ (show cX9_count.data.toList[84]? = some 0x1c from (LBX9_countr_5 4).trans (by decide +kernel))
theorem dX9_count_85 : decode cX9_count 85 = .ok (.aload_n 0, 1) := dk_42_ (show cX9_count.data.toList[85]? = some 0x2a from (LBX9_countr_5 5).trans (by decide +kernel))
theorem dX9_count_86 : decode cX9_count 86 = .ok (.getfield 7, 3) := dk_180_ (show cX9_count.data.toList[86]? = some 0xb4 from (LBX9_countr_5 6).trans (by decide +kernel)) (show cX9_count.data.toList[87]? = some 0x00 from (LBX9_countr_5 7).trans (by decide +kernel)) (show cX9_count.data.toList[88]? = some 0x07 from (LBX9_countr_5 8).trans (by decide +kernel)) (by decide)
theorem dX9_count_89 : decode cX9_count 89 = .ok (.iconst 3, 1) := dk_6_ (show cX9_count.data.toList[89]? = some 0x06 from (LBX9_countr_5 9).trans (by decide +kernel))
theorem dX9_count_90 : decode cX9_count 90 = .ok (.iload_n 3, 1) := dk_29_ (show cX9_count.data.toList[90]? = some 0x1d from (LBX9_countr_5 10).trans (by decide +kernel))
theorem dX9_count_91 : decode cX9_count 91 = .ok (.iadd, 1) := dk_96_ (show cX9_count.data.toList[91]? = some 0x60 from (LBX9_countr_5 11).trans (by decide +kernel))
theorem dX9_count_92 : decode cX9_count 92 = .ok (.iaload, 1) := dk_46_ (show cX9_count.data.toList[92]? = some 0x2e from (LBX9_countr_5 12).trans (by decide +kernel))
theorem dX9_count_93 : decode cX9_count 93 = .ok (.iadd, 1) := dk_96_ (show cX9_count.data.toList[93]? = some 0x60 from (LBX9_countr_5 13).trans (by decide +kernel))
theorem dX9_count_94 : decode cX9_count 94 = .ok (.istore_n 2, 1) := dk_61_ (show cX9_count.data.toList[94]? = some 0x3d from (LBX9_countr_5 14).trans (by decide +kernel))
theorem dX9_count_95 : decode cX9_count 95 = .ok (.iinc 3 1, 3) := dk_132_ (show cX9_count.data.toList[95]? = some 0x84 from (LBX9_countr_5 15).trans (by decide +kernel)) (show cX9_count.data.toList[96]? = some 0x03 from (LBX9_countr_6 0).trans (by decide +kernel)) (show cX9_count.data.toList[97]? = some 0x01 from (LBX9_countr_6 1).trans (by decide +kernel)) (by decide) (by decide)
theorem dX9_count_98 : decode cX9_count 98 = .ok (.goto (-24), 3) := dk_167_ (show cX9_count.data.toList[98]? = some 0xa7 from (LBX9_countr_6 2).trans (by decide +kernel)) (show cX9_count.data.toList[99]? = some 0xff from (LBX9_countr_6 3).trans (by decide +kernel)) (show cX9_count.data.toList[100]? = some 0xe8 from (LBX9_countr_6 4).trans (by decide +kernel)) (by decide)
theorem dX9_count_101 : decode cX9_count 101 = .ok (.iload_n 2, 1) := dk_28_ (show cX9_count.data.toList[101]? = some 0x1c from (LBX9_countr_6 5).trans (by decide +kernel))
theorem dX9_count_102 : decode cX9_count 102 = .ok (.ireturn, 1) := dk_172_ (show cX9_count.data.toList[102]? = some 0xac from (LBX9_countr_6 6).trans (by decide +kernel))
theorem dX9_count_103 : decode cX9_count 103 = .ok (.aload_n 0, 1) := dk_42_ (show cX9_count.data.toList[103]? = some 0x2a from (LBX9_countr_6 7).trans (by decide +kernel))
theorem dX9_count_104 : decode cX9_count 104 = .ok (.ldc 56, 2) := dk_18_ (show cX9_count.data.toList[104]? = some 0x12 from (LBX9_countr_6 8).trans (by decide +kernel)) (show cX9_count.data.toList[105]? = some 0x38 from (LBX9_countr_6 9).trans (by decide +kernel)) (by decide)
theorem dX9_count_106 : decode cX9_count 106 = .ok (.invokevirtual 70, 3) := dk_182_ (show cX9_count.data.toList[106]? = some 0xb6 from (LBX9_countr_6 10).trans (by decide +kernel)) (show cX9_count.data.toList[107]? = some 0x00 from (LBX9_countr_6 11).trans (by decide +kernel)) (show cX9_count.data.toList[108]? = some 0x46 from (LBX9_countr_6 12).trans (by decide +kernel)) (by decide)
theorem dX9_count_109 : decode cX9_count 109 = .ok (.ireturn, 1) := dk_172_ (show cX9_count.data.toList[109]? = some 0xac from (LBX9_countr_6 13).trans (by decide +kernel))
def LRX9_status_4 : List UInt8 := []
def LBX9_status_3 : List UInt8 := [0x00, 0x04, 0x03, 0x60, 0x3d, 0x84, 0x03, 0x01, 0xa7, 0xff, 0xe1, 0x1c, 0xac]
def LRX9_status_3 : List UInt8 := LBX9_status_3 ++ LRX9_status_4
def LBX9_status_2 : List UInt8 := [0x1b, 0x9b, 0x00, 0x08, 0x1d, 0x1b, 0xa0, 0x00, 0x0c, 0x2a, 0xb4, 0x00, 0x13, 0x1d, 0x2e, 0xa7]
def LRX9_status_2 : List UInt8 := LBX9_status_2 ++ LRX9_status_3
def LBX9_status_1 : List UInt8 := [0x38, 0xb6, 0x00, 0x46, 0xac, 0x03, 0x3d, 0x03, 0x3e, 0x1d, 0x10, 0x07, 0xa2, 0x00, 0x1f, 0x1c]
def LRX9_status_1 : List UInt8 := LBX9_status_1 ++ LRX9_status_2
def LBX9_status_0 : List UInt8 := [0x1b, 0x85, 0x14, 0x00, 0x75, 0x14, 0x00, 0x79, 0xb8, 0x00, 0x39, 0x9a, 0x00, 0x0a, 0x2a, 0x12]
def LRX9_status_0 : List UInt8 := LBX9_status_0 ++ LRX9_status_1
set_option maxRecDepth 100000 in
theorem LBX9_status_eq : cX9_status.data.toList = LRX9_status_0 := by decide +kernel
theorem LBX9_statusr_0 (k : Nat) : cX9_status.data.toList[0 + k]? = LRX9_status_0[k]? := by rw [LBX9_status_eq, Nat.zero_add]
theorem LBX9_statusr_1 (k : Nat) : cX9_status.data.toList[16 + k]? = LRX9_status_1[k]? := by
  have h := LBX9_statusr_0 (16 + k)
  rw [show 0 + (16 + k) = 16 + k by omega] at h
  rw [h]
  exact (List.getElem?_append_right (l₁ := LBX9_status_0) (l₂ := LRX9_status_1) (show 16 ≤ 16 + k by omega)).trans (congrArg (fun i => LRX9_status_1[i]?) (show 16 + k - 16 = k by omega))
theorem LBX9_statusr_2 (k : Nat) : cX9_status.data.toList[32 + k]? = LRX9_status_2[k]? := by
  have h := LBX9_statusr_1 (16 + k)
  rw [show 16 + (16 + k) = 32 + k by omega] at h
  rw [h]
  exact (List.getElem?_append_right (l₁ := LBX9_status_1) (l₂ := LRX9_status_2) (show 16 ≤ 16 + k by omega)).trans (congrArg (fun i => LRX9_status_2[i]?) (show 16 + k - 16 = k by omega))
theorem LBX9_statusr_3 (k : Nat) : cX9_status.data.toList[48 + k]? = LRX9_status_3[k]? := by
  have h := LBX9_statusr_2 (16 + k)
  rw [show 32 + (16 + k) = 48 + k by omega] at h
  rw [h]
  exact (List.getElem?_append_right (l₁ := LBX9_status_2) (l₂ := LRX9_status_3) (show 16 ≤ 16 + k by omega)).trans (congrArg (fun i => LRX9_status_3[i]?) (show 16 + k - 16 = k by omega))
theorem dX9_status_0 : decode cX9_status 0 = .ok (.iload_n 1, 1) := dk_27_ (show cX9_status.data.toList[0]? = some 0x1b from (LBX9_statusr_0 0).trans (by decide +kernel))
theorem dX9_status_1 : decode cX9_status 1 = .ok (.i2l, 1) := dk_133_ (show cX9_status.data.toList[1]? = some 0x85 from (LBX9_statusr_0 1).trans (by decide +kernel))
theorem dX9_status_2 : decode cX9_status 2 = .ok (.ldc2_w 117, 3) := dk_20_ (show cX9_status.data.toList[2]? = some 0x14 from (LBX9_statusr_0 2).trans (by decide +kernel)) (show cX9_status.data.toList[3]? = some 0x00 from (LBX9_statusr_0 3).trans (by decide +kernel)) (show cX9_status.data.toList[4]? = some 0x75 from (LBX9_statusr_0 4).trans (by decide +kernel)) (by decide)
theorem dX9_status_5 : decode cX9_status 5 = .ok (.ldc2_w 121, 3) := dk_20_ (show cX9_status.data.toList[5]? = some 0x14 from (LBX9_statusr_0 5).trans (by decide +kernel)) (show cX9_status.data.toList[6]? = some 0x00 from (LBX9_statusr_0 6).trans (by decide +kernel)) (show cX9_status.data.toList[7]? = some 0x79 from (LBX9_statusr_0 7).trans (by decide +kernel)) (by decide)
theorem dX9_status_8 : decode cX9_status 8 = .ok (.invokestatic 57, 3) := dk_184_ (show cX9_status.data.toList[8]? = some 0xb8 from (LBX9_statusr_0 8).trans (by decide +kernel)) (show cX9_status.data.toList[9]? = some 0x00 from (LBX9_statusr_0 9).trans (by decide +kernel)) (show cX9_status.data.toList[10]? = some 0x39 from (LBX9_statusr_0 10).trans (by decide +kernel)) (by decide)
theorem dX9_status_11 : decode cX9_status 11 = .ok (.ifCond .ne 10, 3) := dk_154_ (show cX9_status.data.toList[11]? = some 0x9a from (LBX9_statusr_0 11).trans (by decide +kernel)) (show cX9_status.data.toList[12]? = some 0x00 from (LBX9_statusr_0 12).trans (by decide +kernel)) (show cX9_status.data.toList[13]? = some 0x0a from (LBX9_statusr_0 13).trans (by decide +kernel)) (by decide)
theorem dX9_status_14 : decode cX9_status 14 = .ok (.aload_n 0, 1) := dk_42_ (show cX9_status.data.toList[14]? = some 0x2a from (LBX9_statusr_0 14).trans (by decide +kernel))
theorem dX9_status_15 : decode cX9_status 15 = .ok (.ldc 56, 2) := dk_18_ (show cX9_status.data.toList[15]? = some 0x12 from (LBX9_statusr_0 15).trans (by decide +kernel)) (show cX9_status.data.toList[16]? = some 0x38 from (LBX9_statusr_1 0).trans (by decide +kernel)) (by decide)
theorem dX9_status_17 : decode cX9_status 17 = .ok (.invokevirtual 70, 3) := dk_182_ (show cX9_status.data.toList[17]? = some 0xb6 from (LBX9_statusr_1 1).trans (by decide +kernel)) (show cX9_status.data.toList[18]? = some 0x00 from (LBX9_statusr_1 2).trans (by decide +kernel)) (show cX9_status.data.toList[19]? = some 0x46 from (LBX9_statusr_1 3).trans (by decide +kernel)) (by decide)
theorem dX9_status_20 : decode cX9_status 20 = .ok (.ireturn, 1) := dk_172_ (show cX9_status.data.toList[20]? = some 0xac from (LBX9_statusr_1 4).trans (by decide +kernel))
theorem dX9_status_21 : decode cX9_status 21 = .ok (.iconst 0, 1) := dk_3_ (show cX9_status.data.toList[21]? = some 0x03 from (LBX9_statusr_1 5).trans (by decide +kernel))
theorem dX9_status_22 : decode cX9_status 22 = .ok (.istore_n 2, 1) := dk_61_ (show cX9_status.data.toList[22]? = some 0x3d from (LBX9_statusr_1 6).trans (by decide +kernel))
theorem dX9_status_23 : decode cX9_status 23 = .ok (.iconst 0, 1) := dk_3_ (show cX9_status.data.toList[23]? = some 0x03 from (LBX9_statusr_1 7).trans (by decide +kernel))
theorem dX9_status_24 : decode cX9_status 24 = .ok (.istore_n 3, 1) := dk_62_ (show cX9_status.data.toList[24]? = some 0x3e from (LBX9_statusr_1 8).trans (by decide +kernel))
theorem dX9_status_25 : decode cX9_status 25 = .ok (.iload_n 3, 1) := dk_29_ (show cX9_status.data.toList[25]? = some 0x1d from (LBX9_statusr_1 9).trans (by decide +kernel))
theorem dX9_status_26 : decode cX9_status 26 = .ok (.bipush 7, 2) := dk_16_ (show cX9_status.data.toList[26]? = some 0x10 from (LBX9_statusr_1 10).trans (by decide +kernel)) (show cX9_status.data.toList[27]? = some 0x07 from (LBX9_statusr_1 11).trans (by decide +kernel)) (by decide)
theorem dX9_status_28 : decode cX9_status 28 = .ok (.if_icmp .ge 31, 3) := dk_162_ (show cX9_status.data.toList[28]? = some 0xa2 from (LBX9_statusr_1 12).trans (by decide +kernel)) (show cX9_status.data.toList[29]? = some 0x00 from (LBX9_statusr_1 13).trans (by decide +kernel)) (show cX9_status.data.toList[30]? = some 0x1f from (LBX9_statusr_1 14).trans (by decide +kernel)) (by decide)
theorem dX9_status_31 : decode cX9_status 31 = .ok (.iload_n 2, 1) := dk_28_ (show cX9_status.data.toList[31]? = some 0x1c from (LBX9_statusr_1 15).trans (by decide +kernel))
theorem dX9_status_32 : decode cX9_status 32 = .ok (.iload_n 1, 1) := dk_27_ (show cX9_status.data.toList[32]? = some 0x1b from (LBX9_statusr_2 0).trans (by decide +kernel))
theorem dX9_status_33 : decode cX9_status 33 = .ok (.ifCond .lt 8, 3) := dk_155_ (show cX9_status.data.toList[33]? = some 0x9b from (LBX9_statusr_2 1).trans (by decide +kernel)) (show cX9_status.data.toList[34]? = some 0x00 from (LBX9_statusr_2 2).trans (by decide +kernel)) (show cX9_status.data.toList[35]? = some 0x08 from (LBX9_statusr_2 3).trans (by decide +kernel)) (by decide)
theorem dX9_status_36 : decode cX9_status 36 = .ok (.iload_n 3, 1) := dk_29_ (show cX9_status.data.toList[36]? = some 0x1d from (LBX9_statusr_2 4).trans (by decide +kernel))
theorem dX9_status_37 : decode cX9_status 37 = .ok (.iload_n 1, 1) := dk_27_ (show cX9_status.data.toList[37]? = some 0x1b from (LBX9_statusr_2 5).trans (by decide +kernel))
theorem dX9_status_38 : decode cX9_status 38 = .ok (.if_icmp .ne 12, 3) := dk_160_ (show cX9_status.data.toList[38]? = some 0xa0 from (LBX9_statusr_2 6).trans (by decide +kernel)) (show cX9_status.data.toList[39]? = some 0x00 from (LBX9_statusr_2 7).trans (by decide +kernel)) (show cX9_status.data.toList[40]? = some 0x0c from (LBX9_statusr_2 8).trans (by decide +kernel)) (by decide)
theorem dX9_status_41 : decode cX9_status 41 = .ok (.aload_n 0, 1) := dk_42_ (show cX9_status.data.toList[41]? = some 0x2a from (LBX9_statusr_2 9).trans (by decide +kernel))
theorem dX9_status_42 : decode cX9_status 42 = .ok (.getfield 19, 3) := dk_180_ (show cX9_status.data.toList[42]? = some 0xb4 from (LBX9_statusr_2 10).trans (by decide +kernel)) (show cX9_status.data.toList[43]? = some 0x00 from (LBX9_statusr_2 11).trans (by decide +kernel)) (show cX9_status.data.toList[44]? = some 0x13 from (LBX9_statusr_2 12).trans (by decide +kernel)) (by decide)
theorem dX9_status_45 : decode cX9_status 45 = .ok (.iload_n 3, 1) := dk_29_ (show cX9_status.data.toList[45]? = some 0x1d from (LBX9_statusr_2 13).trans (by decide +kernel))
theorem dX9_status_46 : decode cX9_status 46 = .ok (.iaload, 1) := dk_46_ (show cX9_status.data.toList[46]? = some 0x2e from (LBX9_statusr_2 14).trans (by decide +kernel))
theorem dX9_status_47 : decode cX9_status 47 = .ok (.goto 4, 3) := dk_167_ (show cX9_status.data.toList[47]? = some 0xa7 from (LBX9_statusr_2 15).trans (by decide +kernel)) (show cX9_status.data.toList[48]? = some 0x00 from (LBX9_statusr_3 0).trans (by decide +kernel)) (show cX9_status.data.toList[49]? = some 0x04 from (LBX9_statusr_3 1).trans (by decide +kernel)) (by decide)
theorem dX9_status_50 : decode cX9_status 50 = .ok (.iconst 0, 1) := dk_3_ (show cX9_status.data.toList[50]? = some 0x03 from (LBX9_statusr_3 2).trans (by decide +kernel))
theorem dX9_status_51 : decode cX9_status 51 = .ok (.iadd, 1) := dk_96_ (show cX9_status.data.toList[51]? = some 0x60 from (LBX9_statusr_3 3).trans (by decide +kernel))
theorem dX9_status_52 : decode cX9_status 52 = .ok (.istore_n 2, 1) := dk_61_ (show cX9_status.data.toList[52]? = some 0x3d from (LBX9_statusr_3 4).trans (by decide +kernel))
theorem dX9_status_53 : decode cX9_status 53 = .ok (.iinc 3 1, 3) := dk_132_ (show cX9_status.data.toList[53]? = some 0x84 from (LBX9_statusr_3 5).trans (by decide +kernel)) (show cX9_status.data.toList[54]? = some 0x03 from (LBX9_statusr_3 6).trans (by decide +kernel)) (show cX9_status.data.toList[55]? = some 0x01 from (LBX9_statusr_3 7).trans (by decide +kernel)) (by decide) (by decide)
theorem dX9_status_56 : decode cX9_status 56 = .ok (.goto (-31), 3) := dk_167_ (show cX9_status.data.toList[56]? = some 0xa7 from (LBX9_statusr_3 8).trans (by decide +kernel)) (show cX9_status.data.toList[57]? = some 0xff from (LBX9_statusr_3 9).trans (by decide +kernel)) (show cX9_status.data.toList[58]? = some 0xe1 from (LBX9_statusr_3 10).trans (by decide +kernel)) (by decide)
theorem dX9_status_59 : decode cX9_status 59 = .ok (.iload_n 2, 1) := dk_28_ (show cX9_status.data.toList[59]? = some 0x1c from (LBX9_statusr_3 11).trans (by decide +kernel))
theorem dX9_status_60 : decode cX9_status 60 = .ok (.ireturn, 1) := dk_172_ (show cX9_status.data.toList[60]? = some 0xac from (LBX9_statusr_3 12).trans (by decide +kernel))
theorem uw917 : Cond.fieldLink RX9 317 "LongerBackModel" "isKept" "Z" ∈ wsU := ut4 (List.mem_of_getElem? (i := 212) rfl) rfl
theorem uw918 : Cond.fieldLink RX9 13 "LongerBackModel" "keptS" "[I" ∈ wsU := ut4 (List.mem_of_getElem? (i := 209) rfl) rfl
theorem uw919 : Cond.methodLink RX9 320 yX9_known ∈ wsU := ut6 (List.mem_of_getElem? (i := 225) rfl) rfl
theorem uw920 : Cond.instanceMethod yX9_known ∈ wsU := ut6 (List.mem_of_getElem? (i := 69) rfl) rfl
theorem uw921 : Cond.selects RX9 yX9_known yX9_known ∈ wsU := ut6 (List.mem_of_getElem? (i := 70) rfl) rfl
theorem uw922 : Cond.code yX9_known cX9_known 7 (some .int) ∈ wsU := ut6 (List.mem_of_getElem? (i := 71) rfl) rfl
theorem kf_X9_317 : xWF RX9 317 9 4 RX9 TX9 27 := ⟨inUX9, rfl, by decide, uw917⟩
theorem kf_X9_13 : xWF RX9 13 9 1 RX9 TX9 27 := ⟨inUX9, rfl, by decide, uw918⟩
theorem kv_X9_320 : xWV RX9 320 RX9 yX9_known cX9_known 7 (some .int) 1 := ⟨⟨uw919, uw920, uw921, uw657, uw922⟩, by decide +kernel⟩
set_option maxHeartbeats 4000000 in
set_option maxRecDepth 100000 in
theorem c_X9_image (l : Launch) (D : va_G) (cI cJ cZ cS : ClassId) (ta : Nat) (sa sv : Nat → Nat) (sz : Nat) (h0 : Nat) (ys : Nat) (yk : Nat) (yo : Nat) (yt : Nat) (mk0 : Int32) (yfa : Nat) (yfe : Nat) (mL : Int32) (mS : Int32) (mM : Int32) (yro : Nat) (yhe : Nat) (ygr : Nat) (mF : Int32) (mC : Int32) (mY : Int32) (yta : Nat) (mz : Nat) (mf : Nat) (mt : Nat) (mv : Int32) (mw : Int32) (ywa : Nat) (ybi : Nat) (ysi : Nat) (ynu : Nat) (ymo : Nat) (ms : Nat → Int32) (ks : Nat → Int32) (P : Nat) (Rn : Nat) (Wn : Nat) (fae : Nat → Int32) (fal : Nat → Int32) (fau : Nat → Int32) (fao : Nat → Int32) (farn : Nat → Int32) (farp : Nat → Int32) (fak : Nat → Int32) (fawn : Nat → Int32) (fawp : Nat → Int32) (fat : Nat → Int32) (fas : Nat → Int32) (hs0 : ms 0 = nI P) (hs1 : ms 1 = nI Rn) (hs2 : ms 2 = nI Wn) (hsS : SI ms) (hsM : MI ms) (hsp : P ≤ 10) (hsr : Rn ≤ 8) (hsw : Wn ≤ 8) (hsR : RI Rn ms) (hsG : FR P ms fae fal fau fao farn farp fak fawn fawp fat fas) : Met l yX9_image (Cond.code yX9_image cX9_image 2 (some .int) :: wsU) ({ frames := 0, cells := 0, slots := 0, locals := 0 }) (va_Pc [.ref h0] (XW D (xT cI cJ cZ cS) ta sa sv [(h0, .inr (9, [.ref ys, .ref yk, .ref yo, .ref yt, .int mk0, .ref yfa, .ref yfe, .int mL, .int mS, .int mM, .ref yro, .ref yhe, .ref ygr, .int mF, .int mC, .int mY, .ref yta, .int (nI (mz)), .int (nI (mf)), .int (nI (mt)), .int mv, .int mw, .ref ywa, .ref ybi, .ref ysi, .ref ynu, .ref ymo])), (ys, .inl (cI, 449, .inl ms)), (yk, .inl (cI, 449, .inl ks))] sz)) (XQi (fun (r : Int32) (_ : Unit) => ((r = 1))) D (fun _ : Unit => [(h0, .inr (9, [.ref ys, .ref yk, .ref yo, .ref yt, .int 1, .ref yfa, .ref yfe, .int mL, .int mS, .int mM, .ref yro, .ref yhe, .ref ygr, .int mF, .int mC, .int mY, .ref yta, .int (nI (mz)), .int (nI (mf)), .int (nI (mt)), .int mv, .int mw, .ref ywa, .ref ybi, .ref ysi, .ref ynu, .ref ymo])), (ys, .inl (cI, 449, .inl ms)), (yk, .inl (cI, 449, .inl ms))]) (va_A [(h0, .inr (9, [.ref ys, .ref yk, .ref yo, .ref yt, .int mk0, .ref yfa, .ref yfe, .int mL, .int mS, .int mM, .ref yro, .ref yhe, .ref ygr, .int mF, .int mC, .int mY, .ref yta, .int (nI (mz)), .int (nI (mf)), .int (nI (mt)), .int mv, .int mw, .ref ywa, .ref ybi, .ref ysi, .ref ynu, .ref ymo])), (ys, .inl (cI, 449, .inl ms)), (yk, .inl (cI, 449, .inl ks))] sz)) 0 0 (va_A [(h0, .inr (9, [.ref ys, .ref yk, .ref yo, .ref yt, .int mk0, .ref yfa, .ref yfe, .int mL, .int mS, .int mM, .ref yro, .ref yhe, .ref ygr, .int mF, .int mC, .int mY, .ref yta, .int (nI (mz)), .int (nI (mf)), .int (nI (mt)), .int mv, .int mw, .ref ywa, .ref ybi, .ref ysi, .ref ynu, .ref ymo])), (ys, .inl (cI, 449, .inl ms)), (yk, .inl (cI, 449, .inl ks))] sz) := by
  refine xh (QA := fun A => XQi (fun (r : Int32) (_ : Unit) => ((r = 1))) D (fun _ : Unit => [(h0, .inr (9, [.ref ys, .ref yk, .ref yo, .ref yt, .int 1, .ref yfa, .ref yfe, .int mL, .int mS, .int mM, .ref yro, .ref yhe, .ref ygr, .int mF, .int mC, .int mY, .ref yta, .int (nI (mz)), .int (nI (mf)), .int (nI (mt)), .int mv, .int mw, .ref ywa, .ref ybi, .ref ysi, .ref ynu, .ref ymo])), (ys, .inl (cI, 449, .inl ms)), (yk, .inl (cI, 449, .inl ms))]) A) (fr := fun A => A) (by decide) (Nat.le_of_ble_eq_true rfl) ?_
  intro p e s m below meth c ls A hF hr hlk hin hsz hP hK hD hN hZ hA hS hl
  have hF : CallFix p m c cX9_image 2 s _ _ RX9 := hF
  have hx := hF.1
  have hb := hF.2.1
  have hml := hF.2.2.1
  have hown := hF.2.2.2.1
  have hu : ∀ w ∈ wsU, w.before _ s = true := fun w h => hF.2.2.2.2 w (List.mem_cons_of_mem _ h)
  have hl : lv_has ls 2 [(0, .ref h0)] := hl
  refine lv_iconst (v := 0) hx hb dX9_image_0 (by decide) ?_
  refine lv_istore_n (lv' := [(1, .int 0), (0, .ref h0)]) hx hb dX9_image_1 rfl hl (by decide) rfl (fun ls hl => ?_)
  suffices loop_2 : ∀ (n_2 : Nat) (i : Nat) (o8 : Nat → Int32) (H : Heap) (locs : List Loc) (ls : Array Slot), 449 - i < n_2 → (i ≤ 449) → (∀ j, j < i → o8 j = ms j) → va_P D vwCl [(h0, .inr (9, [.ref ys, .ref yk, .ref yo, .ref yt, .int mk0, .ref yfa, .ref yfe, .int mL, .int mS, .int mM, .ref yro, .ref yhe, .ref ygr, .int mF, .int mC, .int mY, .ref yta, .int (nI (mz)), .int (nI (mf)), .int (nI (mt)), .int mv, .int mw, .ref ywa, .ref ybi, .ref ysi, .ref ynu, .ref ymo])), (ys, .inl (cI, 449, .inl ms)), (yk, .inl (cI, 449, .inl o8))] H → va_D A [(h0, .inr (9, [.ref ys, .ref yk, .ref yo, .ref yt, .int mk0, .ref yfa, .ref yfe, .int mL, .int mS, .int mM, .ref yro, .ref yhe, .ref ygr, .int mF, .int mC, .int mY, .ref yta, .int (nI (mz)), .int (nI (mf)), .int (nI (mt)), .int mv, .int mw, .ref ywa, .ref ybi, .ref ysi, .ref ynu, .ref ymo])), (ys, .inl (cI, 449, .inl ms)), (yk, .inl (cI, 449, .inl o8))] → va_S A s.heap H locs → lv_has ls 2 [(1, .int (nI (i))), (0, .ref h0)] → W p l e ({ frames := 0, cells := 0, slots := 0, locals := 0 }) s m ([.ref h0] : List Value).toArray below meth c H locs 0 0 (MQ below (XQi (fun (r : Int32) (_ : Unit) => ((r = 1))) D (fun _ : Unit => [(h0, .inr (9, [.ref ys, .ref yk, .ref yo, .ref yt, .int 1, .ref yfa, .ref yfe, .int mL, .int mS, .int mM, .ref yro, .ref yhe, .ref ygr, .int mF, .int mC, .int mY, .ref yta, .int (nI (mz)), .int (nI (mf)), .int (nI (mt)), .int mv, .int mw, .ref ywa, .ref ybi, .ref ysi, .ref ynu, .ref ymo])), (ys, .inl (cI, 449, .inl ms)), (yk, .inl (cI, 449, .inl ms))]) A) ([.ref h0] : List Value).toArray s 0 0 A) (F0 m 2 ls []) by
    exact loop_2 _ 0 ks _ _ _ (Nat.lt_succ_self _) (by omega) (fun j hj => absurd hj (Nat.not_lt_zero j)) hP hD hS (lv_sub hl [0, 1] rfl)
  intro n_2
  induction n_2 with
  | zero =>
    intro i o8 H locs ls hm_2
    exact absurd hm_2 (Nat.not_lt_zero _)
  | succ n_2 ih_2 =>
    intro i o8 H locs ls hm_2 hi hE hP hD hS hl
    refine lv_iload_n hx hb dX9_image_2 rfl (lv_at hl 0 rfl) ?_
    refine lv_sipush (v := 449) hx hb dX9_image_3 (by decide) ?_
    refine lv_icmp_ge (tgt := 27) hx hb dX9_image_6 (by decide) (fun c_1 => ?_) (fun c_1 => ?_)
    · skip
      have nc_1 : 449 ≤ i := xn_le (a := 449) (b := i) (by omega) (by omega) c_1
      obtain ⟨hP, hD⟩ := xw_cg hP hD 2 rfl (g := ms) (x_all hE (by omega))
      have hP : va_P D vwCl [(h0, .inr (9, [.ref ys, .ref yk, .ref yo, .ref yt, .int mk0, .ref yfa, .ref yfe, .int mL, .int mS, .int mM, .ref yro, .ref yhe, .ref ygr, .int mF, .int mC, .int mY, .ref yta, .int (nI (mz)), .int (nI (mf)), .int (nI (mt)), .int mv, .int mw, .ref ywa, .ref ybi, .ref ysi, .ref ynu, .ref ymo])), (ys, .inl (cI, 449, .inl ms)), (yk, .inl (cI, 449, .inl ms))] H := hP
      have hD : va_D A [(h0, .inr (9, [.ref ys, .ref yk, .ref yo, .ref yt, .int mk0, .ref yfa, .ref yfe, .int mL, .int mS, .int mM, .ref yro, .ref yhe, .ref ygr, .int mF, .int mC, .int mY, .ref yta, .int (nI (mz)), .int (nI (mf)), .int (nI (mt)), .int mv, .int mw, .ref ywa, .ref ybi, .ref ysi, .ref ynu, .ref ymo])), (ys, .inl (cI, 449, .inl ms)), (yk, .inl (cI, 449, .inl ms))] := hD
      refine lv_aload_n hx hb dX9_image_27 rfl (lv_at hl 1 rfl) ?_
      refine lv_iconst (v := 1) hx hb dX9_image_28 (by decide) ?_
      refine xp hF kf_X9_317 tyX9_ok nmX9 hK hP hD hS 0 rfl rfl rfl rfl (Nat.le_of_ble_eq_true rfl) dX9_image_29 (fun H locs hP hD hS => ?_)
      have hP : va_P D vwCl [(h0, .inr (9, [.ref ys, .ref yk, .ref yo, .ref yt, .int 1, .ref yfa, .ref yfe, .int mL, .int mS, .int mM, .ref yro, .ref yhe, .ref ygr, .int mF, .int mC, .int mY, .ref yta, .int (nI (mz)), .int (nI (mf)), .int (nI (mt)), .int mv, .int mw, .ref ywa, .ref ybi, .ref ysi, .ref ynu, .ref ymo])), (ys, .inl (cI, 449, .inl ms)), (yk, .inl (cI, 449, .inl ms))] H := hP
      have hD : va_D A [(h0, .inr (9, [.ref ys, .ref yk, .ref yo, .ref yt, .int 1, .ref yfa, .ref yfe, .int mL, .int mS, .int mM, .ref yro, .ref yhe, .ref ygr, .int mF, .int mC, .int mY, .ref yta, .int (nI (mz)), .int (nI (mf)), .int (nI (mt)), .int mv, .int mw, .ref ywa, .ref ybi, .ref ysi, .ref ynu, .ref ymo])), (ys, .inl (cI, 449, .inl ms)), (yk, .inl (cI, 449, .inl ms))] := hD
      refine lv_iconst (v := 1) hx hb dX9_image_32 (by decide) ?_
      exact W.iret (v := 1) hx hb hr (fun t ht hW => ⟨⟨1, (), rfl, (by first | exact rfl), by rw [ht]; exact hP.sub [0, 1, 2] rfl, hD.sub [0, 1, 2] (by decide) rfl⟩, hS.F ht⟩) hS.2.2 dX9_image_33 hlk
    · skip
      have nc_1 : i < 449 := xn_nle (a := 449) (b := i) (by omega) (by omega) c_1
      refine lv_aload_n hx hb dX9_image_9 rfl (lv_at hl 1 rfl) ?_
      refine xg hF kf_X9_13 hK hP 0 rfl rfl dX9_image_10 ?_
      refine lv_iload_n hx hb dX9_image_13 rfl (lv_at hl 0 rfl) ?_
      refine lv_aload_n hx hb dX9_image_14 rfl (lv_at hl 1 rfl) ?_
      refine xg hF kf_X9_7 hK hP 0 rfl rfl dX9_image_15 ?_
      refine lv_iload_n hx hb dX9_image_18 rfl (lv_at hl 0 rfl) ?_
      refine va_iald hx hb hK hP 1 0 rfl rfl (vp_in_nI (show i < 449 by omega) (by decide)) dX9_image_19 ?_
      refine xl_i (y := ms i) (congrArg ms (nI_clamp (show i < 2 ^ 31 by omega))) ?_
      refine va_iast hx hb hK hP hD hS 2 0 rfl rfl (vp_in_nI (show i < 449 by omega) (by decide)) dX9_image_20 (fun H locs hP hD hS => ?_)
      rw [nI_clamp (show i < 2 ^ 31 by omega)] at hP hD
      obtain ⟨f_2, ef_2⟩ : ∃ g, g = upd o8 i (ms i) := ⟨_, rfl⟩
      rw [← ef_2] at hP hD
      have hP : va_P D vwCl [(h0, .inr (9, [.ref ys, .ref yk, .ref yo, .ref yt, .int mk0, .ref yfa, .ref yfe, .int mL, .int mS, .int mM, .ref yro, .ref yhe, .ref ygr, .int mF, .int mC, .int mY, .ref yta, .int (nI (mz)), .int (nI (mf)), .int (nI (mt)), .int mv, .int mw, .ref ywa, .ref ybi, .ref ysi, .ref ynu, .ref ymo])), (ys, .inl (cI, 449, .inl ms)), (yk, .inl (cI, 449, .inl f_2))] H := hP
      have hD : va_D A [(h0, .inr (9, [.ref ys, .ref yk, .ref yo, .ref yt, .int mk0, .ref yfa, .ref yfe, .int mL, .int mS, .int mM, .ref yro, .ref yhe, .ref ygr, .int mF, .int mC, .int mY, .ref yta, .int (nI (mz)), .int (nI (mf)), .int (nI (mt)), .int mv, .int mw, .ref ywa, .ref ybi, .ref ysi, .ref ynu, .ref ymo])), (ys, .inl (cI, 449, .inl ms)), (yk, .inl (cI, 449, .inl f_2))] := hD
      refine lv_iinc (v := nI (i + 1)) (lv' := [(1, .int (nI (i + 1))), (0, .ref h0)]) hx hb dX9_image_21 hl (k := 0) rfl (nI_1 (i)) (by decide) rfl (fun ls hl => ?_)
      refine lv_goto (tgt := 2) hx hb dX9_image_24 (by decide) ?_
      exact ih_2 (i + 1) f_2 _ _ _ (by omega) (by omega) (x_cpput hE ef_2) (hP.sub [0, 1, 2] rfl) (hD.sub [0, 1, 2] (by decide) rfl) hS (lv_sub hl [0, 1] rfl)
set_option maxHeartbeats 4000000 in
set_option maxRecDepth 100000 in
theorem c_X9_undo (l : Launch) (D : va_G) (cI cJ cZ cS : ClassId) (ta : Nat) (sa sv : Nat → Nat) (sz : Nat) (h0 : Nat) (ys : Nat) (yk : Nat) (yo : Nat) (yt : Nat) (mk0 : Int32) (yfa : Nat) (yfe : Nat) (mL : Int32) (mS : Int32) (mM : Int32) (yro : Nat) (yhe : Nat) (ygr : Nat) (mF : Int32) (mC : Int32) (mY : Int32) (yta : Nat) (mz : Nat) (mf : Nat) (mt : Nat) (mv : Int32) (mw : Int32) (ywa : Nat) (ybi : Nat) (ysi : Nat) (ynu : Nat) (ymo : Nat) (ms : Nat → Int32) (ks : Nat → Int32) (mq : Nat → Int32) (P : Nat) (Rn : Nat) (Wn : Nat) (fae : Nat → Int32) (fal : Nat → Int32) (fau : Nat → Int32) (fao : Nat → Int32) (farn : Nat → Int32) (farp : Nat → Int32) (fak : Nat → Int32) (fawn : Nat → Int32) (fawp : Nat → Int32) (fat : Nat → Int32) (fas : Nat → Int32) (Pk : Nat) (Rk : Nat) (Wk : Nat) (fke : Nat → Int32) (fkl : Nat → Int32) (fku : Nat → Int32) (fko : Nat → Int32) (fkrn : Nat → Int32) (fkrp : Nat → Int32) (fkk : Nat → Int32) (fkwn : Nat → Int32) (fkwp : Nat → Int32) (fkt : Nat → Int32) (fks : Nat → Int32) (hs0 : ms 0 = nI P) (hs1 : ms 1 = nI Rn) (hs2 : ms 2 = nI Wn) (hsS : SI ms) (hsM : MI ms) (hsp : P ≤ 10) (hsr : Rn ≤ 8) (hsw : Wn ≤ 8) (hsR : RI Rn ms) (hsG : FR P ms fae fal fau fao farn farp fak fawn fawp fat fas) (hk0 : ks 0 = nI Pk) (hk1 : ks 1 = nI Rk) (hk2 : ks 2 = nI Wk) (hkS : SI ks) (hkM : MI ks) (hkp : Pk ≤ 10) (hkr : Rk ≤ 8) (hkw : Wk ≤ 8) (hkR : RI Rk ks) (hkG : FR Pk ks fke fkl fku fko fkrn fkrp fkk fkwn fkwp fkt fks) : Met l yX9_undo (Cond.code yX9_undo cX9_undo 2 (some .int) :: wsU) ({ frames := 1, cells := 0, slots := 0, locals := 21 }) (va_Pc [.ref h0] (XW D (xT cI cJ cZ cS) ta sa sv [(h0, .inr (9, [.ref ys, .ref yk, .ref yo, .ref yt, .int mk0, .ref yfa, .ref yfe, .int mL, .int mS, .int mM, .ref yro, .ref yhe, .ref ygr, .int mF, .int mC, .int mY, .ref yta, .int (nI (mz)), .int (nI (mf)), .int (nI (mt)), .int mv, .int mw, .ref ywa, .ref ybi, .ref ysi, .ref ynu, .ref ymo])), (ys, .inl (cI, 449, .inl ms)), (yk, .inl (cI, 449, .inl ks)), (yt, .inl (cI, 7, .inl mq))] sz)) (XQi (fun (r : Int32) (u : (Nat → Int32) × (Nat → Int32) × Nat × Nat × Nat × (Nat → Int32) × (Nat → Int32) × (Nat → Int32) × (Nat → Int32) × (Nat → Int32) × (Nat → Int32) × (Nat → Int32) × (Nat → Int32) × (Nat → Int32) × (Nat → Int32) × (Nat → Int32)) => match u with | (ms2, mq2, P2, R2, W2, ge, gl, gu, go, grn, grp, gk, gwn, gwp, gt, gs) => ((r = sp_unr mk0 Pk)) ∧ (P2 = sp_un mk0 P Pk) ∧ (R2 = sp_un mk0 Rn Rk) ∧ (W2 = sp_un mk0 Wn Wk) ∧ (ge = unF mk0 fae fke) ∧ (gl = unF mk0 fal fkl) ∧ (gu = unF mk0 fau fku) ∧ (go = unF mk0 fao fko) ∧ (grn = unF mk0 farn fkrn) ∧ (grp = unF mk0 farp fkrp) ∧ (gk = unF mk0 fak fkk) ∧ (gwn = unF mk0 fawn fkwn) ∧ (gwp = unF mk0 fawp fkwp) ∧ (gt = unF mk0 fat fkt) ∧ (gs = unF mk0 fas fks) ∧ (ms2 0 = nI P2) ∧ (ms2 1 = nI R2) ∧ (ms2 2 = nI W2) ∧ (SI ms2) ∧ (MI ms2) ∧ (P2 ≤ 10) ∧ (R2 ≤ 8) ∧ (W2 ≤ 8) ∧ (RI R2 ms2) ∧ (FR P2 ms2 ge gl gu go grn grp gk gwn gwp gt gs)) D (fun (u : (Nat → Int32) × (Nat → Int32) × Nat × Nat × Nat × (Nat → Int32) × (Nat → Int32) × (Nat → Int32) × (Nat → Int32) × (Nat → Int32) × (Nat → Int32) × (Nat → Int32) × (Nat → Int32) × (Nat → Int32) × (Nat → Int32) × (Nat → Int32)) => match u with | (ms2, mq2, P2, R2, W2, ge, gl, gu, go, grn, grp, gk, gwn, gwp, gt, gs) => [(h0, .inr (9, [.ref ys, .ref yk, .ref yo, .ref yt, .int mk0, .ref yfa, .ref yfe, .int mL, .int mS, .int mM, .ref yro, .ref yhe, .ref ygr, .int mF, .int mC, .int mY, .ref yta, .int (nI (mz)), .int (nI (mf)), .int (nI (mt)), .int mv, .int mw, .ref ywa, .ref ybi, .ref ysi, .ref ynu, .ref ymo])), (ys, .inl (cI, 449, .inl ms2)), (yk, .inl (cI, 449, .inl ks)), (yt, .inl (cI, 7, .inl mq2))]) (va_A [(h0, .inr (9, [.ref ys, .ref yk, .ref yo, .ref yt, .int mk0, .ref yfa, .ref yfe, .int mL, .int mS, .int mM, .ref yro, .ref yhe, .ref ygr, .int mF, .int mC, .int mY, .ref yta, .int (nI (mz)), .int (nI (mf)), .int (nI (mt)), .int mv, .int mw, .ref ywa, .ref ybi, .ref ysi, .ref ynu, .ref ymo])), (ys, .inl (cI, 449, .inl ms)), (yk, .inl (cI, 449, .inl ks)), (yt, .inl (cI, 7, .inl mq))] sz)) 0 0 (va_A [(h0, .inr (9, [.ref ys, .ref yk, .ref yo, .ref yt, .int mk0, .ref yfa, .ref yfe, .int mL, .int mS, .int mM, .ref yro, .ref yhe, .ref ygr, .int mF, .int mC, .int mY, .ref yta, .int (nI (mz)), .int (nI (mf)), .int (nI (mt)), .int mv, .int mw, .ref ywa, .ref ybi, .ref ysi, .ref ynu, .ref ymo])), (ys, .inl (cI, 449, .inl ms)), (yk, .inl (cI, 449, .inl ks)), (yt, .inl (cI, 7, .inl mq))] sz) := by
  refine xh (QA := fun A => XQi (fun (r : Int32) (u : (Nat → Int32) × (Nat → Int32) × Nat × Nat × Nat × (Nat → Int32) × (Nat → Int32) × (Nat → Int32) × (Nat → Int32) × (Nat → Int32) × (Nat → Int32) × (Nat → Int32) × (Nat → Int32) × (Nat → Int32) × (Nat → Int32) × (Nat → Int32)) => match u with | (ms2, mq2, P2, R2, W2, ge, gl, gu, go, grn, grp, gk, gwn, gwp, gt, gs) => ((r = sp_unr mk0 Pk)) ∧ (P2 = sp_un mk0 P Pk) ∧ (R2 = sp_un mk0 Rn Rk) ∧ (W2 = sp_un mk0 Wn Wk) ∧ (ge = unF mk0 fae fke) ∧ (gl = unF mk0 fal fkl) ∧ (gu = unF mk0 fau fku) ∧ (go = unF mk0 fao fko) ∧ (grn = unF mk0 farn fkrn) ∧ (grp = unF mk0 farp fkrp) ∧ (gk = unF mk0 fak fkk) ∧ (gwn = unF mk0 fawn fkwn) ∧ (gwp = unF mk0 fawp fkwp) ∧ (gt = unF mk0 fat fkt) ∧ (gs = unF mk0 fas fks) ∧ (ms2 0 = nI P2) ∧ (ms2 1 = nI R2) ∧ (ms2 2 = nI W2) ∧ (SI ms2) ∧ (MI ms2) ∧ (P2 ≤ 10) ∧ (R2 ≤ 8) ∧ (W2 ≤ 8) ∧ (RI R2 ms2) ∧ (FR P2 ms2 ge gl gu go grn grp gk gwn gwp gt gs)) D (fun (u : (Nat → Int32) × (Nat → Int32) × Nat × Nat × Nat × (Nat → Int32) × (Nat → Int32) × (Nat → Int32) × (Nat → Int32) × (Nat → Int32) × (Nat → Int32) × (Nat → Int32) × (Nat → Int32) × (Nat → Int32) × (Nat → Int32) × (Nat → Int32)) => match u with | (ms2, mq2, P2, R2, W2, ge, gl, gu, go, grn, grp, gk, gwn, gwp, gt, gs) => [(h0, .inr (9, [.ref ys, .ref yk, .ref yo, .ref yt, .int mk0, .ref yfa, .ref yfe, .int mL, .int mS, .int mM, .ref yro, .ref yhe, .ref ygr, .int mF, .int mC, .int mY, .ref yta, .int (nI (mz)), .int (nI (mf)), .int (nI (mt)), .int mv, .int mw, .ref ywa, .ref ybi, .ref ysi, .ref ynu, .ref ymo])), (ys, .inl (cI, 449, .inl ms2)), (yk, .inl (cI, 449, .inl ks)), (yt, .inl (cI, 7, .inl mq2))]) A) (fr := fun A => A) (by decide) (Nat.le_of_ble_eq_true rfl) ?_
  intro p e s m below meth c ls A hF hr hlk hin hsz hP hK hD hN hZ hA hS hl
  have hF : CallFix p m c cX9_undo 2 s _ _ RX9 := hF
  have hx := hF.1
  have hb := hF.2.1
  have hml := hF.2.2.1
  have hown := hF.2.2.2.1
  have hu : ∀ w ∈ wsU, w.before _ s = true := fun w h => hF.2.2.2.2 w (List.mem_cons_of_mem _ h)
  have hl : lv_has ls 2 [(0, .ref h0)] := hl
  refine lv_aload_n hx hb dX9_undo_0 rfl (lv_at hl 0 rfl) ?_
  refine xg hF kf_X9_317 hK hP 0 rfl rfl dX9_undo_1 ?_
  refine lv_if_ne (tgt := 14) hx hb dX9_undo_4 (by decide) (fun c_1 => ?_) (fun c_1 => ?_)
  · skip
    refine lv_iconst (v := 0) hx hb dX9_undo_14 (by decide) ?_
    refine lv_istore_n (lv' := [(1, .int 0), (0, .ref h0)]) hx hb dX9_undo_15 rfl hl (by decide) rfl (fun ls hl => ?_)
    suffices loop_16 : ∀ (n_16 : Nat) (i : Nat) (o8 : Nat → Int32) (H : Heap) (locs : List Loc) (ls : Array Slot), 449 - i < n_16 → (i ≤ 449) → (∀ j, j < i → o8 j = ks j) → va_P D vwCl [(h0, .inr (9, [.ref ys, .ref yk, .ref yo, .ref yt, .int mk0, .ref yfa, .ref yfe, .int mL, .int mS, .int mM, .ref yro, .ref yhe, .ref ygr, .int mF, .int mC, .int mY, .ref yta, .int (nI (mz)), .int (nI (mf)), .int (nI (mt)), .int mv, .int mw, .ref ywa, .ref ybi, .ref ysi, .ref ynu, .ref ymo])), (ys, .inl (cI, 449, .inl o8)), (yk, .inl (cI, 449, .inl ks)), (yt, .inl (cI, 7, .inl mq))] H → va_D A [(h0, .inr (9, [.ref ys, .ref yk, .ref yo, .ref yt, .int mk0, .ref yfa, .ref yfe, .int mL, .int mS, .int mM, .ref yro, .ref yhe, .ref ygr, .int mF, .int mC, .int mY, .ref yta, .int (nI (mz)), .int (nI (mf)), .int (nI (mt)), .int mv, .int mw, .ref ywa, .ref ybi, .ref ysi, .ref ynu, .ref ymo])), (ys, .inl (cI, 449, .inl o8)), (yk, .inl (cI, 449, .inl ks)), (yt, .inl (cI, 7, .inl mq))] → va_S A s.heap H locs → lv_has ls 2 [(1, .int (nI (i))), (0, .ref h0)] → W p l e ({ frames := 1, cells := 0, slots := 0, locals := 21 }) s m ([.ref h0] : List Value).toArray below meth c H locs 0 0 (MQ below (XQi (fun (r : Int32) (u : (Nat → Int32) × (Nat → Int32) × Nat × Nat × Nat × (Nat → Int32) × (Nat → Int32) × (Nat → Int32) × (Nat → Int32) × (Nat → Int32) × (Nat → Int32) × (Nat → Int32) × (Nat → Int32) × (Nat → Int32) × (Nat → Int32) × (Nat → Int32)) => match u with | (ms2, mq2, P2, R2, W2, ge, gl, gu, go, grn, grp, gk, gwn, gwp, gt, gs) => ((r = sp_unr mk0 Pk)) ∧ (P2 = sp_un mk0 P Pk) ∧ (R2 = sp_un mk0 Rn Rk) ∧ (W2 = sp_un mk0 Wn Wk) ∧ (ge = unF mk0 fae fke) ∧ (gl = unF mk0 fal fkl) ∧ (gu = unF mk0 fau fku) ∧ (go = unF mk0 fao fko) ∧ (grn = unF mk0 farn fkrn) ∧ (grp = unF mk0 farp fkrp) ∧ (gk = unF mk0 fak fkk) ∧ (gwn = unF mk0 fawn fkwn) ∧ (gwp = unF mk0 fawp fkwp) ∧ (gt = unF mk0 fat fkt) ∧ (gs = unF mk0 fas fks) ∧ (ms2 0 = nI P2) ∧ (ms2 1 = nI R2) ∧ (ms2 2 = nI W2) ∧ (SI ms2) ∧ (MI ms2) ∧ (P2 ≤ 10) ∧ (R2 ≤ 8) ∧ (W2 ≤ 8) ∧ (RI R2 ms2) ∧ (FR P2 ms2 ge gl gu go grn grp gk gwn gwp gt gs)) D (fun (u : (Nat → Int32) × (Nat → Int32) × Nat × Nat × Nat × (Nat → Int32) × (Nat → Int32) × (Nat → Int32) × (Nat → Int32) × (Nat → Int32) × (Nat → Int32) × (Nat → Int32) × (Nat → Int32) × (Nat → Int32) × (Nat → Int32) × (Nat → Int32)) => match u with | (ms2, mq2, P2, R2, W2, ge, gl, gu, go, grn, grp, gk, gwn, gwp, gt, gs) => [(h0, .inr (9, [.ref ys, .ref yk, .ref yo, .ref yt, .int mk0, .ref yfa, .ref yfe, .int mL, .int mS, .int mM, .ref yro, .ref yhe, .ref ygr, .int mF, .int mC, .int mY, .ref yta, .int (nI (mz)), .int (nI (mf)), .int (nI (mt)), .int mv, .int mw, .ref ywa, .ref ybi, .ref ysi, .ref ynu, .ref ymo])), (ys, .inl (cI, 449, .inl ms2)), (yk, .inl (cI, 449, .inl ks)), (yt, .inl (cI, 7, .inl mq2))]) A) ([.ref h0] : List Value).toArray s 0 0 A) (F0 m 16 ls []) by
      exact loop_16 _ 0 ms _ _ _ (Nat.lt_succ_self _) (by omega) (fun j hj => absurd hj (Nat.not_lt_zero j)) hP hD hS (lv_sub hl [0, 1] rfl)
    intro n_16
    induction n_16 with
    | zero =>
      intro i o8 H locs ls hm_16
      exact absurd hm_16 (Nat.not_lt_zero _)
    | succ n_16 ih_16 =>
      intro i o8 H locs ls hm_16 hi hE hP hD hS hl
      refine lv_iload_n hx hb dX9_undo_16 rfl (lv_at hl 0 rfl) ?_
      refine lv_sipush (v := 449) hx hb dX9_undo_17 (by decide) ?_
      refine lv_icmp_ge (tgt := 41) hx hb dX9_undo_20 (by decide) (fun c_2 => ?_) (fun c_2 => ?_)
      · skip
        have nc_2 : 449 ≤ i := xn_le (a := 449) (b := i) (by omega) (by omega) c_2
        obtain ⟨hP, hD⟩ := xw_cg hP hD 1 rfl (g := ks) (x_all hE (by omega))
        have hP : va_P D vwCl [(h0, .inr (9, [.ref ys, .ref yk, .ref yo, .ref yt, .int mk0, .ref yfa, .ref yfe, .int mL, .int mS, .int mM, .ref yro, .ref yhe, .ref ygr, .int mF, .int mC, .int mY, .ref yta, .int (nI (mz)), .int (nI (mf)), .int (nI (mt)), .int mv, .int mw, .ref ywa, .ref ybi, .ref ysi, .ref ynu, .ref ymo])), (ys, .inl (cI, 449, .inl ks)), (yk, .inl (cI, 449, .inl ks)), (yt, .inl (cI, 7, .inl mq))] H := hP
        have hD : va_D A [(h0, .inr (9, [.ref ys, .ref yk, .ref yo, .ref yt, .int mk0, .ref yfa, .ref yfe, .int mL, .int mS, .int mM, .ref yro, .ref yhe, .ref ygr, .int mF, .int mC, .int mY, .ref yta, .int (nI (mz)), .int (nI (mf)), .int (nI (mt)), .int mv, .int mw, .ref ywa, .ref ybi, .ref ysi, .ref ynu, .ref ymo])), (ys, .inl (cI, 449, .inl ks)), (yk, .inl (cI, 449, .inl ks)), (yt, .inl (cI, 7, .inl mq))] := hD
        refine lv_aload_n hx hb dX9_undo_41 rfl (lv_at hl 1 rfl) ?_
        refine xg hF kf_X9_7 hK hP 0 rfl rfl dX9_undo_42 ?_
        refine lv_iconst (v := 0) hx hb dX9_undo_45 (by decide) ?_
        refine va_iald hx hb hK hP 1 0 rfl rfl (xin 0 449 (by decide) (by decide)) dX9_undo_46 ?_
        refine xl_i (y := nI (Pk)) hk0 ?_
        exact W.iret (v := nI (Pk)) hx hb hr (fun t ht hW => ⟨⟨nI (Pk), (ks, mq, Pk, Rk, Wk, fke, fkl, fku, fko, fkrn, fkrp, fkk, fkwn, fkwp, fkt, fks), rfl, ⟨(if_neg c_1).symm, (if_neg c_1).symm, (if_neg c_1).symm, (if_neg c_1).symm, (if_neg c_1).symm, (if_neg c_1).symm, (if_neg c_1).symm, (if_neg c_1).symm, (if_neg c_1).symm, (if_neg c_1).symm, (if_neg c_1).symm, (if_neg c_1).symm, (if_neg c_1).symm, (if_neg c_1).symm, (if_neg c_1).symm, hk0, hk1, hk2, hkS, hkM, hkp, hkr, hkw, hkR, hkG⟩, by rw [ht]; exact hP.sub [0, 1, 2, 3] rfl, hD.sub [0, 1, 2, 3] (by decide) rfl⟩, hS.F ht⟩) hS.2.2 dX9_undo_47 hlk
      · skip
        have nc_2 : i < 449 := xn_nle (a := 449) (b := i) (by omega) (by omega) c_2
        refine lv_aload_n hx hb dX9_undo_23 rfl (lv_at hl 1 rfl) ?_
        refine xg hF kf_X9_7 hK hP 0 rfl rfl dX9_undo_24 ?_
        refine lv_iload_n hx hb dX9_undo_27 rfl (lv_at hl 0 rfl) ?_
        refine lv_aload_n hx hb dX9_undo_28 rfl (lv_at hl 1 rfl) ?_
        refine xg hF kf_X9_13 hK hP 0 rfl rfl dX9_undo_29 ?_
        refine lv_iload_n hx hb dX9_undo_32 rfl (lv_at hl 0 rfl) ?_
        refine va_iald hx hb hK hP 2 0 rfl rfl (vp_in_nI (show i < 449 by omega) (by decide)) dX9_undo_33 ?_
        refine xl_i (y := ks i) (congrArg ks (nI_clamp (show i < 2 ^ 31 by omega))) ?_
        refine va_iast hx hb hK hP hD hS 1 0 rfl rfl (vp_in_nI (show i < 449 by omega) (by decide)) dX9_undo_34 (fun H locs hP hD hS => ?_)
        rw [nI_clamp (show i < 2 ^ 31 by omega)] at hP hD
        obtain ⟨f_3, ef_3⟩ : ∃ g, g = upd o8 i (ks i) := ⟨_, rfl⟩
        rw [← ef_3] at hP hD
        have hP : va_P D vwCl [(h0, .inr (9, [.ref ys, .ref yk, .ref yo, .ref yt, .int mk0, .ref yfa, .ref yfe, .int mL, .int mS, .int mM, .ref yro, .ref yhe, .ref ygr, .int mF, .int mC, .int mY, .ref yta, .int (nI (mz)), .int (nI (mf)), .int (nI (mt)), .int mv, .int mw, .ref ywa, .ref ybi, .ref ysi, .ref ynu, .ref ymo])), (ys, .inl (cI, 449, .inl f_3)), (yk, .inl (cI, 449, .inl ks)), (yt, .inl (cI, 7, .inl mq))] H := hP
        have hD : va_D A [(h0, .inr (9, [.ref ys, .ref yk, .ref yo, .ref yt, .int mk0, .ref yfa, .ref yfe, .int mL, .int mS, .int mM, .ref yro, .ref yhe, .ref ygr, .int mF, .int mC, .int mY, .ref yta, .int (nI (mz)), .int (nI (mf)), .int (nI (mt)), .int mv, .int mw, .ref ywa, .ref ybi, .ref ysi, .ref ynu, .ref ymo])), (ys, .inl (cI, 449, .inl f_3)), (yk, .inl (cI, 449, .inl ks)), (yt, .inl (cI, 7, .inl mq))] := hD
        refine lv_iinc (v := nI (i + 1)) (lv' := [(1, .int (nI (i + 1))), (0, .ref h0)]) hx hb dX9_undo_35 hl (k := 0) rfl (nI_1 (i)) (by decide) rfl (fun ls hl => ?_)
        refine lv_goto (tgt := 16) hx hb dX9_undo_38 (by decide) ?_
        exact ih_16 (i + 1) f_3 _ _ _ (by omega) (by omega) (x_cpput hE ef_3) (hP.sub [0, 1, 2, 3] rfl) (hD.sub [0, 1, 2, 3] (by decide) rfl) hS (lv_sub hl [0, 1] rfl)
  · skip
    refine lv_aload_n hx hb dX9_undo_7 rfl (lv_at hl 0 rfl) ?_
    refine lv_ldc (v := (-1000000004)) hx hb hown (hu _ uw699) dX9_undo_8 ?_
    refine xc_Vi (wr := [(ys, .inl (cI, 449, .inl ms)), (yk, .inl (cI, 449, .inl ks))]) hF (c_X9_finds_N l D cI cJ cZ cS ta sa sv s.heap.size h0 ys yk yo yt mk0 yfa yfe mL mS mM yro yhe ygr mF mC mY yta mz mf mt mv mw ywa ybi ysi ynu ymo mq ) kv_X9_70 ⟨rfl, rfl, Nat.le_of_ble_eq_true rfl, Nat.le_of_ble_eq_true rfl⟩ ⟨Nat.le_of_ble_eq_true rfl, Nat.le_of_ble_eq_true rfl⟩ hK hN hZ hP hD hS hA [0, 3] [1, 2] rfl rfl rfl rfl (by decide) 0 rfl rfl rfl rfl hl.1 rfl (Nat.le_of_ble_eq_true rfl) dX9_undo_10 (fun r_4 u_r_4 H locs hw_r_4 hP hD hS => ?_)
    obtain ⟨mq2_5, rfl⟩ : ∃ z, z = u_r_4 := ⟨_, rfl⟩
    try dsimp only at hw_r_4
    have hP : va_P D vwCl [(ys, .inl (cI, 449, .inl ms)), (yk, .inl (cI, 449, .inl ks)), (h0, .inr (9, [.ref ys, .ref yk, .ref yo, .ref yt, .int mk0, .ref yfa, .ref yfe, .int mL, .int mS, .int mM, .ref yro, .ref yhe, .ref ygr, .int mF, .int mC, .int mY, .ref yta, .int (nI (mz)), .int (nI (mf)), .int (nI (mt)), .int mv, .int mw, .ref ywa, .ref ybi, .ref ysi, .ref ynu, .ref ymo])), (yt, .inl (cI, 7, .inl mq2_5))] H := hP
    have hD : va_D A [(ys, .inl (cI, 449, .inl ms)), (yk, .inl (cI, 449, .inl ks)), (h0, .inr (9, [.ref ys, .ref yk, .ref yo, .ref yt, .int mk0, .ref yfa, .ref yfe, .int mL, .int mS, .int mM, .ref yro, .ref yhe, .ref ygr, .int mF, .int mC, .int mY, .ref yta, .int (nI (mz)), .int (nI (mf)), .int (nI (mt)), .int mv, .int mw, .ref ywa, .ref ybi, .ref ysi, .ref ynu, .ref ymo])), (yt, .inl (cI, 7, .inl mq2_5))] := hD
    subst hw_r_4
    exact W.iret (v := (-1000000004)) hx hb hr (fun t ht hW => ⟨⟨(-1000000004), (ms, mq2_5, P, Rn, Wn, fae, fal, fau, fao, farn, farp, fak, fawn, fawp, fat, fas), rfl, ⟨(if_pos c_1).symm, (if_pos c_1).symm, (if_pos c_1).symm, (if_pos c_1).symm, (if_pos c_1).symm, (if_pos c_1).symm, (if_pos c_1).symm, (if_pos c_1).symm, (if_pos c_1).symm, (if_pos c_1).symm, (if_pos c_1).symm, (if_pos c_1).symm, (if_pos c_1).symm, (if_pos c_1).symm, (if_pos c_1).symm, hs0, hs1, hs2, hsS, hsM, hsp, hsr, hsw, hsR, hsG⟩, by rw [ht]; exact hP.sub [2, 0, 1, 3] rfl, hD.sub [2, 0, 1, 3] (by decide) rfl⟩, hS.F ht⟩) hS.2.2 dX9_undo_13 hlk
set_option maxHeartbeats 4000000 in
set_option maxRecDepth 100000 in
theorem c_X9_tear (l : Launch) (D : va_G) (cI cJ cZ cS : ClassId) (ta : Nat) (sa sv : Nat → Nat) (sz : Nat) (h0 : Nat) (ys : Nat) (yk : Nat) (yo : Nat) (yt : Nat) (mk0 : Int32) (yfa : Nat) (yfe : Nat) (mL : Int32) (mS : Int32) (mM : Int32) (yro : Nat) (yhe : Nat) (ygr : Nat) (mF : Int32) (mC : Int32) (mY : Int32) (yta : Nat) (mz : Nat) (mf : Nat) (mt : Nat) (mv : Int32) (mw : Int32) (ywa : Nat) (ybi : Nat) (ysi : Nat) (ynu : Nat) (ymo : Nat) : Met l yX9_tear (Cond.code yX9_tear cX9_tear 2 (some .int) :: wsU) ({ frames := 0, cells := 0, slots := 0, locals := 0 }) (va_Pc [.ref h0] (XW D (xT cI cJ cZ cS) ta sa sv [(h0, .inr (9, [.ref ys, .ref yk, .ref yo, .ref yt, .int mk0, .ref yfa, .ref yfe, .int mL, .int mS, .int mM, .ref yro, .ref yhe, .ref ygr, .int mF, .int mC, .int mY, .ref yta, .int (nI (mz)), .int (nI (mf)), .int (nI (mt)), .int mv, .int mw, .ref ywa, .ref ybi, .ref ysi, .ref ynu, .ref ymo]))] sz)) (XQi (fun (r : Int32) (_ : Unit) => ((r = 1 ∧ (¬ mk0 = 0)) ∨ (r = 0 ∧ (mk0 = 0)))) D (fun _ : Unit => [(h0, .inr (9, [.ref ys, .ref yk, .ref yo, .ref yt, .int 0, .ref yfa, .ref yfe, .int mL, .int mS, .int mM, .ref yro, .ref yhe, .ref ygr, .int mF, .int mC, .int mY, .ref yta, .int (nI (mz)), .int (nI (mf)), .int (nI (mt)), .int mv, .int mw, .ref ywa, .ref ybi, .ref ysi, .ref ynu, .ref ymo]))]) (va_A [(h0, .inr (9, [.ref ys, .ref yk, .ref yo, .ref yt, .int mk0, .ref yfa, .ref yfe, .int mL, .int mS, .int mM, .ref yro, .ref yhe, .ref ygr, .int mF, .int mC, .int mY, .ref yta, .int (nI (mz)), .int (nI (mf)), .int (nI (mt)), .int mv, .int mw, .ref ywa, .ref ybi, .ref ysi, .ref ynu, .ref ymo]))] sz)) 0 0 (va_A [(h0, .inr (9, [.ref ys, .ref yk, .ref yo, .ref yt, .int mk0, .ref yfa, .ref yfe, .int mL, .int mS, .int mM, .ref yro, .ref yhe, .ref ygr, .int mF, .int mC, .int mY, .ref yta, .int (nI (mz)), .int (nI (mf)), .int (nI (mt)), .int mv, .int mw, .ref ywa, .ref ybi, .ref ysi, .ref ynu, .ref ymo]))] sz) := by
  refine xh (QA := fun A => XQi (fun (r : Int32) (_ : Unit) => ((r = 1 ∧ (¬ mk0 = 0)) ∨ (r = 0 ∧ (mk0 = 0)))) D (fun _ : Unit => [(h0, .inr (9, [.ref ys, .ref yk, .ref yo, .ref yt, .int 0, .ref yfa, .ref yfe, .int mL, .int mS, .int mM, .ref yro, .ref yhe, .ref ygr, .int mF, .int mC, .int mY, .ref yta, .int (nI (mz)), .int (nI (mf)), .int (nI (mt)), .int mv, .int mw, .ref ywa, .ref ybi, .ref ysi, .ref ynu, .ref ymo]))]) A) (fr := fun A => A) (by decide) (Nat.le_of_ble_eq_true rfl) ?_
  intro p e s m below meth c ls A hF hr hlk hin hsz hP hK hD hN hZ hA hS hl
  have hF : CallFix p m c cX9_tear 2 s _ _ RX9 := hF
  have hx := hF.1
  have hb := hF.2.1
  have hml := hF.2.2.1
  have hown := hF.2.2.2.1
  have hu : ∀ w ∈ wsU, w.before _ s = true := fun w h => hF.2.2.2.2 w (List.mem_cons_of_mem _ h)
  have hl : lv_has ls 2 [(0, .ref h0)] := hl
  refine lv_aload_n hx hb dX9_tear_0 rfl (lv_at hl 0 rfl) ?_
  refine xg hF kf_X9_317 hK hP 0 rfl rfl dX9_tear_1 ?_
  refine lv_if_eq (tgt := 11) hx hb dX9_tear_4 (by decide) (fun c_1 => ?_) (fun c_1 => ?_)
  · skip
    refine lv_iconst (v := 0) hx hb dX9_tear_11 (by decide) ?_
    refine lv_istore_n (lv' := [(1, .int 0), (0, .ref h0)]) hx hb dX9_tear_12 rfl hl (by decide) rfl (fun ls hl => ?_)
    refine lv_aload_n hx hb dX9_tear_13 rfl (lv_at hl 1 rfl) ?_
    refine lv_iconst (v := 0) hx hb dX9_tear_14 (by decide) ?_
    refine xp hF kf_X9_317 tyX9_ok nmX9 hK hP hD hS 0 rfl rfl rfl rfl (Nat.le_of_ble_eq_true rfl) dX9_tear_15 (fun H locs hP hD hS => ?_)
    have hP : va_P D vwCl [(h0, .inr (9, [.ref ys, .ref yk, .ref yo, .ref yt, .int 0, .ref yfa, .ref yfe, .int mL, .int mS, .int mM, .ref yro, .ref yhe, .ref ygr, .int mF, .int mC, .int mY, .ref yta, .int (nI (mz)), .int (nI (mf)), .int (nI (mt)), .int mv, .int mw, .ref ywa, .ref ybi, .ref ysi, .ref ynu, .ref ymo]))] H := hP
    have hD : va_D A [(h0, .inr (9, [.ref ys, .ref yk, .ref yo, .ref yt, .int 0, .ref yfa, .ref yfe, .int mL, .int mS, .int mM, .ref yro, .ref yhe, .ref ygr, .int mF, .int mC, .int mY, .ref yta, .int (nI (mz)), .int (nI (mf)), .int (nI (mt)), .int mv, .int mw, .ref ywa, .ref ybi, .ref ysi, .ref ynu, .ref ymo]))] := hD
    refine lv_iload_n hx hb dX9_tear_18 rfl (lv_at hl 0 rfl) ?_
    exact W.iret (v := 0) hx hb hr (fun t ht hW => ⟨⟨0, (), rfl, (by first | exact Or.inr (⟨rfl, (by first | assumption | omega | exact Or.inl (by first | assumption | omega) | exact Or.inr (by first | assumption | omega))⟩)), by rw [ht]; exact hP.sub [0] rfl, hD.sub [0] (by decide) rfl⟩, hS.F ht⟩) hS.2.2 dX9_tear_19 hlk
  · skip
    refine lv_iconst (v := 1) hx hb dX9_tear_7 (by decide) ?_
    refine lv_goto (tgt := 12) hx hb dX9_tear_8 (by decide) ?_
    refine lv_istore_n (lv' := [(1, .int 1), (0, .ref h0)]) hx hb dX9_tear_12 rfl hl (by decide) rfl (fun ls hl => ?_)
    refine lv_aload_n hx hb dX9_tear_13 rfl (lv_at hl 1 rfl) ?_
    refine lv_iconst (v := 0) hx hb dX9_tear_14 (by decide) ?_
    refine xp hF kf_X9_317 tyX9_ok nmX9 hK hP hD hS 0 rfl rfl rfl rfl (Nat.le_of_ble_eq_true rfl) dX9_tear_15 (fun H locs hP hD hS => ?_)
    have hP : va_P D vwCl [(h0, .inr (9, [.ref ys, .ref yk, .ref yo, .ref yt, .int 0, .ref yfa, .ref yfe, .int mL, .int mS, .int mM, .ref yro, .ref yhe, .ref ygr, .int mF, .int mC, .int mY, .ref yta, .int (nI (mz)), .int (nI (mf)), .int (nI (mt)), .int mv, .int mw, .ref ywa, .ref ybi, .ref ysi, .ref ynu, .ref ymo]))] H := hP
    have hD : va_D A [(h0, .inr (9, [.ref ys, .ref yk, .ref yo, .ref yt, .int 0, .ref yfa, .ref yfe, .int mL, .int mS, .int mM, .ref yro, .ref yhe, .ref ygr, .int mF, .int mC, .int mY, .ref yta, .int (nI (mz)), .int (nI (mf)), .int (nI (mt)), .int mv, .int mw, .ref ywa, .ref ybi, .ref ysi, .ref ynu, .ref ymo]))] := hD
    refine lv_iload_n hx hb dX9_tear_18 rfl (lv_at hl 0 rfl) ?_
    exact W.iret (v := 1) hx hb hr (fun t ht hW => ⟨⟨1, (), rfl, (by first | exact Or.inl ⟨rfl, (by first | assumption | omega | exact Or.inl (by first | assumption | omega) | exact Or.inr (by first | assumption | omega))⟩), by rw [ht]; exact hP.sub [0] rfl, hD.sub [0] (by decide) rfl⟩, hS.F ht⟩) hS.2.2 dX9_tear_19 hlk
set_option maxHeartbeats 4000000 in
set_option maxRecDepth 100000 in
theorem c_X9_count (l : Launch) (D : va_G) (cI cJ cZ cS : ClassId) (ta : Nat) (sa sv : Nat → Nat) (sz : Nat) (h0 : Nat) (ys : Nat) (yk : Nat) (yo : Nat) (yt : Nat) (mk0 : Int32) (yfa : Nat) (yfe : Nat) (mL : Int32) (mS : Int32) (mM : Int32) (yro : Nat) (yhe : Nat) (ygr : Nat) (mF : Int32) (mC : Int32) (mY : Int32) (yta : Nat) (mz : Nat) (mf : Nat) (mt : Nat) (mv : Int32) (mw : Int32) (ywa : Nat) (ybi : Nat) (ysi : Nat) (ynu : Nat) (ymo : Nat) (ms : Nat → Int32) (mq : Nat → Int32) (P : Nat) (Rn : Nat) (Wn : Nat) (fae : Nat → Int32) (fal : Nat → Int32) (fau : Nat → Int32) (fao : Nat → Int32) (farn : Nat → Int32) (farp : Nat → Int32) (fak : Nat → Int32) (fawn : Nat → Int32) (fawp : Nat → Int32) (fat : Nat → Int32) (fas : Nat → Int32) (p0 : Int32) (hz : mz ≤ 120) (hs0 : ms 0 = nI P) (hs1 : ms 1 = nI Rn) (hs2 : ms 2 = nI Wn) (hsS : SI ms) (hsM : MI ms) (hsp : P ≤ 10) (hsr : Rn ≤ 8) (hsw : Wn ≤ 8) (hsR : RI Rn ms) (hsG : FR P ms fae fal fau fao farn farp fak fawn fawp fat fas) : Met l yX9_count (Cond.code yX9_count cX9_count 4 (some .int) :: wsU) ({ frames := 2, cells := 0, slots := 0, locals := 51 }) (va_Pc [.ref h0, .int p0] (XW D (xT cI cJ cZ cS) ta sa sv [(h0, .inr (9, [.ref ys, .ref yk, .ref yo, .ref yt, .int mk0, .ref yfa, .ref yfe, .int mL, .int mS, .int mM, .ref yro, .ref yhe, .ref ygr, .int mF, .int mC, .int mY, .ref yta, .int (nI (mz)), .int (nI (mf)), .int (nI (mt)), .int mv, .int mw, .ref ywa, .ref ybi, .ref ysi, .ref ynu, .ref ymo])), (ys, .inl (cI, 449, .inl ms)), (yt, .inl (cI, 7, .inl mq))] sz)) (XQi (fun (r : Int32) (mq2 : (Nat → Int32)) => (True)) D (fun (mq2 : Nat → Int32) => [(h0, .inr (9, [.ref ys, .ref yk, .ref yo, .ref yt, .int mk0, .ref yfa, .ref yfe, .int mL, .int mS, .int mM, .ref yro, .ref yhe, .ref ygr, .int mF, .int mC, .int mY, .ref yta, .int (nI (mz)), .int (nI (mf)), .int (nI (mt)), .int mv, .int mw, .ref ywa, .ref ybi, .ref ysi, .ref ynu, .ref ymo])), (ys, .inl (cI, 449, .inl ms)), (yt, .inl (cI, 7, .inl mq2))]) (va_A [(h0, .inr (9, [.ref ys, .ref yk, .ref yo, .ref yt, .int mk0, .ref yfa, .ref yfe, .int mL, .int mS, .int mM, .ref yro, .ref yhe, .ref ygr, .int mF, .int mC, .int mY, .ref yta, .int (nI (mz)), .int (nI (mf)), .int (nI (mt)), .int mv, .int mw, .ref ywa, .ref ybi, .ref ysi, .ref ynu, .ref ymo])), (ys, .inl (cI, 449, .inl ms)), (yt, .inl (cI, 7, .inl mq))] sz)) 0 0 (va_A [(h0, .inr (9, [.ref ys, .ref yk, .ref yo, .ref yt, .int mk0, .ref yfa, .ref yfe, .int mL, .int mS, .int mM, .ref yro, .ref yhe, .ref ygr, .int mF, .int mC, .int mY, .ref yta, .int (nI (mz)), .int (nI (mf)), .int (nI (mt)), .int mv, .int mw, .ref ywa, .ref ybi, .ref ysi, .ref ynu, .ref ymo])), (ys, .inl (cI, 449, .inl ms)), (yt, .inl (cI, 7, .inl mq))] sz) := by
  refine xh (QA := fun A => XQi (fun (r : Int32) (mq2 : (Nat → Int32)) => (True)) D (fun (mq2 : Nat → Int32) => [(h0, .inr (9, [.ref ys, .ref yk, .ref yo, .ref yt, .int mk0, .ref yfa, .ref yfe, .int mL, .int mS, .int mM, .ref yro, .ref yhe, .ref ygr, .int mF, .int mC, .int mY, .ref yta, .int (nI (mz)), .int (nI (mf)), .int (nI (mt)), .int mv, .int mw, .ref ywa, .ref ybi, .ref ysi, .ref ynu, .ref ymo])), (ys, .inl (cI, 449, .inl ms)), (yt, .inl (cI, 7, .inl mq2))]) A) (fr := fun A => A) (by decide) (Nat.le_of_ble_eq_true rfl) ?_
  intro p e s m below meth c ls A hF hr hlk hin hsz hP hK hD hN hZ hA hS hl
  have hF : CallFix p m c cX9_count 4 s _ _ RX9 := hF
  have hx := hF.1
  have hb := hF.2.1
  have hml := hF.2.2.1
  have hown := hF.2.2.2.1
  have hu : ∀ w ∈ wsU, w.before _ s = true := fun w h => hF.2.2.2.2 w (List.mem_cons_of_mem _ h)
  have hl : lv_has ls 4 [(0, .ref h0), (1, .int p0)] := hl
  refine lv_iconst (v := 0) hx hb dX9_count_0 (by decide) ?_
  refine lv_istore_n (lv' := [(2, .int 0), (0, .ref h0), (1, .int p0)]) hx hb dX9_count_1 rfl hl (by decide) rfl (fun ls hl => ?_)
  refine lv_iload_n hx hb dX9_count_2 rfl (lv_at hl 2 rfl) ?_
  rcases x_s6 p0 with h_1 | e_2 | e_2 | e_2 | e_2 | e_2 | e_2
  · refine lv_tableOut (tgt := 103) hx hb dX9_count_3 h_1 (by decide) ?_
    refine lv_aload_n hx hb dX9_count_103 rfl (lv_at hl 1 rfl) ?_
    refine lv_ldc (v := (-1000000001)) hx hb hown (hu _ uw648) dX9_count_104 ?_
    refine xc_Vi (wr := [(ys, .inl (cI, 449, .inl ms))]) hF (c_X9_finds_B l D cI cJ cZ cS ta sa sv s.heap.size h0 ys yk yo yt mk0 yfa yfe mL mS mM yro yhe ygr mF mC mY yta mz mf mt mv mw ywa ybi ysi ynu ymo mq ) kv_X9_70 ⟨rfl, rfl, Nat.le_of_ble_eq_true rfl, Nat.le_of_ble_eq_true rfl⟩ ⟨Nat.le_of_ble_eq_true rfl, Nat.le_of_ble_eq_true rfl⟩ hK hN hZ hP hD hS hA [0, 2] [1] rfl rfl rfl rfl (by decide) 0 rfl rfl rfl rfl hl.1 rfl (Nat.le_of_ble_eq_true rfl) dX9_count_106 (fun r_3 u_r_3 H locs hw_r_3 hP hD hS => ?_)
    obtain ⟨mq2_4, rfl⟩ : ∃ z, z = u_r_3 := ⟨_, rfl⟩
    try dsimp only at hw_r_3
    have hP : va_P D vwCl [(ys, .inl (cI, 449, .inl ms)), (h0, .inr (9, [.ref ys, .ref yk, .ref yo, .ref yt, .int mk0, .ref yfa, .ref yfe, .int mL, .int mS, .int mM, .ref yro, .ref yhe, .ref ygr, .int mF, .int mC, .int mY, .ref yta, .int (nI (mz)), .int (nI (mf)), .int (nI (mt)), .int mv, .int mw, .ref ywa, .ref ybi, .ref ysi, .ref ynu, .ref ymo])), (yt, .inl (cI, 7, .inl mq2_4))] H := hP
    have hD : va_D A [(ys, .inl (cI, 449, .inl ms)), (h0, .inr (9, [.ref ys, .ref yk, .ref yo, .ref yt, .int mk0, .ref yfa, .ref yfe, .int mL, .int mS, .int mM, .ref yro, .ref yhe, .ref ygr, .int mF, .int mC, .int mY, .ref yta, .int (nI (mz)), .int (nI (mf)), .int (nI (mt)), .int mv, .int mw, .ref ywa, .ref ybi, .ref ysi, .ref ynu, .ref ymo])), (yt, .inl (cI, 7, .inl mq2_4))] := hD
    subst hw_r_3
    exact W.iret (v := (-1000000001)) hx hb hr (fun t ht hW => ⟨⟨(-1000000001), mq2_4, rfl, trivial, by rw [ht]; exact hP.sub [1, 0, 2] rfl, hD.sub [1, 0, 2] (by decide) rfl⟩, hS.F ht⟩) hS.2.2 dX9_count_109 hlk
  · refine xl_i (y := 0) e_2 ?_
    refine lv_tableIn (tgt := 40) hx hb dX9_count_3 (by decide) (by decide) rfl (by decide) ?_
    refine lv_aload_n hx hb dX9_count_40 rfl (lv_at hl 1 rfl) ?_
    refine xg hF kf_X9_7 hK hP 0 rfl rfl dX9_count_41 ?_
    refine lv_iconst (v := 0) hx hb dX9_count_44 (by decide) ?_
    refine va_iald hx hb hK hP 1 0 rfl rfl (xin 0 449 (by decide) (by decide)) dX9_count_45 ?_
    refine xl_i (y := nI (P)) hs0 ?_
    exact W.iret (v := nI (P)) hx hb hr (fun t ht hW => ⟨⟨nI (P), mq, rfl, trivial, by rw [ht]; exact hP.sub [0, 1, 2] rfl, hD.sub [0, 1, 2] (by decide) rfl⟩, hS.F ht⟩) hS.2.2 dX9_count_46 hlk
  · refine xl_i (y := 1) e_2 ?_
    refine lv_tableIn (tgt := 47) hx hb dX9_count_3 (by decide) (by decide) rfl (by decide) ?_
    refine lv_aload_n hx hb dX9_count_47 rfl (lv_at hl 1 rfl) ?_
    refine lv_iconst (v := 0) hx hb dX9_count_48 (by decide) ?_
    refine xc_Vi (wr := []) hF (c_X9_known l D cI cJ cZ cS ta sa sv s.heap.size h0 ys yk yo yt mk0 yfa yfe mL mS mM yro yhe ygr mF mC mY yta mz mf mt mv mw ywa ybi ysi ynu ymo ms mq P Rn Wn fae fal fau fao farn farp fak fawn fawp fat fas 0 hs0 hs1 hs2 hsS hsM hsp hsr hsw hsR hsG) kv_X9_320 ⟨rfl, rfl, Nat.le_of_ble_eq_true rfl, Nat.le_of_ble_eq_true rfl⟩ ⟨Nat.le_of_ble_eq_true rfl, Nat.le_of_ble_eq_true rfl⟩ hK hN hZ hP hD hS hA [0, 1, 2] [] rfl rfl rfl rfl (by decide) 0 rfl rfl rfl rfl hl.1 rfl (Nat.le_of_ble_eq_true rfl) dX9_count_49 (fun r_5 u_r_5 H locs hw_r_5 hP hD hS => ?_)
    obtain ⟨mq2_6, rfl⟩ : ∃ z, z = u_r_5 := ⟨_, rfl⟩
    try dsimp only at hw_r_5
    have hP : va_P D vwCl [(h0, .inr (9, [.ref ys, .ref yk, .ref yo, .ref yt, .int mk0, .ref yfa, .ref yfe, .int mL, .int mS, .int mM, .ref yro, .ref yhe, .ref ygr, .int mF, .int mC, .int mY, .ref yta, .int (nI (mz)), .int (nI (mf)), .int (nI (mt)), .int mv, .int mw, .ref ywa, .ref ybi, .ref ysi, .ref ynu, .ref ymo])), (ys, .inl (cI, 449, .inl ms)), (yt, .inl (cI, 7, .inl mq2_6))] H := hP
    have hD : va_D A [(h0, .inr (9, [.ref ys, .ref yk, .ref yo, .ref yt, .int mk0, .ref yfa, .ref yfe, .int mL, .int mS, .int mM, .ref yro, .ref yhe, .ref ygr, .int mF, .int mC, .int mY, .ref yta, .int (nI (mz)), .int (nI (mf)), .int (nI (mt)), .int mv, .int mw, .ref ywa, .ref ybi, .ref ysi, .ref ynu, .ref ymo])), (ys, .inl (cI, 449, .inl ms)), (yt, .inl (cI, 7, .inl mq2_6))] := hD
    exact W.iret (v := r_5) hx hb hr (fun t ht hW => ⟨⟨r_5, mq2_6, rfl, trivial, by rw [ht]; exact hP.sub [0, 1, 2] rfl, hD.sub [0, 1, 2] (by decide) rfl⟩, hS.F ht⟩) hS.2.2 dX9_count_52 hlk
  · refine xl_i (y := 2) e_2 ?_
    refine lv_tableIn (tgt := 53) hx hb dX9_count_3 (by decide) (by decide) rfl (by decide) ?_
    refine lv_aload_n hx hb dX9_count_53 rfl (lv_at hl 1 rfl) ?_
    refine xg hF kf_X9_7 hK hP 0 rfl rfl dX9_count_54 ?_
    refine lv_iconst (v := 1) hx hb dX9_count_57 (by decide) ?_
    refine va_iald hx hb hK hP 1 0 rfl rfl (xin 1 449 (by decide) (by decide)) dX9_count_58 ?_
    refine xl_i (y := nI (Rn)) hs1 ?_
    exact W.iret (v := nI (Rn)) hx hb hr (fun t ht hW => ⟨⟨nI (Rn), mq, rfl, trivial, by rw [ht]; exact hP.sub [0, 1, 2] rfl, hD.sub [0, 1, 2] (by decide) rfl⟩, hS.F ht⟩) hS.2.2 dX9_count_59 hlk
  · refine xl_i (y := 3) e_2 ?_
    refine lv_tableIn (tgt := 60) hx hb dX9_count_3 (by decide) (by decide) rfl (by decide) ?_
    refine lv_aload_n hx hb dX9_count_60 rfl (lv_at hl 1 rfl) ?_
    refine xg hF kf_X9_7 hK hP 0 rfl rfl dX9_count_61 ?_
    refine lv_iconst (v := 2) hx hb dX9_count_64 (by decide) ?_
    refine va_iald hx hb hK hP 1 0 rfl rfl (xin 2 449 (by decide) (by decide)) dX9_count_65 ?_
    refine xl_i (y := nI (Wn)) hs2 ?_
    exact W.iret (v := nI (Wn)) hx hb hr (fun t ht hW => ⟨⟨nI (Wn), mq, rfl, trivial, by rw [ht]; exact hP.sub [0, 1, 2] rfl, hD.sub [0, 1, 2] (by decide) rfl⟩, hS.F ht⟩) hS.2.2 dX9_count_66 hlk
  · refine xl_i (y := 4) e_2 ?_
    refine lv_tableIn (tgt := 67) hx hb dX9_count_3 (by decide) (by decide) rfl (by decide) ?_
    refine lv_aload_n hx hb dX9_count_67 rfl (lv_at hl 1 rfl) ?_
    refine xg hF kf_X9_240 hK hP 0 rfl rfl dX9_count_68 ?_
    exact W.iret (v := nI (mz)) hx hb hr (fun t ht hW => ⟨⟨nI (mz), mq, rfl, trivial, by rw [ht]; exact hP.sub [0, 1, 2] rfl, hD.sub [0, 1, 2] (by decide) rfl⟩, hS.F ht⟩) hS.2.2 dX9_count_71 hlk
  · refine xl_i (y := 5) e_2 ?_
    refine lv_tableIn (tgt := 72) hx hb dX9_count_3 (by decide) (by decide) rfl (by decide) ?_
    refine lv_iconst (v := 0) hx hb dX9_count_72 (by decide) ?_
    refine lv_istore_n (lv' := [(3, .int 0), (2, .int 0), (0, .ref h0), (1, .int p0)]) hx hb dX9_count_73 rfl hl (by decide) rfl (fun ls hl => ?_)
    suffices loop_74 : ∀ (n_74 : Nat) (i : Nat) (u8 : Int32) (H : Heap) (locs : List Loc) (ls : Array Slot), P - i < n_74 → (i ≤ P) → va_P D vwCl [(h0, .inr (9, [.ref ys, .ref yk, .ref yo, .ref yt, .int mk0, .ref yfa, .ref yfe, .int mL, .int mS, .int mM, .ref yro, .ref yhe, .ref ygr, .int mF, .int mC, .int mY, .ref yta, .int (nI (mz)), .int (nI (mf)), .int (nI (mt)), .int mv, .int mw, .ref ywa, .ref ybi, .ref ysi, .ref ynu, .ref ymo])), (ys, .inl (cI, 449, .inl ms)), (yt, .inl (cI, 7, .inl mq))] H → va_D A [(h0, .inr (9, [.ref ys, .ref yk, .ref yo, .ref yt, .int mk0, .ref yfa, .ref yfe, .int mL, .int mS, .int mM, .ref yro, .ref yhe, .ref ygr, .int mF, .int mC, .int mY, .ref yta, .int (nI (mz)), .int (nI (mf)), .int (nI (mt)), .int mv, .int mw, .ref ywa, .ref ybi, .ref ysi, .ref ynu, .ref ymo])), (ys, .inl (cI, 449, .inl ms)), (yt, .inl (cI, 7, .inl mq))] → va_S A s.heap H locs → lv_has ls 4 [(3, .int (nI (i))), (2, .int u8), (0, .ref h0), (1, .int p0)] → W p l e ({ frames := 2, cells := 0, slots := 0, locals := 51 }) s m ([.ref h0, .int p0] : List Value).toArray below meth c H locs 0 0 (MQ below (XQi (fun (r : Int32) (mq2 : (Nat → Int32)) => (True)) D (fun (mq2 : Nat → Int32) => [(h0, .inr (9, [.ref ys, .ref yk, .ref yo, .ref yt, .int mk0, .ref yfa, .ref yfe, .int mL, .int mS, .int mM, .ref yro, .ref yhe, .ref ygr, .int mF, .int mC, .int mY, .ref yta, .int (nI (mz)), .int (nI (mf)), .int (nI (mt)), .int mv, .int mw, .ref ywa, .ref ybi, .ref ysi, .ref ynu, .ref ymo])), (ys, .inl (cI, 449, .inl ms)), (yt, .inl (cI, 7, .inl mq2))]) A) ([.ref h0, .int p0] : List Value).toArray s 0 0 A) (F0 m 74 ls []) by
      exact loop_74 _ 0 0 _ _ _ (Nat.lt_succ_self _) (by omega) hP hD hS (lv_sub hl [0, 1, 2, 3] rfl)
    intro n_74
    induction n_74 with
    | zero =>
      intro i u8 H locs ls hm_74
      exact absurd hm_74 (Nat.not_lt_zero _)
    | succ n_74 ih_74 =>
      intro i u8 H locs ls hm_74 hi hP hD hS hl
      refine lv_iload_n hx hb dX9_count_74 rfl (lv_at hl 0 rfl) ?_
      refine lv_aload_n hx hb dX9_count_75 rfl (lv_at hl 2 rfl) ?_
      refine xg hF kf_X9_7 hK hP 0 rfl rfl dX9_count_76 ?_
      refine lv_iconst (v := 0) hx hb dX9_count_79 (by decide) ?_
      refine va_iald hx hb hK hP 1 0 rfl rfl (xin 0 449 (by decide) (by decide)) dX9_count_80 ?_
      refine xl_i (y := nI (P)) hs0 ?_
      refine lv_icmp_ge (tgt := 101) hx hb dX9_count_81 (by decide) (fun c_7 => ?_) (fun c_7 => ?_)
      · skip
        have nc_7 : P ≤ i := xn_le (a := P) (b := i) (by omega) (by omega) c_7
        refine lv_iload_n hx hb dX9_count_101 rfl (lv_at hl 1 rfl) ?_
        exact W.iret (v := u8) hx hb hr (fun t ht hW => ⟨⟨u8, mq, rfl, trivial, by rw [ht]; exact hP.sub [0, 1, 2] rfl, hD.sub [0, 1, 2] (by decide) rfl⟩, hS.F ht⟩) hS.2.2 dX9_count_102 hlk
      · skip
        have nc_7 : i < P := xn_nle (a := P) (b := i) (by omega) (by omega) c_7
        refine lv_iload_n hx hb dX9_count_84 rfl (lv_at hl 1 rfl) ?_
        refine lv_aload_n hx hb dX9_count_85 rfl (lv_at hl 2 rfl) ?_
        refine xg hF kf_X9_7 hK hP 0 rfl rfl dX9_count_86 ?_
        refine lv_iconst (v := 3) hx hb dX9_count_89 (by decide) ?_
        refine lv_iload_n hx hb dX9_count_90 rfl (lv_at hl 0 rfl) ?_
        refine lv_iadd hx hb dX9_count_91 ?_
        refine xl_i (y := nI (3 + i)) (nI_add 3 i) ?_
        refine va_iald hx hb hK hP 1 0 rfl rfl (vp_in_nI (show 3 + i < 449 by omega) (by decide)) dX9_count_92 ?_
        refine xl_i (y := ms (3 + i)) (congrArg ms (nI_clamp (show 3 + i < 2 ^ 31 by omega))) ?_
        refine lv_iadd hx hb dX9_count_93 ?_
        refine lv_topi (fun x_8 ex_8 => ?_)
        refine lv_istore_n (lv' := [(2, .int x_8), (3, .int (nI (i))), (0, .ref h0), (1, .int p0)]) hx hb dX9_count_94 rfl hl (by decide) rfl (fun ls hl => ?_)
        refine lv_iinc (v := nI (i + 1)) (lv' := [(3, .int (nI (i + 1))), (2, .int x_8), (0, .ref h0), (1, .int p0)]) hx hb dX9_count_95 hl (k := 1) rfl (nI_1 (i)) (by decide) rfl (fun ls hl => ?_)
        refine lv_goto (tgt := 74) hx hb dX9_count_98 (by decide) ?_
        exact ih_74 (i + 1) x_8 _ _ _ (by omega) (by omega) (hP.sub [0, 1, 2] rfl) (hD.sub [0, 1, 2] (by decide) rfl) hS (lv_sub hl [0, 1, 2, 3] rfl)
set_option maxHeartbeats 4000000 in
set_option maxRecDepth 100000 in
theorem c_X9_status (l : Launch) (D : va_G) (cI cJ cZ cS : ClassId) (ta : Nat) (sa sv : Nat → Nat) (sz : Nat) (h0 : Nat) (ys : Nat) (yk : Nat) (yo : Nat) (yt : Nat) (mk0 : Int32) (yfa : Nat) (yfe : Nat) (mL : Int32) (mS : Int32) (mM : Int32) (yro : Nat) (yhe : Nat) (ygr : Nat) (mF : Int32) (mC : Int32) (mY : Int32) (yta : Nat) (mz : Nat) (mf : Nat) (mt : Nat) (mv : Int32) (mw : Int32) (ywa : Nat) (ybi : Nat) (ysi : Nat) (ynu : Nat) (ymo : Nat) (mq : Nat → Int32) (p0 : Int32) : Met l yX9_status (Cond.code yX9_status cX9_status 4 (some .int) :: wsU) ({ frames := 1, cells := 0, slots := 0, locals := 25 }) (va_Pc [.ref h0, .int p0] (XW D (xT cI cJ cZ cS) ta sa sv [(h0, .inr (9, [.ref ys, .ref yk, .ref yo, .ref yt, .int mk0, .ref yfa, .ref yfe, .int mL, .int mS, .int mM, .ref yro, .ref yhe, .ref ygr, .int mF, .int mC, .int mY, .ref yta, .int (nI (mz)), .int (nI (mf)), .int (nI (mt)), .int mv, .int mw, .ref ywa, .ref ybi, .ref ysi, .ref ynu, .ref ymo])), (yt, .inl (cI, 7, .inl mq))] sz)) (XQi (fun (r : Int32) (mq2 : (Nat → Int32)) => (True)) D (fun (mq2 : Nat → Int32) => [(h0, .inr (9, [.ref ys, .ref yk, .ref yo, .ref yt, .int mk0, .ref yfa, .ref yfe, .int mL, .int mS, .int mM, .ref yro, .ref yhe, .ref ygr, .int mF, .int mC, .int mY, .ref yta, .int (nI (mz)), .int (nI (mf)), .int (nI (mt)), .int mv, .int mw, .ref ywa, .ref ybi, .ref ysi, .ref ynu, .ref ymo])), (yt, .inl (cI, 7, .inl mq2))]) (va_A [(h0, .inr (9, [.ref ys, .ref yk, .ref yo, .ref yt, .int mk0, .ref yfa, .ref yfe, .int mL, .int mS, .int mM, .ref yro, .ref yhe, .ref ygr, .int mF, .int mC, .int mY, .ref yta, .int (nI (mz)), .int (nI (mf)), .int (nI (mt)), .int mv, .int mw, .ref ywa, .ref ybi, .ref ysi, .ref ynu, .ref ymo])), (yt, .inl (cI, 7, .inl mq))] sz)) 0 0 (va_A [(h0, .inr (9, [.ref ys, .ref yk, .ref yo, .ref yt, .int mk0, .ref yfa, .ref yfe, .int mL, .int mS, .int mM, .ref yro, .ref yhe, .ref ygr, .int mF, .int mC, .int mY, .ref yta, .int (nI (mz)), .int (nI (mf)), .int (nI (mt)), .int mv, .int mw, .ref ywa, .ref ybi, .ref ysi, .ref ynu, .ref ymo])), (yt, .inl (cI, 7, .inl mq))] sz) := by
  refine xh (QA := fun A => XQi (fun (r : Int32) (mq2 : (Nat → Int32)) => (True)) D (fun (mq2 : Nat → Int32) => [(h0, .inr (9, [.ref ys, .ref yk, .ref yo, .ref yt, .int mk0, .ref yfa, .ref yfe, .int mL, .int mS, .int mM, .ref yro, .ref yhe, .ref ygr, .int mF, .int mC, .int mY, .ref yta, .int (nI (mz)), .int (nI (mf)), .int (nI (mt)), .int mv, .int mw, .ref ywa, .ref ybi, .ref ysi, .ref ynu, .ref ymo])), (yt, .inl (cI, 7, .inl mq2))]) A) (fr := fun A => A) (by decide) (Nat.le_of_ble_eq_true rfl) ?_
  intro p e s m below meth c ls A hF hr hlk hin hsz hP hK hD hN hZ hA hS hl
  have hF : CallFix p m c cX9_status 4 s _ _ RX9 := hF
  have hx := hF.1
  have hb := hF.2.1
  have hml := hF.2.2.1
  have hown := hF.2.2.2.1
  have hu : ∀ w ∈ wsU, w.before _ s = true := fun w h => hF.2.2.2.2 w (List.mem_cons_of_mem _ h)
  have hl : lv_has ls 4 [(0, .ref h0), (1, .int p0)] := hl
  refine lv_iload_n hx hb dX9_status_0 rfl (lv_at hl 1 rfl) ?_
  refine lv_i2l (v := p0.toInt64) hx hb dX9_status_1 rfl ?_
  refine lv_ldc2 (v := (-1)) hx hb hown (hu _ uw717) dX9_status_2 ?_
  refine xl_l (y := (-1 : Int32).toInt64) (by decide) ?_
  refine lv_ldc2 (v := 6) hx hb hown (hu _ uw719) dX9_status_5 ?_
  refine xl_l (y := (6 : Int32).toInt64) (by decide) ?_
  refine xc_Sr hF (c_X9_in l D cI cJ cZ cS ta sa sv s.heap.size p0 (-1) 6 ) ks_X9_57 ⟨rfl, rfl, Nat.le_of_ble_eq_true rfl, Nat.le_of_ble_eq_true rfl⟩ ⟨Nat.le_of_ble_eq_true rfl, Nat.le_of_ble_eq_true rfl⟩ hK hN hZ hP hD hS hA [] rfl rfl rfl hl.1 rfl (Nat.le_of_ble_eq_true rfl) dX9_status_8 (fun r_1 hw_r_1 => ?_)
  rcases hw_r_1 with ⟨rfl, h_2, h_3⟩ | ⟨rfl, h_4⟩
  · skip
    refine lv_if_ne (tgt := 21) hx hb dX9_status_11 (by decide) (fun c_5 => ?_) (fun c_5 => absurd c_5 (by decide))
    refine lv_iconst (v := 0) hx hb dX9_status_21 (by decide) ?_
    refine lv_istore_n (lv' := [(2, .int 0), (0, .ref h0), (1, .int p0)]) hx hb dX9_status_22 rfl hl (by decide) rfl (fun ls hl => ?_)
    refine lv_iconst (v := 0) hx hb dX9_status_23 (by decide) ?_
    refine lv_istore_n (lv' := [(3, .int 0), (2, .int 0), (0, .ref h0), (1, .int p0)]) hx hb dX9_status_24 rfl hl (by decide) rfl (fun ls hl => ?_)
    suffices loop_25 : ∀ (n_25 : Nat) (i : Nat) (u8 : Int32) (H : Heap) (locs : List Loc) (ls : Array Slot), 7 - i < n_25 → (i ≤ 7) → va_P D vwCl [(h0, .inr (9, [.ref ys, .ref yk, .ref yo, .ref yt, .int mk0, .ref yfa, .ref yfe, .int mL, .int mS, .int mM, .ref yro, .ref yhe, .ref ygr, .int mF, .int mC, .int mY, .ref yta, .int (nI (mz)), .int (nI (mf)), .int (nI (mt)), .int mv, .int mw, .ref ywa, .ref ybi, .ref ysi, .ref ynu, .ref ymo])), (yt, .inl (cI, 7, .inl mq))] H → va_D A [(h0, .inr (9, [.ref ys, .ref yk, .ref yo, .ref yt, .int mk0, .ref yfa, .ref yfe, .int mL, .int mS, .int mM, .ref yro, .ref yhe, .ref ygr, .int mF, .int mC, .int mY, .ref yta, .int (nI (mz)), .int (nI (mf)), .int (nI (mt)), .int mv, .int mw, .ref ywa, .ref ybi, .ref ysi, .ref ynu, .ref ymo])), (yt, .inl (cI, 7, .inl mq))] → va_S A s.heap H locs → lv_has ls 4 [(3, .int (nI (i))), (2, .int u8), (0, .ref h0), (1, .int p0)] → W p l e ({ frames := 1, cells := 0, slots := 0, locals := 25 }) s m ([.ref h0, .int p0] : List Value).toArray below meth c H locs 0 0 (MQ below (XQi (fun (r : Int32) (mq2 : (Nat → Int32)) => (True)) D (fun (mq2 : Nat → Int32) => [(h0, .inr (9, [.ref ys, .ref yk, .ref yo, .ref yt, .int mk0, .ref yfa, .ref yfe, .int mL, .int mS, .int mM, .ref yro, .ref yhe, .ref ygr, .int mF, .int mC, .int mY, .ref yta, .int (nI (mz)), .int (nI (mf)), .int (nI (mt)), .int mv, .int mw, .ref ywa, .ref ybi, .ref ysi, .ref ynu, .ref ymo])), (yt, .inl (cI, 7, .inl mq2))]) A) ([.ref h0, .int p0] : List Value).toArray s 0 0 A) (F0 m 25 ls []) by
      exact loop_25 _ 0 0 _ _ _ (Nat.lt_succ_self _) (by omega) hP hD hS (lv_sub hl [0, 1, 2, 3] rfl)
    intro n_25
    induction n_25 with
    | zero =>
      intro i u8 H locs ls hm_25
      exact absurd hm_25 (Nat.not_lt_zero _)
    | succ n_25 ih_25 =>
      intro i u8 H locs ls hm_25 hi hP hD hS hl
      refine lv_iload_n hx hb dX9_status_25 rfl (lv_at hl 0 rfl) ?_
      refine lv_bipush (v := 7) hx hb dX9_status_26 (by decide) ?_
      refine lv_icmp_ge (tgt := 59) hx hb dX9_status_28 (by decide) (fun c_6 => ?_) (fun c_6 => ?_)
      · skip
        have nc_6 : 7 ≤ i := xn_le (a := 7) (b := i) (by omega) (by omega) c_6
        refine lv_iload_n hx hb dX9_status_59 rfl (lv_at hl 1 rfl) ?_
        exact W.iret (v := u8) hx hb hr (fun t ht hW => ⟨⟨u8, mq, rfl, trivial, by rw [ht]; exact hP.sub [0, 1] rfl, hD.sub [0, 1] (by decide) rfl⟩, hS.F ht⟩) hS.2.2 dX9_status_60 hlk
      · skip
        have nc_6 : i < 7 := xn_nle (a := 7) (b := i) (by omega) (by omega) c_6
        refine lv_iload_n hx hb dX9_status_31 rfl (lv_at hl 1 rfl) ?_
        refine lv_iload_n hx hb dX9_status_32 rfl (lv_at hl 3 rfl) ?_
        refine lv_if_lt (tgt := 41) hx hb dX9_status_33 (by decide) (fun c_7 => ?_) (fun c_7 => ?_)
        · skip
          refine lv_aload_n hx hb dX9_status_41 rfl (lv_at hl 2 rfl) ?_
          refine xg hF kf_X9_19 hK hP 0 rfl rfl dX9_status_42 ?_
          refine lv_iload_n hx hb dX9_status_45 rfl (lv_at hl 0 rfl) ?_
          refine va_iald hx hb hK hP 1 0 rfl rfl (vp_in_nI (show i < 7 by omega) (by decide)) dX9_status_46 ?_
          refine xl_i (y := mq i) (congrArg mq (nI_clamp (show i < 2 ^ 31 by omega))) ?_
          refine lv_goto (tgt := 51) hx hb dX9_status_47 (by decide) ?_
          refine lv_iadd hx hb dX9_status_51 ?_
          refine lv_topi (fun x_8 ex_8 => ?_)
          refine lv_istore_n (lv' := [(2, .int x_8), (3, .int (nI (i))), (0, .ref h0), (1, .int p0)]) hx hb dX9_status_52 rfl hl (by decide) rfl (fun ls hl => ?_)
          refine lv_iinc (v := nI (i + 1)) (lv' := [(3, .int (nI (i + 1))), (2, .int x_8), (0, .ref h0), (1, .int p0)]) hx hb dX9_status_53 hl (k := 1) rfl (nI_1 (i)) (by decide) rfl (fun ls hl => ?_)
          refine lv_goto (tgt := 25) hx hb dX9_status_56 (by decide) ?_
          exact ih_25 (i + 1) x_8 _ _ _ (by omega) (by omega) (hP.sub [0, 1] rfl) (hD.sub [0, 1] (by decide) rfl) hS (lv_sub hl [0, 1, 2, 3] rfl)
        · skip
          refine lv_iload_n hx hb dX9_status_36 rfl (lv_at hl 0 rfl) ?_
          refine lv_iload_n hx hb dX9_status_37 rfl (lv_at hl 3 rfl) ?_
          refine lv_icmp_ne (tgt := 50) hx hb dX9_status_38 (by decide) (fun c_9 => ?_) (fun c_9 => ?_)
          · skip
            refine lv_iconst (v := 0) hx hb dX9_status_50 (by decide) ?_
            refine lv_iadd hx hb dX9_status_51 ?_
            refine lv_topi (fun x_10 ex_10 => ?_)
            refine lv_istore_n (lv' := [(2, .int x_10), (3, .int (nI (i))), (0, .ref h0), (1, .int p0)]) hx hb dX9_status_52 rfl hl (by decide) rfl (fun ls hl => ?_)
            refine lv_iinc (v := nI (i + 1)) (lv' := [(3, .int (nI (i + 1))), (2, .int x_10), (0, .ref h0), (1, .int p0)]) hx hb dX9_status_53 hl (k := 1) rfl (nI_1 (i)) (by decide) rfl (fun ls hl => ?_)
            refine lv_goto (tgt := 25) hx hb dX9_status_56 (by decide) ?_
            exact ih_25 (i + 1) x_10 _ _ _ (by omega) (by omega) (hP.sub [0, 1] rfl) (hD.sub [0, 1] (by decide) rfl) hS (lv_sub hl [0, 1, 2, 3] rfl)
          · skip
            refine lv_aload_n hx hb dX9_status_41 rfl (lv_at hl 2 rfl) ?_
            refine xg hF kf_X9_19 hK hP 0 rfl rfl dX9_status_42 ?_
            refine lv_iload_n hx hb dX9_status_45 rfl (lv_at hl 0 rfl) ?_
            refine va_iald hx hb hK hP 1 0 rfl rfl (vp_in_nI (show i < 7 by omega) (by decide)) dX9_status_46 ?_
            refine xl_i (y := mq i) (congrArg mq (nI_clamp (show i < 2 ^ 31 by omega))) ?_
            refine lv_goto (tgt := 51) hx hb dX9_status_47 (by decide) ?_
            refine lv_iadd hx hb dX9_status_51 ?_
            refine lv_topi (fun x_11 ex_11 => ?_)
            refine lv_istore_n (lv' := [(2, .int x_11), (3, .int (nI (i))), (0, .ref h0), (1, .int p0)]) hx hb dX9_status_52 rfl hl (by decide) rfl (fun ls hl => ?_)
            refine lv_iinc (v := nI (i + 1)) (lv' := [(3, .int (nI (i + 1))), (2, .int x_11), (0, .ref h0), (1, .int p0)]) hx hb dX9_status_53 hl (k := 1) rfl (nI_1 (i)) (by decide) rfl (fun ls hl => ?_)
            refine lv_goto (tgt := 25) hx hb dX9_status_56 (by decide) ?_
            exact ih_25 (i + 1) x_11 _ _ _ (by omega) (by omega) (hP.sub [0, 1] rfl) (hD.sub [0, 1] (by decide) rfl) hS (lv_sub hl [0, 1, 2, 3] rfl)
  · skip
    refine lv_if_ne (tgt := 21) hx hb dX9_status_11 (by decide) (fun c_12 => absurd (by decide) c_12) (fun c_12 => ?_)
    refine lv_aload_n hx hb dX9_status_14 rfl (lv_at hl 0 rfl) ?_
    refine lv_ldc (v := (-1000000001)) hx hb hown (hu _ uw648) dX9_status_15 ?_
    refine xc_Vi (wr := []) hF (c_X9_finds_B l D cI cJ cZ cS ta sa sv s.heap.size h0 ys yk yo yt mk0 yfa yfe mL mS mM yro yhe ygr mF mC mY yta mz mf mt mv mw ywa ybi ysi ynu ymo mq ) kv_X9_70 ⟨rfl, rfl, Nat.le_of_ble_eq_true rfl, Nat.le_of_ble_eq_true rfl⟩ ⟨Nat.le_of_ble_eq_true rfl, Nat.le_of_ble_eq_true rfl⟩ hK hN hZ hP hD hS hA [0, 1] [] rfl rfl rfl rfl (by decide) 0 rfl rfl rfl rfl hl.1 rfl (Nat.le_of_ble_eq_true rfl) dX9_status_17 (fun r_13 u_r_13 H locs hw_r_13 hP hD hS => ?_)
    obtain ⟨mq2_14, rfl⟩ : ∃ z, z = u_r_13 := ⟨_, rfl⟩
    try dsimp only at hw_r_13
    have hP : va_P D vwCl [(h0, .inr (9, [.ref ys, .ref yk, .ref yo, .ref yt, .int mk0, .ref yfa, .ref yfe, .int mL, .int mS, .int mM, .ref yro, .ref yhe, .ref ygr, .int mF, .int mC, .int mY, .ref yta, .int (nI (mz)), .int (nI (mf)), .int (nI (mt)), .int mv, .int mw, .ref ywa, .ref ybi, .ref ysi, .ref ynu, .ref ymo])), (yt, .inl (cI, 7, .inl mq2_14))] H := hP
    have hD : va_D A [(h0, .inr (9, [.ref ys, .ref yk, .ref yo, .ref yt, .int mk0, .ref yfa, .ref yfe, .int mL, .int mS, .int mM, .ref yro, .ref yhe, .ref ygr, .int mF, .int mC, .int mY, .ref yta, .int (nI (mz)), .int (nI (mf)), .int (nI (mt)), .int mv, .int mw, .ref ywa, .ref ybi, .ref ysi, .ref ynu, .ref ymo])), (yt, .inl (cI, 7, .inl mq2_14))] := hD
    subst hw_r_13
    exact W.iret (v := (-1000000001)) hx hb hr (fun t ht hW => ⟨⟨(-1000000001), mq2_14, rfl, trivial, by rw [ht]; exact hP.sub [0, 1] rfl, hD.sub [0, 1] (by decide) rfl⟩, hS.F ht⟩) hS.2.2 dX9_status_20 hlk
