def LRX2_wayOn_2 : List UInt8 := []
def LBX2_wayOn_1 : List UInt8 := [0x60, 0xb6, 0x00, 0x24, 0xb8, 0x00, 0x30, 0xac]
def LRX2_wayOn_1 : List UInt8 := LBX2_wayOn_1 ++ LRX2_wayOn_2
def LBX2_wayOn_0 : List UInt8 := [0x2a, 0xb4, 0x00, 0x11, 0x1b, 0x1c, 0xb6, 0x00, 0x24, 0x2a, 0xb4, 0x00, 0x11, 0x1b, 0x1c, 0x04]
def LRX2_wayOn_0 : List UInt8 := LBX2_wayOn_0 ++ LRX2_wayOn_1
set_option maxRecDepth 100000 in
theorem LBX2_wayOn_eq : cX2_wayOn.data.toList = LRX2_wayOn_0 := by decide +kernel
theorem LBX2_wayOnr_0 (k : Nat) : cX2_wayOn.data.toList[0 + k]? = LRX2_wayOn_0[k]? := by rw [LBX2_wayOn_eq, Nat.zero_add]
theorem LBX2_wayOnr_1 (k : Nat) : cX2_wayOn.data.toList[16 + k]? = LRX2_wayOn_1[k]? := by
  have h := LBX2_wayOnr_0 (16 + k)
  rw [show 0 + (16 + k) = 16 + k by omega] at h
  rw [h]
  exact (List.getElem?_append_right (l₁ := LBX2_wayOn_0) (l₂ := LRX2_wayOn_1) (show 16 ≤ 16 + k by omega)).trans (congrArg (fun i => LRX2_wayOn_1[i]?) (show 16 + k - 16 = k by omega))
theorem dX2_wayOn_0 : decode cX2_wayOn 0 = .ok (.aload_n 0, 1) := dk_42_ (show cX2_wayOn.data.toList[0]? = some 0x2a from (LBX2_wayOnr_0 0).trans (by decide +kernel))
theorem dX2_wayOn_1 : decode cX2_wayOn 1 = .ok (.getfield 17, 3) := dk_180_ (show cX2_wayOn.data.toList[1]? = some 0xb4 from (LBX2_wayOnr_0 1).trans (by decide +kernel)) (show cX2_wayOn.data.toList[2]? = some 0x00 from (LBX2_wayOnr_0 2).trans (by decide +kernel)) (show cX2_wayOn.data.toList[3]? = some 0x11 from (LBX2_wayOnr_0 3).trans (by decide +kernel)) (by decide)
theorem dX2_wayOn_4 : decode cX2_wayOn 4 = .ok (.iload_n 1, 1) := dk_27_ (show cX2_wayOn.data.toList[4]? = some 0x1b from (LBX2_wayOnr_0 4).trans (by decide +kernel))
theorem dX2_wayOn_5 : decode cX2_wayOn 5 = .ok (.iload_n 2, 1) := dk_28_ (show cX2_wayOn.data.toList[5]? = some 0x1c from (LBX2_wayOnr_0 5).trans (by decide +kernel))
theorem dX2_wayOn_6 : decode cX2_wayOn 6 = .ok (.invokevirtual 36, 3) := dk_182_ (show cX2_wayOn.data.toList[6]? = some 0xb6 from (LBX2_wayOnr_0 6).trans (by decide +kernel)) (show cX2_wayOn.data.toList[7]? = some 0x00 from (LBX2_wayOnr_0 7).trans (by decide +kernel)) (show cX2_wayOn.data.toList[8]? = some 0x24 from (LBX2_wayOnr_0 8).trans (by decide +kernel)) (by decide)
theorem dX2_wayOn_9 : decode cX2_wayOn 9 = .ok (.aload_n 0, 1) := dk_42_ (show cX2_wayOn.data.toList[9]? = some 0x2a from (LBX2_wayOnr_0 9).trans (by decide +kernel))
theorem dX2_wayOn_10 : decode cX2_wayOn 10 = .ok (.getfield 17, 3) := dk_180_ (show cX2_wayOn.data.toList[10]? = some 0xb4 from (LBX2_wayOnr_0 10).trans (by decide +kernel)) (show cX2_wayOn.data.toList[11]? = some 0x00 from (LBX2_wayOnr_0 11).trans (by decide +kernel)) (show cX2_wayOn.data.toList[12]? = some 0x11 from (LBX2_wayOnr_0 12).trans (by decide +kernel)) (by decide)
theorem dX2_wayOn_13 : decode cX2_wayOn 13 = .ok (.iload_n 1, 1) := dk_27_ (show cX2_wayOn.data.toList[13]? = some 0x1b from (LBX2_wayOnr_0 13).trans (by decide +kernel))
theorem dX2_wayOn_14 : decode cX2_wayOn 14 = .ok (.iload_n 2, 1) := dk_28_ (show cX2_wayOn.data.toList[14]? = some 0x1c from (LBX2_wayOnr_0 14).trans (by decide +kernel))
theorem dX2_wayOn_15 : decode cX2_wayOn 15 = .ok (.iconst 1, 1) := dk_4_ (show cX2_wayOn.data.toList[15]? = some 0x04 from (LBX2_wayOnr_0 15).trans (by decide +kernel))
theorem dX2_wayOn_16 : decode cX2_wayOn 16 = .ok (.iadd, 1) := dk_96_ (show cX2_wayOn.data.toList[16]? = some 0x60 from (LBX2_wayOnr_1 0).trans (by decide +kernel))
theorem dX2_wayOn_17 : decode cX2_wayOn 17 = .ok (.invokevirtual 36, 3) := dk_182_ (show cX2_wayOn.data.toList[17]? = some 0xb6 from (LBX2_wayOnr_1 1).trans (by decide +kernel)) (show cX2_wayOn.data.toList[18]? = some 0x00 from (LBX2_wayOnr_1 2).trans (by decide +kernel)) (show cX2_wayOn.data.toList[19]? = some 0x24 from (LBX2_wayOnr_1 3).trans (by decide +kernel)) (by decide)
theorem dX2_wayOn_20 : decode cX2_wayOn 20 = .ok (.invokestatic 48, 3) := dk_184_ (show cX2_wayOn.data.toList[20]? = some 0xb8 from (LBX2_wayOnr_1 4).trans (by decide +kernel)) (show cX2_wayOn.data.toList[21]? = some 0x00 from (LBX2_wayOnr_1 5).trans (by decide +kernel)) (show cX2_wayOn.data.toList[22]? = some 0x30 from (LBX2_wayOnr_1 6).trans (by decide +kernel)) (by decide)
theorem dX2_wayOn_23 : decode cX2_wayOn 23 = .ok (.ireturn, 1) := dk_172_ (show cX2_wayOn.data.toList[23]? = some 0xac from (LBX2_wayOnr_1 7).trans (by decide +kernel))
def LRX2_narrow_14 : List UInt8 := []
def LBX2_narrow_13 : List UInt8 := [0xb5, 0x00, 0x0d, 0x04, 0xac]
def LRX2_narrow_13 : List UInt8 := LBX2_narrow_13 ++ LRX2_narrow_14
def LBX2_narrow_12 : List UInt8 := [0x15, 0x04, 0x15, 0x09, 0x4f, 0x2b, 0xb4, 0x00, 0x3a, 0x15, 0x04, 0x15, 0x08, 0x4f, 0x2a, 0x04]
def LRX2_narrow_12 : List UInt8 := LBX2_narrow_12 ++ LRX2_narrow_13
def LBX2_narrow_11 : List UInt8 := [0x15, 0x08, 0x2b, 0xb4, 0x00, 0x3a, 0x15, 0x04, 0x2e, 0x9f, 0x00, 0x1a, 0x2b, 0xb4, 0x00, 0x37]
def LRX2_narrow_11 : List UInt8 := LBX2_narrow_11 ++ LRX2_narrow_12
def LBX2_narrow_10 : List UInt8 := [0x00, 0x05, 0x03, 0xac, 0x15, 0x09, 0x2b, 0xb4, 0x00, 0x37, 0x15, 0x04, 0x2e, 0xa0, 0x00, 0x0f]
def LRX2_narrow_10 : List UInt8 := LBX2_narrow_10 ++ LRX2_narrow_11
def LBX2_narrow_9 : List UInt8 := [0x15, 0x07, 0x64, 0xb8, 0x00, 0x48, 0x36, 0x09, 0x15, 0x09, 0x15, 0x08, 0xb8, 0x00, 0x4b, 0x9a]
def LRX2_narrow_9 : List UInt8 := LBX2_narrow_9 ++ LRX2_narrow_10
def LBX2_narrow_8 : List UInt8 := [0x15, 0x04, 0x2e, 0x2b, 0xb4, 0x00, 0x3d, 0x1c, 0x2e, 0x2b, 0xb4, 0x00, 0x40, 0x1c, 0x2e, 0x64]
def LRX2_narrow_8 : List UInt8 := LBX2_narrow_8 ++ LRX2_narrow_9
def LBX2_narrow_7 : List UInt8 := [0x40, 0x1c, 0x2e, 0x60, 0x15, 0x06, 0x64, 0xb8, 0x00, 0x43, 0x36, 0x08, 0x2b, 0xb4, 0x00, 0x37]
def LRX2_narrow_7 : List UInt8 := LBX2_narrow_7 ++ LRX2_narrow_8
def LBX2_narrow_6 : List UInt8 := [0x2b, 0xb4, 0x00, 0x3a, 0x15, 0x04, 0x2e, 0x2b, 0xb4, 0x00, 0x3d, 0x1c, 0x2e, 0x2b, 0xb4, 0x00]
def LRX2_narrow_6 : List UInt8 := LBX2_narrow_6 ++ LRX2_narrow_7
def LBX2_narrow_5 : List UInt8 := [0x36, 0x07, 0x84, 0x08, 0x01, 0xa7, 0xff, 0xbf, 0x15, 0x05, 0x04, 0xa4, 0x00, 0x05, 0x04, 0xac]
def LRX2_narrow_5 : List UInt8 := LBX2_narrow_5 ++ LRX2_narrow_6
def LBX2_narrow_4 : List UInt8 := [0x15, 0x09, 0x2e, 0x60, 0x36, 0x06, 0x15, 0x07, 0x2b, 0xb4, 0x00, 0x3a, 0x15, 0x09, 0x2e, 0x60]
def LRX2_narrow_4 : List UInt8 := LBX2_narrow_4 ++ LRX2_narrow_5
def LBX2_narrow_3 : List UInt8 := [0x04, 0xa0, 0x00, 0x09, 0x84, 0x05, 0x01, 0xa7, 0x00, 0x1b, 0x15, 0x06, 0x2b, 0xb4, 0x00, 0x37]
def LRX2_narrow_3 : List UInt8 := LBX2_narrow_3 ++ LRX2_narrow_4
def LBX2_narrow_2 : List UInt8 := [0x64, 0xa2, 0x00, 0x37, 0x2b, 0x1c, 0x15, 0x08, 0xb8, 0x00, 0x33, 0x36, 0x09, 0x15, 0x09, 0x15]
def LRX2_narrow_2 : List UInt8 := LBX2_narrow_2 ++ LRX2_narrow_3
def LBX2_narrow_1 : List UInt8 := [0x07, 0x03, 0x36, 0x08, 0x15, 0x08, 0x2b, 0xb4, 0x00, 0x11, 0xb4, 0x00, 0x20, 0x1c, 0x2e, 0x04]
def LRX2_narrow_1 : List UInt8 := LBX2_narrow_1 ++ LRX2_narrow_2
def LBX2_narrow_0 : List UInt8 := [0x2b, 0x1c, 0x1d, 0xb8, 0x00, 0x33, 0x36, 0x04, 0x03, 0x36, 0x05, 0x03, 0x36, 0x06, 0x03, 0x36]
def LRX2_narrow_0 : List UInt8 := LBX2_narrow_0 ++ LRX2_narrow_1
set_option maxRecDepth 100000 in
theorem LBX2_narrow_eq : cX2_narrow.data.toList = LRX2_narrow_0 := by decide +kernel
theorem LBX2_narrowr_0 (k : Nat) : cX2_narrow.data.toList[0 + k]? = LRX2_narrow_0[k]? := by rw [LBX2_narrow_eq, Nat.zero_add]
theorem LBX2_narrowr_1 (k : Nat) : cX2_narrow.data.toList[16 + k]? = LRX2_narrow_1[k]? := by
  have h := LBX2_narrowr_0 (16 + k)
  rw [show 0 + (16 + k) = 16 + k by omega] at h
  rw [h]
  exact (List.getElem?_append_right (l₁ := LBX2_narrow_0) (l₂ := LRX2_narrow_1) (show 16 ≤ 16 + k by omega)).trans (congrArg (fun i => LRX2_narrow_1[i]?) (show 16 + k - 16 = k by omega))
theorem LBX2_narrowr_2 (k : Nat) : cX2_narrow.data.toList[32 + k]? = LRX2_narrow_2[k]? := by
  have h := LBX2_narrowr_1 (16 + k)
  rw [show 16 + (16 + k) = 32 + k by omega] at h
  rw [h]
  exact (List.getElem?_append_right (l₁ := LBX2_narrow_1) (l₂ := LRX2_narrow_2) (show 16 ≤ 16 + k by omega)).trans (congrArg (fun i => LRX2_narrow_2[i]?) (show 16 + k - 16 = k by omega))
theorem LBX2_narrowr_3 (k : Nat) : cX2_narrow.data.toList[48 + k]? = LRX2_narrow_3[k]? := by
  have h := LBX2_narrowr_2 (16 + k)
  rw [show 32 + (16 + k) = 48 + k by omega] at h
  rw [h]
  exact (List.getElem?_append_right (l₁ := LBX2_narrow_2) (l₂ := LRX2_narrow_3) (show 16 ≤ 16 + k by omega)).trans (congrArg (fun i => LRX2_narrow_3[i]?) (show 16 + k - 16 = k by omega))
theorem LBX2_narrowr_4 (k : Nat) : cX2_narrow.data.toList[64 + k]? = LRX2_narrow_4[k]? := by
  have h := LBX2_narrowr_3 (16 + k)
  rw [show 48 + (16 + k) = 64 + k by omega] at h
  rw [h]
  exact (List.getElem?_append_right (l₁ := LBX2_narrow_3) (l₂ := LRX2_narrow_4) (show 16 ≤ 16 + k by omega)).trans (congrArg (fun i => LRX2_narrow_4[i]?) (show 16 + k - 16 = k by omega))
theorem LBX2_narrowr_5 (k : Nat) : cX2_narrow.data.toList[80 + k]? = LRX2_narrow_5[k]? := by
  have h := LBX2_narrowr_4 (16 + k)
  rw [show 64 + (16 + k) = 80 + k by omega] at h
  rw [h]
  exact (List.getElem?_append_right (l₁ := LBX2_narrow_4) (l₂ := LRX2_narrow_5) (show 16 ≤ 16 + k by omega)).trans (congrArg (fun i => LRX2_narrow_5[i]?) (show 16 + k - 16 = k by omega))
theorem LBX2_narrowr_6 (k : Nat) : cX2_narrow.data.toList[96 + k]? = LRX2_narrow_6[k]? := by
  have h := LBX2_narrowr_5 (16 + k)
  rw [show 80 + (16 + k) = 96 + k by omega] at h
  rw [h]
  exact (List.getElem?_append_right (l₁ := LBX2_narrow_5) (l₂ := LRX2_narrow_6) (show 16 ≤ 16 + k by omega)).trans (congrArg (fun i => LRX2_narrow_6[i]?) (show 16 + k - 16 = k by omega))
theorem LBX2_narrowr_7 (k : Nat) : cX2_narrow.data.toList[112 + k]? = LRX2_narrow_7[k]? := by
  have h := LBX2_narrowr_6 (16 + k)
  rw [show 96 + (16 + k) = 112 + k by omega] at h
  rw [h]
  exact (List.getElem?_append_right (l₁ := LBX2_narrow_6) (l₂ := LRX2_narrow_7) (show 16 ≤ 16 + k by omega)).trans (congrArg (fun i => LRX2_narrow_7[i]?) (show 16 + k - 16 = k by omega))
theorem LBX2_narrowr_8 (k : Nat) : cX2_narrow.data.toList[128 + k]? = LRX2_narrow_8[k]? := by
  have h := LBX2_narrowr_7 (16 + k)
  rw [show 112 + (16 + k) = 128 + k by omega] at h
  rw [h]
  exact (List.getElem?_append_right (l₁ := LBX2_narrow_7) (l₂ := LRX2_narrow_8) (show 16 ≤ 16 + k by omega)).trans (congrArg (fun i => LRX2_narrow_8[i]?) (show 16 + k - 16 = k by omega))
theorem LBX2_narrowr_9 (k : Nat) : cX2_narrow.data.toList[144 + k]? = LRX2_narrow_9[k]? := by
  have h := LBX2_narrowr_8 (16 + k)
  rw [show 128 + (16 + k) = 144 + k by omega] at h
  rw [h]
  exact (List.getElem?_append_right (l₁ := LBX2_narrow_8) (l₂ := LRX2_narrow_9) (show 16 ≤ 16 + k by omega)).trans (congrArg (fun i => LRX2_narrow_9[i]?) (show 16 + k - 16 = k by omega))
theorem LBX2_narrowr_10 (k : Nat) : cX2_narrow.data.toList[160 + k]? = LRX2_narrow_10[k]? := by
  have h := LBX2_narrowr_9 (16 + k)
  rw [show 144 + (16 + k) = 160 + k by omega] at h
  rw [h]
  exact (List.getElem?_append_right (l₁ := LBX2_narrow_9) (l₂ := LRX2_narrow_10) (show 16 ≤ 16 + k by omega)).trans (congrArg (fun i => LRX2_narrow_10[i]?) (show 16 + k - 16 = k by omega))
theorem LBX2_narrowr_11 (k : Nat) : cX2_narrow.data.toList[176 + k]? = LRX2_narrow_11[k]? := by
  have h := LBX2_narrowr_10 (16 + k)
  rw [show 160 + (16 + k) = 176 + k by omega] at h
  rw [h]
  exact (List.getElem?_append_right (l₁ := LBX2_narrow_10) (l₂ := LRX2_narrow_11) (show 16 ≤ 16 + k by omega)).trans (congrArg (fun i => LRX2_narrow_11[i]?) (show 16 + k - 16 = k by omega))
theorem LBX2_narrowr_12 (k : Nat) : cX2_narrow.data.toList[192 + k]? = LRX2_narrow_12[k]? := by
  have h := LBX2_narrowr_11 (16 + k)
  rw [show 176 + (16 + k) = 192 + k by omega] at h
  rw [h]
  exact (List.getElem?_append_right (l₁ := LBX2_narrow_11) (l₂ := LRX2_narrow_12) (show 16 ≤ 16 + k by omega)).trans (congrArg (fun i => LRX2_narrow_12[i]?) (show 16 + k - 16 = k by omega))
theorem LBX2_narrowr_13 (k : Nat) : cX2_narrow.data.toList[208 + k]? = LRX2_narrow_13[k]? := by
  have h := LBX2_narrowr_12 (16 + k)
  rw [show 192 + (16 + k) = 208 + k by omega] at h
  rw [h]
  exact (List.getElem?_append_right (l₁ := LBX2_narrow_12) (l₂ := LRX2_narrow_13) (show 16 ≤ 16 + k by omega)).trans (congrArg (fun i => LRX2_narrow_13[i]?) (show 16 + k - 16 = k by omega))
theorem dX2_narrow_0 : decode cX2_narrow 0 = .ok (.aload_n 1, 1) := dk_43_ (show cX2_narrow.data.toList[0]? = some 0x2b from (LBX2_narrowr_0 0).trans (by decide +kernel))
theorem dX2_narrow_1 : decode cX2_narrow 1 = .ok (.iload_n 2, 1) := dk_28_ (show cX2_narrow.data.toList[1]? = some 0x1c from (LBX2_narrowr_0 1).trans (by decide +kernel))
theorem dX2_narrow_2 : decode cX2_narrow 2 = .ok (.iload_n 3, 1) := dk_29_ (show cX2_narrow.data.toList[2]? = some 0x1d from (LBX2_narrowr_0 2).trans (by decide +kernel))
theorem dX2_narrow_3 : decode cX2_narrow 3 = .ok (.invokestatic 51, 3) := dk_184_ (show cX2_narrow.data.toList[3]? = some 0xb8 from (LBX2_narrowr_0 3).trans (by decide +kernel)) (show cX2_narrow.data.toList[4]? = some 0x00 from (LBX2_narrowr_0 4).trans (by decide +kernel)) (show cX2_narrow.data.toList[5]? = some 0x33 from (LBX2_narrowr_0 5).trans (by decide +kernel)) (by decide)
theorem dX2_narrow_6 : decode cX2_narrow 6 = .ok (.istore 4, 2) := dk_54_ (show cX2_narrow.data.toList[6]? = some 0x36 from (LBX2_narrowr_0 6).trans (by decide +kernel)) (show cX2_narrow.data.toList[7]? = some 0x04 from (LBX2_narrowr_0 7).trans (by decide +kernel)) (by decide)
theorem dX2_narrow_8 : decode cX2_narrow 8 = .ok (.iconst 0, 1) := dk_3_ (show cX2_narrow.data.toList[8]? = some 0x03 from (LBX2_narrowr_0 8).trans (by decide +kernel))
theorem dX2_narrow_9 : decode cX2_narrow 9 = .ok (.istore 5, 2) := dk_54_ (show cX2_narrow.data.toList[9]? = some 0x36 from (LBX2_narrowr_0 9).trans (by decide +kernel)) (show cX2_narrow.data.toList[10]? = some 0x05 from (LBX2_narrowr_0 10).trans (by decide +kernel)) (by decide)
theorem dX2_narrow_11 : decode cX2_narrow 11 = .ok (.iconst 0, 1) := dk_3_ (show cX2_narrow.data.toList[11]? = some 0x03 from (LBX2_narrowr_0 11).trans (by decide +kernel))
theorem dX2_narrow_12 : decode cX2_narrow 12 = .ok (.istore 6, 2) := dk_54_ (show cX2_narrow.data.toList[12]? = some 0x36 from (LBX2_narrowr_0 12).trans (by decide +kernel)) (show cX2_narrow.data.toList[13]? = some 0x06 from (LBX2_narrowr_0 13).trans (by decide +kernel)) (by decide)
theorem dX2_narrow_14 : decode cX2_narrow 14 = .ok (.iconst 0, 1) := dk_3_ (show cX2_narrow.data.toList[14]? = some 0x03 from (LBX2_narrowr_0 14).trans (by decide +kernel))
theorem dX2_narrow_15 : decode cX2_narrow 15 = .ok (.istore 7, 2) := dk_54_ (show cX2_narrow.data.toList[15]? = some 0x36 from (LBX2_narrowr_0 15).trans (by decide +kernel)) (show cX2_narrow.data.toList[16]? = some 0x07 from (LBX2_narrowr_1 0).trans (by decide +kernel)) (by decide)
theorem dX2_narrow_17 : decode cX2_narrow 17 = .ok (.iconst 0, 1) := dk_3_ (show cX2_narrow.data.toList[17]? = some 0x03 from (LBX2_narrowr_1 1).trans (by decide +kernel))
theorem dX2_narrow_18 : decode cX2_narrow 18 = .ok (.istore 8, 2) := dk_54_ (show cX2_narrow.data.toList[18]? = some 0x36 from (LBX2_narrowr_1 2).trans (by decide +kernel)) (show cX2_narrow.data.toList[19]? = some 0x08 from (LBX2_narrowr_1 3).trans (by decide +kernel)) (by decide)
theorem dX2_narrow_20 : decode cX2_narrow 20 = .ok (.iload 8, 2) := dk_21_ (show cX2_narrow.data.toList[20]? = some 0x15 from (LBX2_narrowr_1 4).trans (by decide +kernel)) (show cX2_narrow.data.toList[21]? = some 0x08 from (LBX2_narrowr_1 5).trans (by decide +kernel)) (by decide)
theorem dX2_narrow_22 : decode cX2_narrow 22 = .ok (.aload_n 1, 1) := dk_43_ (show cX2_narrow.data.toList[22]? = some 0x2b from (LBX2_narrowr_1 6).trans (by decide +kernel))
theorem dX2_narrow_23 : decode cX2_narrow 23 = .ok (.getfield 17, 3) := dk_180_ (show cX2_narrow.data.toList[23]? = some 0xb4 from (LBX2_narrowr_1 7).trans (by decide +kernel)) (show cX2_narrow.data.toList[24]? = some 0x00 from (LBX2_narrowr_1 8).trans (by decide +kernel)) (show cX2_narrow.data.toList[25]? = some 0x11 from (LBX2_narrowr_1 9).trans (by decide +kernel)) (by decide)
theorem dX2_narrow_26 : decode cX2_narrow 26 = .ok (.getfield 32, 3) := dk_180_ (show cX2_narrow.data.toList[26]? = some 0xb4 from (LBX2_narrowr_1 10).trans (by decide +kernel)) (show cX2_narrow.data.toList[27]? = some 0x00 from (LBX2_narrowr_1 11).trans (by decide +kernel)) (show cX2_narrow.data.toList[28]? = some 0x20 from (LBX2_narrowr_1 12).trans (by decide +kernel)) (by decide)
theorem dX2_narrow_29 : decode cX2_narrow 29 = .ok (.iload_n 2, 1) := dk_28_ (show cX2_narrow.data.toList[29]? = some 0x1c from (LBX2_narrowr_1 13).trans (by decide +kernel))
theorem dX2_narrow_30 : decode cX2_narrow 30 = .ok (.iaload, 1) := dk_46_ (show cX2_narrow.data.toList[30]? = some 0x2e from (LBX2_narrowr_1 14).trans (by decide +kernel))
theorem dX2_narrow_31 : decode cX2_narrow 31 = .ok (.iconst 1, 1) := dk_4_ (show cX2_narrow.data.toList[31]? = some 0x04 from (LBX2_narrowr_1 15).trans (by decide +kernel))
theorem dX2_narrow_32 : decode cX2_narrow 32 = .ok (.isub, 1) := dk_100_ (show cX2_narrow.data.toList[32]? = some 0x64 from (LBX2_narrowr_2 0).trans (by decide +kernel))
theorem dX2_narrow_33 : decode cX2_narrow 33 = .ok (.if_icmp .ge 55, 3) := dk_162_ (show cX2_narrow.data.toList[33]? = some 0xa2 from (LBX2_narrowr_2 1).trans (by decide +kernel)) (show cX2_narrow.data.toList[34]? = some 0x00 from (LBX2_narrowr_2 2).trans (by decide +kernel)) (show cX2_narrow.data.toList[35]? = some 0x37 from (LBX2_narrowr_2 3).trans (by decide +kernel)) (by decide)
theorem dX2_narrow_36 : decode cX2_narrow 36 = .ok (.aload_n 1, 1) := dk_43_ (show cX2_narrow.data.toList[36]? = some 0x2b from (LBX2_narrowr_2 4).trans (by decide +kernel))
theorem dX2_narrow_37 : decode cX2_narrow 37 = .ok (.iload_n 2, 1) := dk_28_ (show cX2_narrow.data.toList[37]? = some 0x1c from (LBX2_narrowr_2 5).trans (by decide +kernel))
theorem dX2_narrow_38 : decode cX2_narrow 38 = .ok (.iload 8, 2) := dk_21_ (show cX2_narrow.data.toList[38]? = some 0x15 from (LBX2_narrowr_2 6).trans (by decide +kernel)) (show cX2_narrow.data.toList[39]? = some 0x08 from (LBX2_narrowr_2 7).trans (by decide +kernel)) (by decide)
theorem dX2_narrow_40 : decode cX2_narrow 40 = .ok (.invokestatic 51, 3) := dk_184_ (show cX2_narrow.data.toList[40]? = some 0xb8 from (LBX2_narrowr_2 8).trans (by decide +kernel)) (show cX2_narrow.data.toList[41]? = some 0x00 from (LBX2_narrowr_2 9).trans (by decide +kernel)) (show cX2_narrow.data.toList[42]? = some 0x33 from (LBX2_narrowr_2 10).trans (by decide +kernel)) (by decide)
theorem dX2_narrow_43 : decode cX2_narrow 43 = .ok (.istore 9, 2) := dk_54_ (show cX2_narrow.data.toList[43]? = some 0x36 from (LBX2_narrowr_2 11).trans (by decide +kernel)) (show cX2_narrow.data.toList[44]? = some 0x09 from (LBX2_narrowr_2 12).trans (by decide +kernel)) (by decide)
theorem dX2_narrow_45 : decode cX2_narrow 45 = .ok (.iload 9, 2) := dk_21_ (show cX2_narrow.data.toList[45]? = some 0x15 from (LBX2_narrowr_2 13).trans (by decide +kernel)) (show cX2_narrow.data.toList[46]? = some 0x09 from (LBX2_narrowr_2 14).trans (by decide +kernel)) (by decide)
theorem dX2_narrow_47 : decode cX2_narrow 47 = .ok (.iload 4, 2) := dk_21_ (show cX2_narrow.data.toList[47]? = some 0x15 from (LBX2_narrowr_2 15).trans (by decide +kernel)) (show cX2_narrow.data.toList[48]? = some 0x04 from (LBX2_narrowr_3 0).trans (by decide +kernel)) (by decide)
theorem dX2_narrow_49 : decode cX2_narrow 49 = .ok (.if_icmp .ne 9, 3) := dk_160_ (show cX2_narrow.data.toList[49]? = some 0xa0 from (LBX2_narrowr_3 1).trans (by decide +kernel)) (show cX2_narrow.data.toList[50]? = some 0x00 from (LBX2_narrowr_3 2).trans (by decide +kernel)) (show cX2_narrow.data.toList[51]? = some 0x09 from (LBX2_narrowr_3 3).trans (by decide +kernel)) (by decide)
theorem dX2_narrow_52 : decode cX2_narrow 52 = .ok (.iinc 5 1, 3) := dk_132_ (show cX2_narrow.data.toList[52]? = some 0x84 from (LBX2_narrowr_3 4).trans (by decide +kernel)) (show cX2_narrow.data.toList[53]? = some 0x05 from (LBX2_narrowr_3 5).trans (by decide +kernel)) (show cX2_narrow.data.toList[54]? = some 0x01 from (LBX2_narrowr_3 6).trans (by decide +kernel)) (by decide) (by decide)
theorem dX2_narrow_55 : decode cX2_narrow 55 = .ok (.goto 27, 3) := dk_167_ (show cX2_narrow.data.toList[55]? = some 0xa7 from (LBX2_narrowr_3 7).trans (by decide +kernel)) (show cX2_narrow.data.toList[56]? = some 0x00 from (LBX2_narrowr_3 8).trans (by decide +kernel)) (show cX2_narrow.data.toList[57]? = some 0x1b from (LBX2_narrowr_3 9).trans (by decide +kernel)) (by decide)
theorem dX2_narrow_58 : decode cX2_narrow 58 = .ok (.iload 6, 2) := dk_21_ (show cX2_narrow.data.toList[58]? = some 0x15 from (LBX2_narrowr_3 10).trans (by decide +kernel)) (show cX2_narrow.data.toList[59]? = some 0x06 from (LBX2_narrowr_3 11).trans (by decide +kernel)) (by decide)
theorem dX2_narrow_60 : decode cX2_narrow 60 = .ok (.aload_n 1, 1) := dk_43_ (show cX2_narrow.data.toList[60]? = some 0x2b from (LBX2_narrowr_3 12).trans (by decide +kernel))
theorem dX2_narrow_61 : decode cX2_narrow 61 = .ok (.getfield 55, 3) := dk_180_ (show cX2_narrow.data.toList[61]? = some 0xb4 from (LBX2_narrowr_3 13).trans (by decide +kernel)) (show cX2_narrow.data.toList[62]? = some 0x00 from (LBX2_narrowr_3 14).trans (by decide +kernel)) (show cX2_narrow.data.toList[63]? = some 0x37 from (LBX2_narrowr_3 15).trans (by decide +kernel)) (by decide)
theorem dX2_narrow_64 : decode cX2_narrow 64 = .ok (.iload 9, 2) := dk_21_ (show cX2_narrow.data.toList[64]? = some 0x15 from (LBX2_narrowr_4 0).trans (by decide +kernel)) (show cX2_narrow.data.toList[65]? = some 0x09 from (LBX2_narrowr_4 1).trans (by decide +kernel)) (by decide)
theorem dX2_narrow_66 : decode cX2_narrow 66 = .ok (.iaload, 1) := dk_46_ (show cX2_narrow.data.toList[66]? = some 0x2e from (LBX2_narrowr_4 2).trans (by decide +kernel))
theorem dX2_narrow_67 : decode cX2_narrow 67 = .ok (.iadd, 1) := dk_96_ (show cX2_narrow.data.toList[67]? = some 0x60 from (LBX2_narrowr_4 3).trans (by decide +kernel))
theorem dX2_narrow_68 : decode cX2_narrow 68 = .ok (.istore 6, 2) := dk_54_ (show cX2_narrow.data.toList[68]? = some 0x36 from (LBX2_narrowr_4 4).trans (by decide +kernel)) (show cX2_narrow.data.toList[69]? = some 0x06 from (LBX2_narrowr_4 5).trans (by decide +kernel)) (by decide)
theorem dX2_narrow_70 : decode cX2_narrow 70 = .ok (.iload 7, 2) := dk_21_ (show cX2_narrow.data.toList[70]? = some 0x15 from (LBX2_narrowr_4 6).trans (by decide +kernel)) (show cX2_narrow.data.toList[71]? = some 0x07 from (LBX2_narrowr_4 7).trans (by decide +kernel)) (by decide)
theorem dX2_narrow_72 : decode cX2_narrow 72 = .ok (.aload_n 1, 1) := dk_43_ (show cX2_narrow.data.toList[72]? = some 0x2b from (LBX2_narrowr_4 8).trans (by decide +kernel))
theorem dX2_narrow_73 : decode cX2_narrow 73 = .ok (.getfield 58, 3) := dk_180_ (show cX2_narrow.data.toList[73]? = some 0xb4 from (LBX2_narrowr_4 9).trans (by decide +kernel)) (show cX2_narrow.data.toList[74]? = some 0x00 from (LBX2_narrowr_4 10).trans (by decide +kernel)) (show cX2_narrow.data.toList[75]? = some 0x3a from (LBX2_narrowr_4 11).trans (by decide +kernel)) (by decide)
theorem dX2_narrow_76 : decode cX2_narrow 76 = .ok (.iload 9, 2) := dk_21_ (show cX2_narrow.data.toList[76]? = some 0x15 from (LBX2_narrowr_4 12).trans (by decide +kernel)) (show cX2_narrow.data.toList[77]? = some 0x09 from (LBX2_narrowr_4 13).trans (by decide +kernel)) (by decide)
theorem dX2_narrow_78 : decode cX2_narrow 78 = .ok (.iaload, 1) := dk_46_ (show cX2_narrow.data.toList[78]? = some 0x2e from (LBX2_narrowr_4 14).trans (by decide +kernel))
theorem dX2_narrow_79 : decode cX2_narrow 79 = .ok (.iadd, 1) := dk_96_ (show cX2_narrow.data.toList[79]? = some 0x60 from (LBX2_narrowr_4 15).trans (by decide +kernel))
theorem dX2_narrow_80 : decode cX2_narrow 80 = .ok (.istore 7, 2) := dk_54_ (show cX2_narrow.data.toList[80]? = some 0x36 from (LBX2_narrowr_5 0).trans (by decide +kernel)) (show cX2_narrow.data.toList[81]? = some 0x07 from (LBX2_narrowr_5 1).trans (by decide +kernel)) (by decide)
theorem dX2_narrow_82 : decode cX2_narrow 82 = .ok (.iinc 8 1, 3) := dk_132_ (show cX2_narrow.data.toList[82]? = some 0x84 from (LBX2_narrowr_5 2).trans (by decide +kernel)) (show cX2_narrow.data.toList[83]? = some 0x08 from (LBX2_narrowr_5 3).trans (by decide +kernel)) (show cX2_narrow.data.toList[84]? = some 0x01 from (LBX2_narrowr_5 4).trans (by decide +kernel)) (by decide) (by decide)
theorem dX2_narrow_85 : decode cX2_narrow 85 = .ok (.goto (-65), 3) := dk_167_ (show cX2_narrow.data.toList[85]? = some 0xa7 from (LBX2_narrowr_5 5).trans (by decide +kernel)) (show cX2_narrow.data.toList[86]? = some 0xff from (LBX2_narrowr_5 6).trans (by decide +kernel)) (show cX2_narrow.data.toList[87]? = some 0xbf from (LBX2_narrowr_5 7).trans (by decide +kernel)) (by decide)
theorem dX2_narrow_88 : decode cX2_narrow 88 = .ok (.iload 5, 2) := dk_21_ (show cX2_narrow.data.toList[88]? = some 0x15 from (LBX2_narrowr_5 8).trans (by decide +kernel)) (show cX2_narrow.data.toList[89]? = some 0x05 from (LBX2_narrowr_5 9).trans (by decide +kernel)) (by decide)
theorem dX2_narrow_90 : decode cX2_narrow 90 = .ok (.iconst 1, 1) := dk_4_ (show cX2_narrow.data.toList[90]? = some 0x04 from (LBX2_narrowr_5 10).trans (by decide +kernel))
theorem dX2_narrow_91 : decode cX2_narrow 91 = .ok (.if_icmp .le 5, 3) := dk_164_ (show cX2_narrow.data.toList[91]? = some 0xa4 from (LBX2_narrowr_5 11).trans (by decide +kernel)) (show cX2_narrow.data.toList[92]? = some 0x00 from (LBX2_narrowr_5 12).trans (by decide +kernel)) (show cX2_narrow.data.toList[93]? = some 0x05 from (LBX2_narrowr_5 13).trans (by decide +kernel)) (by decide)
theorem dX2_narrow_94 : decode cX2_narrow 94 = .ok (.iconst 1, 1) := dk_4_ (show cX2_narrow.data.toList[94]? = some 0x04 from (LBX2_narrowr_5 14).trans (by decide +kernel))
theorem dX2_narrow_95 : decode cX2_narrow 95 = .ok (.ireturn, 1) := dk_172_ (show cX2_narrow.data.toList[95]? = some 0xac from (LBX2_narrowr_5 15).trans (by decide +kernel))
theorem dX2_narrow_96 : decode cX2_narrow 96 = .ok (.aload_n 1, 1) := dk_43_ (show cX2_narrow.data.toList[96]? = some 0x2b from (LBX2_narrowr_6 0).trans (by decide +kernel))
theorem dX2_narrow_97 : decode cX2_narrow 97 = .ok (.getfield 58, 3) := dk_180_ (show cX2_narrow.data.toList[97]? = some 0xb4 from (LBX2_narrowr_6 1).trans (by decide +kernel)) (show cX2_narrow.data.toList[98]? = some 0x00 from (LBX2_narrowr_6 2).trans (by decide +kernel)) (show cX2_narrow.data.toList[99]? = some 0x3a from (LBX2_narrowr_6 3).trans (by decide +kernel)) (by decide)
theorem dX2_narrow_100 : decode cX2_narrow 100 = .ok (.iload 4, 2) := dk_21_ (show cX2_narrow.data.toList[100]? = some 0x15 from (LBX2_narrowr_6 4).trans (by decide +kernel)) (show cX2_narrow.data.toList[101]? = some 0x04 from (LBX2_narrowr_6 5).trans (by decide +kernel)) (by decide)
theorem dX2_narrow_102 : decode cX2_narrow 102 = .ok (.iaload, 1) := dk_46_ (show cX2_narrow.data.toList[102]? = some 0x2e from (LBX2_narrowr_6 6).trans (by decide +kernel))
theorem dX2_narrow_103 : decode cX2_narrow 103 = .ok (.aload_n 1, 1) := dk_43_ (show cX2_narrow.data.toList[103]? = some 0x2b from (LBX2_narrowr_6 7).trans (by decide +kernel))
theorem dX2_narrow_104 : decode cX2_narrow 104 = .ok (.getfield 61, 3) := dk_180_ (show cX2_narrow.data.toList[104]? = some 0xb4 from (LBX2_narrowr_6 8).trans (by decide +kernel)) (show cX2_narrow.data.toList[105]? = some 0x00 from (LBX2_narrowr_6 9).trans (by decide +kernel)) (show cX2_narrow.data.toList[106]? = some 0x3d from (LBX2_narrowr_6 10).trans (by decide +kernel)) (by decide)
theorem dX2_narrow_107 : decode cX2_narrow 107 = .ok (.iload_n 2, 1) := dk_28_ (show cX2_narrow.data.toList[107]? = some 0x1c from (LBX2_narrowr_6 11).trans (by decide +kernel))
theorem dX2_narrow_108 : decode cX2_narrow 108 = .ok (.iaload, 1) := dk_46_ (show cX2_narrow.data.toList[108]? = some 0x2e from (LBX2_narrowr_6 12).trans (by decide +kernel))
theorem dX2_narrow_109 : decode cX2_narrow 109 = .ok (.aload_n 1, 1) := dk_43_ (show cX2_narrow.data.toList[109]? = some 0x2b from (LBX2_narrowr_6 13).trans (by decide +kernel))
theorem dX2_narrow_110 : decode cX2_narrow 110 = .ok (.getfield 64, 3) := dk_180_ (show cX2_narrow.data.toList[110]? = some 0xb4 from (LBX2_narrowr_6 14).trans (by decide +kernel)) (show cX2_narrow.data.toList[111]? = some 0x00 from (LBX2_narrowr_6 15).trans (by decide +kernel)) (show cX2_narrow.data.toList[112]? = some 0x40 from (LBX2_narrowr_7 0).trans (by decide +kernel)) (by decide)
theorem dX2_narrow_113 : decode cX2_narrow 113 = .ok (.iload_n 2, 1) := dk_28_ (show cX2_narrow.data.toList[113]? = some 0x1c from (LBX2_narrowr_7 1).trans (by decide +kernel))
theorem dX2_narrow_114 : decode cX2_narrow 114 = .ok (.iaload, 1) := dk_46_ (show cX2_narrow.data.toList[114]? = some 0x2e from (LBX2_narrowr_7 2).trans (by decide +kernel))
theorem dX2_narrow_115 : decode cX2_narrow 115 = .ok (.iadd, 1) := dk_96_ (show cX2_narrow.data.toList[115]? = some 0x60 from (LBX2_narrowr_7 3).trans (by decide +kernel))
theorem dX2_narrow_116 : decode cX2_narrow 116 = .ok (.iload 6, 2) := dk_21_ (show cX2_narrow.data.toList[116]? = some 0x15 from (LBX2_narrowr_7 4).trans (by decide +kernel)) (show cX2_narrow.data.toList[117]? = some 0x06 from (LBX2_narrowr_7 5).trans (by decide +kernel)) (by decide)
theorem dX2_narrow_118 : decode cX2_narrow 118 = .ok (.isub, 1) := dk_100_ (show cX2_narrow.data.toList[118]? = some 0x64 from (LBX2_narrowr_7 6).trans (by decide +kernel))
theorem dX2_narrow_119 : decode cX2_narrow 119 = .ok (.invokestatic 67, 3) := dk_184_ (show cX2_narrow.data.toList[119]? = some 0xb8 from (LBX2_narrowr_7 7).trans (by decide +kernel)) (show cX2_narrow.data.toList[120]? = some 0x00 from (LBX2_narrowr_7 8).trans (by decide +kernel)) (show cX2_narrow.data.toList[121]? = some 0x43 from (LBX2_narrowr_7 9).trans (by decide +kernel)) (by decide)
theorem dX2_narrow_122 : decode cX2_narrow 122 = .ok (.istore 8, 2) := dk_54_ (show cX2_narrow.data.toList[122]? = some 0x36 from (LBX2_narrowr_7 10).trans (by decide +kernel)) (show cX2_narrow.data.toList[123]? = some 0x08 from (LBX2_narrowr_7 11).trans (by decide +kernel)) (by decide)
theorem dX2_narrow_124 : decode cX2_narrow 124 = .ok (.aload_n 1, 1) := dk_43_ (show cX2_narrow.data.toList[124]? = some 0x2b from (LBX2_narrowr_7 12).trans (by decide +kernel))
theorem dX2_narrow_125 : decode cX2_narrow 125 = .ok (.getfield 55, 3) := dk_180_ (show cX2_narrow.data.toList[125]? = some 0xb4 from (LBX2_narrowr_7 13).trans (by decide +kernel)) (show cX2_narrow.data.toList[126]? = some 0x00 from (LBX2_narrowr_7 14).trans (by decide +kernel)) (show cX2_narrow.data.toList[127]? = some 0x37 from (LBX2_narrowr_7 15).trans (by decide +kernel)) (by decide)
theorem dX2_narrow_128 : decode cX2_narrow 128 = .ok (.iload 4, 2) := dk_21_ (show cX2_narrow.data.toList[128]? = some 0x15 from (LBX2_narrowr_8 0).trans (by decide +kernel)) (show cX2_narrow.data.toList[129]? = some 0x04 from (LBX2_narrowr_8 1).trans (by decide +kernel)) (by decide)
theorem dX2_narrow_130 : decode cX2_narrow 130 = .ok (.iaload, 1) := dk_46_ (show cX2_narrow.data.toList[130]? = some 0x2e from (LBX2_narrowr_8 2).trans (by decide +kernel))
theorem dX2_narrow_131 : decode cX2_narrow 131 = .ok (.aload_n 1, 1) := dk_43_ (show cX2_narrow.data.toList[131]? = some 0x2b from (LBX2_narrowr_8 3).trans (by decide +kernel))
theorem dX2_narrow_132 : decode cX2_narrow 132 = .ok (.getfield 61, 3) := dk_180_ (show cX2_narrow.data.toList[132]? = some 0xb4 from (LBX2_narrowr_8 4).trans (by decide +kernel)) (show cX2_narrow.data.toList[133]? = some 0x00 from (LBX2_narrowr_8 5).trans (by decide +kernel)) (show cX2_narrow.data.toList[134]? = some 0x3d from (LBX2_narrowr_8 6).trans (by decide +kernel)) (by decide)
theorem dX2_narrow_135 : decode cX2_narrow 135 = .ok (.iload_n 2, 1) := dk_28_ (show cX2_narrow.data.toList[135]? = some 0x1c from (LBX2_narrowr_8 7).trans (by decide +kernel))
theorem dX2_narrow_136 : decode cX2_narrow 136 = .ok (.iaload, 1) := dk_46_ (show cX2_narrow.data.toList[136]? = some 0x2e from (LBX2_narrowr_8 8).trans (by decide +kernel))
theorem dX2_narrow_137 : decode cX2_narrow 137 = .ok (.aload_n 1, 1) := dk_43_ (show cX2_narrow.data.toList[137]? = some 0x2b from (LBX2_narrowr_8 9).trans (by decide +kernel))
theorem dX2_narrow_138 : decode cX2_narrow 138 = .ok (.getfield 64, 3) := dk_180_ (show cX2_narrow.data.toList[138]? = some 0xb4 from (LBX2_narrowr_8 10).trans (by decide +kernel)) (show cX2_narrow.data.toList[139]? = some 0x00 from (LBX2_narrowr_8 11).trans (by decide +kernel)) (show cX2_narrow.data.toList[140]? = some 0x40 from (LBX2_narrowr_8 12).trans (by decide +kernel)) (by decide)
theorem dX2_narrow_141 : decode cX2_narrow 141 = .ok (.iload_n 2, 1) := dk_28_ (show cX2_narrow.data.toList[141]? = some 0x1c from (LBX2_narrowr_8 13).trans (by decide +kernel))
theorem dX2_narrow_142 : decode cX2_narrow 142 = .ok (.iaload, 1) := dk_46_ (show cX2_narrow.data.toList[142]? = some 0x2e from (LBX2_narrowr_8 14).trans (by decide +kernel))
theorem dX2_narrow_143 : decode cX2_narrow 143 = .ok (.isub, 1) := dk_100_ (show cX2_narrow.data.toList[143]? = some 0x64 from (LBX2_narrowr_8 15).trans (by decide +kernel))
theorem dX2_narrow_144 : decode cX2_narrow 144 = .ok (.iload 7, 2) := dk_21_ (show cX2_narrow.data.toList[144]? = some 0x15 from (LBX2_narrowr_9 0).trans (by decide +kernel)) (show cX2_narrow.data.toList[145]? = some 0x07 from (LBX2_narrowr_9 1).trans (by decide +kernel)) (by decide)
theorem dX2_narrow_146 : decode cX2_narrow 146 = .ok (.isub, 1) := dk_100_ (show cX2_narrow.data.toList[146]? = some 0x64 from (LBX2_narrowr_9 2).trans (by decide +kernel))
theorem dX2_narrow_147 : decode cX2_narrow 147 = .ok (.invokestatic 72, 3) := dk_184_ (show cX2_narrow.data.toList[147]? = some 0xb8 from (LBX2_narrowr_9 3).trans (by decide +kernel)) (show cX2_narrow.data.toList[148]? = some 0x00 from (LBX2_narrowr_9 4).trans (by decide +kernel)) (show cX2_narrow.data.toList[149]? = some 0x48 from (LBX2_narrowr_9 5).trans (by decide +kernel)) (by decide)
theorem dX2_narrow_150 : decode cX2_narrow 150 = .ok (.istore 9, 2) := dk_54_ (show cX2_narrow.data.toList[150]? = some 0x36 from (LBX2_narrowr_9 6).trans (by decide +kernel)) (show cX2_narrow.data.toList[151]? = some 0x09 from (LBX2_narrowr_9 7).trans (by decide +kernel)) (by decide)
theorem dX2_narrow_152 : decode cX2_narrow 152 = .ok (.iload 9, 2) := dk_21_ (show cX2_narrow.data.toList[152]? = some 0x15 from (LBX2_narrowr_9 8).trans (by decide +kernel)) (show cX2_narrow.data.toList[153]? = some 0x09 from (LBX2_narrowr_9 9).trans (by decide +kernel)) (by decide)
theorem dX2_narrow_154 : decode cX2_narrow 154 = .ok (.iload 8, 2) := dk_21_ (show cX2_narrow.data.toList[154]? = some 0x15 from (LBX2_narrowr_9 10).trans (by decide +kernel)) (show cX2_narrow.data.toList[155]? = some 0x08 from (LBX2_narrowr_9 11).trans (by decide +kernel)) (by decide)
theorem dX2_narrow_156 : decode cX2_narrow 156 = .ok (.invokestatic 75, 3) := dk_184_ (show cX2_narrow.data.toList[156]? = some 0xb8 from (LBX2_narrowr_9 12).trans (by decide +kernel)) (show cX2_narrow.data.toList[157]? = some 0x00 from (LBX2_narrowr_9 13).trans (by decide +kernel)) (show cX2_narrow.data.toList[158]? = some 0x4b from (LBX2_narrowr_9 14).trans (by decide +kernel)) (by decide)
theorem dX2_narrow_159 : decode cX2_narrow 159 = .ok (.ifCond .ne 5, 3) := dk_154_ (show cX2_narrow.data.toList[159]? = some 0x9a from (LBX2_narrowr_9 15).trans (by decide +kernel)) (show cX2_narrow.data.toList[160]? = some 0x00 from (LBX2_narrowr_10 0).trans (by decide +kernel)) (show cX2_narrow.data.toList[161]? = some 0x05 from (LBX2_narrowr_10 1).trans (by decide +kernel)) (by decide)
theorem dX2_narrow_162 : decode cX2_narrow 162 = .ok (.iconst 0, 1) := dk_3_ (show cX2_narrow.data.toList[162]? = some 0x03 from (LBX2_narrowr_10 2).trans (by decide +kernel))
theorem dX2_narrow_163 : decode cX2_narrow 163 = .ok (.ireturn, 1) := dk_172_ (show cX2_narrow.data.toList[163]? = some 0xac from (LBX2_narrowr_10 3).trans (by decide +kernel))
theorem dX2_narrow_164 : decode cX2_narrow 164 = .ok (.iload 9, 2) := dk_21_ (show cX2_narrow.data.toList[164]? = some 0x15 from (LBX2_narrowr_10 4).trans (by decide +kernel)) (show cX2_narrow.data.toList[165]? = some 0x09 from (LBX2_narrowr_10 5).trans (by decide +kernel)) (by decide)
theorem dX2_narrow_166 : decode cX2_narrow 166 = .ok (.aload_n 1, 1) := dk_43_ (show cX2_narrow.data.toList[166]? = some 0x2b from (LBX2_narrowr_10 6).trans (by decide +kernel))
theorem dX2_narrow_167 : decode cX2_narrow 167 = .ok (.getfield 55, 3) := dk_180_ (show cX2_narrow.data.toList[167]? = some 0xb4 from (LBX2_narrowr_10 7).trans (by decide +kernel)) (show cX2_narrow.data.toList[168]? = some 0x00 from (LBX2_narrowr_10 8).trans (by decide +kernel)) (show cX2_narrow.data.toList[169]? = some 0x37 from (LBX2_narrowr_10 9).trans (by decide +kernel)) (by decide)
theorem dX2_narrow_170 : decode cX2_narrow 170 = .ok (.iload 4, 2) := dk_21_ (show cX2_narrow.data.toList[170]? = some 0x15 from (LBX2_narrowr_10 10).trans (by decide +kernel)) (show cX2_narrow.data.toList[171]? = some 0x04 from (LBX2_narrowr_10 11).trans (by decide +kernel)) (by decide)
theorem dX2_narrow_172 : decode cX2_narrow 172 = .ok (.iaload, 1) := dk_46_ (show cX2_narrow.data.toList[172]? = some 0x2e from (LBX2_narrowr_10 12).trans (by decide +kernel))
theorem dX2_narrow_173 : decode cX2_narrow 173 = .ok (.if_icmp .ne 15, 3) := dk_160_ (show cX2_narrow.data.toList[173]? = some 0xa0 from (LBX2_narrowr_10 13).trans (by decide +kernel)) (show cX2_narrow.data.toList[174]? = some 0x00 from (LBX2_narrowr_10 14).trans (by decide +kernel)) (show cX2_narrow.data.toList[175]? = some 0x0f from (LBX2_narrowr_10 15).trans (by decide +kernel)) (by decide)
theorem dX2_narrow_176 : decode cX2_narrow 176 = .ok (.iload 8, 2) := dk_21_ (show cX2_narrow.data.toList[176]? = some 0x15 from (LBX2_narrowr_11 0).trans (by decide +kernel)) (show cX2_narrow.data.toList[177]? = some 0x08 from (LBX2_narrowr_11 1).trans (by decide +kernel)) (by decide)
theorem dX2_narrow_178 : decode cX2_narrow 178 = .ok (.aload_n 1, 1) := dk_43_ (show cX2_narrow.data.toList[178]? = some 0x2b from (LBX2_narrowr_11 2).trans (by decide +kernel))
theorem dX2_narrow_179 : decode cX2_narrow 179 = .ok (.getfield 58, 3) := dk_180_ (show cX2_narrow.data.toList[179]? = some 0xb4 from (LBX2_narrowr_11 3).trans (by decide +kernel)) (show cX2_narrow.data.toList[180]? = some 0x00 from (LBX2_narrowr_11 4).trans (by decide +kernel)) (show cX2_narrow.data.toList[181]? = some 0x3a from (LBX2_narrowr_11 5).trans (by decide +kernel)) (by decide)
theorem dX2_narrow_182 : decode cX2_narrow 182 = .ok (.iload 4, 2) := dk_21_ (show cX2_narrow.data.toList[182]? = some 0x15 from (LBX2_narrowr_11 6).trans (by decide +kernel)) (show cX2_narrow.data.toList[183]? = some 0x04 from (LBX2_narrowr_11 7).trans (by decide +kernel)) (by decide)
theorem dX2_narrow_184 : decode cX2_narrow 184 = .ok (.iaload, 1) := dk_46_ (show cX2_narrow.data.toList[184]? = some 0x2e from (LBX2_narrowr_11 8).trans (by decide +kernel))
theorem dX2_narrow_185 : decode cX2_narrow 185 = .ok (.if_icmp .eq 26, 3) := dk_159_ (show cX2_narrow.data.toList[185]? = some 0x9f from (LBX2_narrowr_11 9).trans (by decide +kernel)) (show cX2_narrow.data.toList[186]? = some 0x00 from (LBX2_narrowr_11 10).trans (by decide +kernel)) (show cX2_narrow.data.toList[187]? = some 0x1a from (LBX2_narrowr_11 11).trans (by decide +kernel)) (by decide)
theorem dX2_narrow_188 : decode cX2_narrow 188 = .ok (.aload_n 1, 1) := dk_43_ (show cX2_narrow.data.toList[188]? = some 0x2b from (LBX2_narrowr_11 12).trans (by decide +kernel))
theorem dX2_narrow_189 : decode cX2_narrow 189 = .ok (.getfield 55, 3) := dk_180_ (show cX2_narrow.data.toList[189]? = some 0xb4 from (LBX2_narrowr_11 13).trans (by decide +kernel)) (show cX2_narrow.data.toList[190]? = some 0x00 from (LBX2_narrowr_11 14).trans (by decide +kernel)) (show cX2_narrow.data.toList[191]? = some 0x37 from (LBX2_narrowr_11 15).trans (by decide +kernel)) (by decide)
theorem dX2_narrow_192 : decode cX2_narrow 192 = .ok (.iload 4, 2) := dk_21_ (show cX2_narrow.data.toList[192]? = some 0x15 from (LBX2_narrowr_12 0).trans (by decide +kernel)) (show cX2_narrow.data.toList[193]? = some 0x04 from (LBX2_narrowr_12 1).trans (by decide +kernel)) (by decide)
theorem dX2_narrow_194 : decode cX2_narrow 194 = .ok (.iload 9, 2) := dk_21_ (show cX2_narrow.data.toList[194]? = some 0x15 from (LBX2_narrowr_12 2).trans (by decide +kernel)) (show cX2_narrow.data.toList[195]? = some 0x09 from (LBX2_narrowr_12 3).trans (by decide +kernel)) (by decide)
theorem dX2_narrow_196 : decode cX2_narrow 196 = .ok (.iastore, 1) := dk_79_ (show cX2_narrow.data.toList[196]? = some 0x4f from (LBX2_narrowr_12 4).trans (by decide +kernel))
theorem dX2_narrow_197 : decode cX2_narrow 197 = .ok (.aload_n 1, 1) := dk_43_ (show cX2_narrow.data.toList[197]? = some 0x2b from (LBX2_narrowr_12 5).trans (by decide +kernel))
theorem dX2_narrow_198 : decode cX2_narrow 198 = .ok (.getfield 58, 3) := dk_180_ (show cX2_narrow.data.toList[198]? = some 0xb4 from (LBX2_narrowr_12 6).trans (by decide +kernel)) (show cX2_narrow.data.toList[199]? = some 0x00 from (LBX2_narrowr_12 7).trans (by decide +kernel)) (show cX2_narrow.data.toList[200]? = some 0x3a from (LBX2_narrowr_12 8).trans (by decide +kernel)) (by decide)
theorem dX2_narrow_201 : decode cX2_narrow 201 = .ok (.iload 4, 2) := dk_21_ (show cX2_narrow.data.toList[201]? = some 0x15 from (LBX2_narrowr_12 9).trans (by decide +kernel)) (show cX2_narrow.data.toList[202]? = some 0x04 from (LBX2_narrowr_12 10).trans (by decide +kernel)) (by decide)
theorem dX2_narrow_203 : decode cX2_narrow 203 = .ok (.iload 8, 2) := dk_21_ (show cX2_narrow.data.toList[203]? = some 0x15 from (LBX2_narrowr_12 11).trans (by decide +kernel)) (show cX2_narrow.data.toList[204]? = some 0x08 from (LBX2_narrowr_12 12).trans (by decide +kernel)) (by decide)
theorem dX2_narrow_205 : decode cX2_narrow 205 = .ok (.iastore, 1) := dk_79_ (show cX2_narrow.data.toList[205]? = some 0x4f from (LBX2_narrowr_12 13).trans (by decide +kernel))
theorem dX2_narrow_206 : decode cX2_narrow 206 = .ok (.aload_n 0, 1) := dk_42_ (show cX2_narrow.data.toList[206]? = some 0x2a from (LBX2_narrowr_12 14).trans (by decide +kernel))
theorem dX2_narrow_207 : decode cX2_narrow 207 = .ok (.iconst 1, 1) := dk_4_ (show cX2_narrow.data.toList[207]? = some 0x04 from (LBX2_narrowr_12 15).trans (by decide +kernel))
theorem dX2_narrow_208 : decode cX2_narrow 208 = .ok (.putfield 13, 3) := dk_181_ (show cX2_narrow.data.toList[208]? = some 0xb5 from (LBX2_narrowr_13 0).trans (by decide +kernel)) (show cX2_narrow.data.toList[209]? = some 0x00 from (LBX2_narrowr_13 1).trans (by decide +kernel)) (show cX2_narrow.data.toList[210]? = some 0x0d from (LBX2_narrowr_13 2).trans (by decide +kernel)) (by decide)
theorem dX2_narrow_211 : decode cX2_narrow 211 = .ok (.iconst 1, 1) := dk_4_ (show cX2_narrow.data.toList[211]? = some 0x04 from (LBX2_narrowr_13 3).trans (by decide +kernel))
theorem dX2_narrow_212 : decode cX2_narrow 212 = .ok (.ireturn, 1) := dk_172_ (show cX2_narrow.data.toList[212]? = some 0xac from (LBX2_narrowr_13 4).trans (by decide +kernel))
def LRX2_isBelieved_6 : List UInt8 := []
def LBX2_isBelieved_5 : List UInt8 := [0x84, 0x04, 0x01, 0xa7, 0xff, 0xea, 0x04, 0xac]
def LRX2_isBelieved_5 : List UInt8 := LBX2_isBelieved_5 ++ LRX2_isBelieved_6
def LBX2_isBelieved_4 : List UInt8 := [0xa2, 0x00, 0x16, 0x2a, 0x2b, 0x1c, 0x15, 0x04, 0xb6, 0x00, 0x2c, 0x9a, 0x00, 0x05, 0x03, 0xac]
def LRX2_isBelieved_4 : List UInt8 := LBX2_isBelieved_4 ++ LRX2_isBelieved_5
def LBX2_isBelieved_3 : List UInt8 := [0x00, 0x05, 0x03, 0xac, 0x84, 0x04, 0x01, 0xa7, 0xff, 0xd8, 0x03, 0x36, 0x04, 0x15, 0x04, 0x1d]
def LRX2_isBelieved_3 : List UInt8 := LBX2_isBelieved_3 ++ LRX2_isBelieved_4
def LBX2_isBelieved_2 : List UInt8 := [0x2b, 0xb4, 0x00, 0x11, 0x1c, 0x15, 0x04, 0x04, 0x60, 0xb6, 0x00, 0x24, 0xb6, 0x00, 0x28, 0x9a]
def LRX2_isBelieved_2 : List UInt8 := LBX2_isBelieved_2 ++ LRX2_isBelieved_3
def LBX2_isBelieved_1 : List UInt8 := [0x04, 0x1d, 0xa2, 0x00, 0x28, 0x2b, 0x2b, 0xb4, 0x00, 0x11, 0x1c, 0x15, 0x04, 0xb6, 0x00, 0x24]
def LRX2_isBelieved_1 : List UInt8 := LBX2_isBelieved_1 ++ LRX2_isBelieved_2
def LBX2_isBelieved_0 : List UInt8 := [0x2b, 0xb4, 0x00, 0x11, 0xb4, 0x00, 0x20, 0x1c, 0x2e, 0x04, 0x64, 0x3e, 0x03, 0x36, 0x04, 0x15]
def LRX2_isBelieved_0 : List UInt8 := LBX2_isBelieved_0 ++ LRX2_isBelieved_1
set_option maxRecDepth 100000 in
theorem LBX2_isBelieved_eq : cX2_isBelieved.data.toList = LRX2_isBelieved_0 := by decide +kernel
theorem LBX2_isBelievedr_0 (k : Nat) : cX2_isBelieved.data.toList[0 + k]? = LRX2_isBelieved_0[k]? := by rw [LBX2_isBelieved_eq, Nat.zero_add]
theorem LBX2_isBelievedr_1 (k : Nat) : cX2_isBelieved.data.toList[16 + k]? = LRX2_isBelieved_1[k]? := by
  have h := LBX2_isBelievedr_0 (16 + k)
  rw [show 0 + (16 + k) = 16 + k by omega] at h
  rw [h]
  exact (List.getElem?_append_right (l₁ := LBX2_isBelieved_0) (l₂ := LRX2_isBelieved_1) (show 16 ≤ 16 + k by omega)).trans (congrArg (fun i => LRX2_isBelieved_1[i]?) (show 16 + k - 16 = k by omega))
theorem LBX2_isBelievedr_2 (k : Nat) : cX2_isBelieved.data.toList[32 + k]? = LRX2_isBelieved_2[k]? := by
  have h := LBX2_isBelievedr_1 (16 + k)
  rw [show 16 + (16 + k) = 32 + k by omega] at h
  rw [h]
  exact (List.getElem?_append_right (l₁ := LBX2_isBelieved_1) (l₂ := LRX2_isBelieved_2) (show 16 ≤ 16 + k by omega)).trans (congrArg (fun i => LRX2_isBelieved_2[i]?) (show 16 + k - 16 = k by omega))
theorem LBX2_isBelievedr_3 (k : Nat) : cX2_isBelieved.data.toList[48 + k]? = LRX2_isBelieved_3[k]? := by
  have h := LBX2_isBelievedr_2 (16 + k)
  rw [show 32 + (16 + k) = 48 + k by omega] at h
  rw [h]
  exact (List.getElem?_append_right (l₁ := LBX2_isBelieved_2) (l₂ := LRX2_isBelieved_3) (show 16 ≤ 16 + k by omega)).trans (congrArg (fun i => LRX2_isBelieved_3[i]?) (show 16 + k - 16 = k by omega))
theorem LBX2_isBelievedr_4 (k : Nat) : cX2_isBelieved.data.toList[64 + k]? = LRX2_isBelieved_4[k]? := by
  have h := LBX2_isBelievedr_3 (16 + k)
  rw [show 48 + (16 + k) = 64 + k by omega] at h
  rw [h]
  exact (List.getElem?_append_right (l₁ := LBX2_isBelieved_3) (l₂ := LRX2_isBelieved_4) (show 16 ≤ 16 + k by omega)).trans (congrArg (fun i => LRX2_isBelieved_4[i]?) (show 16 + k - 16 = k by omega))
theorem LBX2_isBelievedr_5 (k : Nat) : cX2_isBelieved.data.toList[80 + k]? = LRX2_isBelieved_5[k]? := by
  have h := LBX2_isBelievedr_4 (16 + k)
  rw [show 64 + (16 + k) = 80 + k by omega] at h
  rw [h]
  exact (List.getElem?_append_right (l₁ := LBX2_isBelieved_4) (l₂ := LRX2_isBelieved_5) (show 16 ≤ 16 + k by omega)).trans (congrArg (fun i => LRX2_isBelieved_5[i]?) (show 16 + k - 16 = k by omega))
theorem dX2_isBelieved_0 : decode cX2_isBelieved 0 = .ok (.aload_n 1, 1) := dk_43_ (show cX2_isBelieved.data.toList[0]? = some 0x2b from (LBX2_isBelievedr_0 0).trans (by decide +kernel))
theorem dX2_isBelieved_1 : decode cX2_isBelieved 1 = .ok (.getfield 17, 3) := dk_180_ (show cX2_isBelieved.data.toList[1]? = some 0xb4 from (LBX2_isBelievedr_0 1).trans (by decide +kernel)) (show cX2_isBelieved.data.toList[2]? = some 0x00 from (LBX2_isBelievedr_0 2).trans (by decide +kernel)) (show cX2_isBelieved.data.toList[3]? = some 0x11 from (LBX2_isBelievedr_0 3).trans (by decide +kernel)) (by decide)
theorem dX2_isBelieved_4 : decode cX2_isBelieved 4 = .ok (.getfield 32, 3) := dk_180_ (show cX2_isBelieved.data.toList[4]? = some 0xb4 from (LBX2_isBelievedr_0 4).trans (by decide +kernel)) (show cX2_isBelieved.data.toList[5]? = some 0x00 from (LBX2_isBelievedr_0 5).trans (by decide +kernel)) (show cX2_isBelieved.data.toList[6]? = some 0x20 from (LBX2_isBelievedr_0 6).trans (by decide +kernel)) (by decide)
theorem dX2_isBelieved_7 : decode cX2_isBelieved 7 = .ok (.iload_n 2, 1) := dk_28_ (show cX2_isBelieved.data.toList[7]? = some 0x1c from (LBX2_isBelievedr_0 7).trans (by decide +kernel))
theorem dX2_isBelieved_8 : decode cX2_isBelieved 8 = .ok (.iaload, 1) := dk_46_ (show cX2_isBelieved.data.toList[8]? = some 0x2e from (LBX2_isBelievedr_0 8).trans (by decide +kernel))
theorem dX2_isBelieved_9 : decode cX2_isBelieved 9 = .ok (.iconst 1, 1) := dk_4_ (show cX2_isBelieved.data.toList[9]? = some 0x04 from (LBX2_isBelievedr_0 9).trans (by decide +kernel))
theorem dX2_isBelieved_10 : decode cX2_isBelieved 10 = .ok (.isub, 1) := dk_100_ (show cX2_isBelieved.data.toList[10]? = some 0x64 from (LBX2_isBelievedr_0 10).trans (by decide +kernel))
theorem dX2_isBelieved_11 : decode cX2_isBelieved 11 = .ok (.istore_n 3, 1) := dk_62_ (show cX2_isBelieved.data.toList[11]? = some 0x3e from (LBX2_isBelievedr_0 11).trans (by decide +kernel))
theorem dX2_isBelieved_12 : decode cX2_isBelieved 12 = .ok (.iconst 0, 1) := dk_3_ (show cX2_isBelieved.data.toList[12]? = some 0x03 from (LBX2_isBelievedr_0 12).trans (by decide +kernel))
theorem dX2_isBelieved_13 : decode cX2_isBelieved 13 = .ok (.istore 4, 2) := dk_54_ (show cX2_isBelieved.data.toList[13]? = some 0x36 from (LBX2_isBelievedr_0 13).trans (by decide +kernel)) (show cX2_isBelieved.data.toList[14]? = some 0x04 from (LBX2_isBelievedr_0 14).trans (by decide +kernel)) (by decide)
theorem dX2_isBelieved_15 : decode cX2_isBelieved 15 = .ok (.iload 4, 2) := dk_21_ (show cX2_isBelieved.data.toList[15]? = some 0x15 from (LBX2_isBelievedr_0 15).trans (by decide +kernel)) (show cX2_isBelieved.data.toList[16]? = some 0x04 from (LBX2_isBelievedr_1 0).trans (by decide +kernel)) (by decide)
theorem dX2_isBelieved_17 : decode cX2_isBelieved 17 = .ok (.iload_n 3, 1) := dk_29_ (show cX2_isBelieved.data.toList[17]? = some 0x1d from (LBX2_isBelievedr_1 1).trans (by decide +kernel))
theorem dX2_isBelieved_18 : decode cX2_isBelieved 18 = .ok (.if_icmp .ge 40, 3) := dk_162_ (show cX2_isBelieved.data.toList[18]? = some 0xa2 from (LBX2_isBelievedr_1 2).trans (by decide +kernel)) (show cX2_isBelieved.data.toList[19]? = some 0x00 from (LBX2_isBelievedr_1 3).trans (by decide +kernel)) (show cX2_isBelieved.data.toList[20]? = some 0x28 from (LBX2_isBelievedr_1 4).trans (by decide +kernel)) (by decide)
theorem dX2_isBelieved_21 : decode cX2_isBelieved 21 = .ok (.aload_n 1, 1) := dk_43_ (show cX2_isBelieved.data.toList[21]? = some 0x2b from (LBX2_isBelievedr_1 5).trans (by decide +kernel))
theorem dX2_isBelieved_22 : decode cX2_isBelieved 22 = .ok (.aload_n 1, 1) := dk_43_ (show cX2_isBelieved.data.toList[22]? = some 0x2b from (LBX2_isBelievedr_1 6).trans (by decide +kernel))
theorem dX2_isBelieved_23 : decode cX2_isBelieved 23 = .ok (.getfield 17, 3) := dk_180_ (show cX2_isBelieved.data.toList[23]? = some 0xb4 from (LBX2_isBelievedr_1 7).trans (by decide +kernel)) (show cX2_isBelieved.data.toList[24]? = some 0x00 from (LBX2_isBelievedr_1 8).trans (by decide +kernel)) (show cX2_isBelieved.data.toList[25]? = some 0x11 from (LBX2_isBelievedr_1 9).trans (by decide +kernel)) (by decide)
theorem dX2_isBelieved_26 : decode cX2_isBelieved 26 = .ok (.iload_n 2, 1) := dk_28_ (show cX2_isBelieved.data.toList[26]? = some 0x1c from (LBX2_isBelievedr_1 10).trans (by decide +kernel))
theorem dX2_isBelieved_27 : decode cX2_isBelieved 27 = .ok (.iload 4, 2) := dk_21_ (show cX2_isBelieved.data.toList[27]? = some 0x15 from (LBX2_isBelievedr_1 11).trans (by decide +kernel)) (show cX2_isBelieved.data.toList[28]? = some 0x04 from (LBX2_isBelievedr_1 12).trans (by decide +kernel)) (by decide)
theorem dX2_isBelieved_29 : decode cX2_isBelieved 29 = .ok (.invokevirtual 36, 3) := dk_182_ (show cX2_isBelieved.data.toList[29]? = some 0xb6 from (LBX2_isBelievedr_1 13).trans (by decide +kernel)) (show cX2_isBelieved.data.toList[30]? = some 0x00 from (LBX2_isBelievedr_1 14).trans (by decide +kernel)) (show cX2_isBelieved.data.toList[31]? = some 0x24 from (LBX2_isBelievedr_1 15).trans (by decide +kernel)) (by decide)
theorem dX2_isBelieved_32 : decode cX2_isBelieved 32 = .ok (.aload_n 1, 1) := dk_43_ (show cX2_isBelieved.data.toList[32]? = some 0x2b from (LBX2_isBelievedr_2 0).trans (by decide +kernel))
theorem dX2_isBelieved_33 : decode cX2_isBelieved 33 = .ok (.getfield 17, 3) := dk_180_ (show cX2_isBelieved.data.toList[33]? = some 0xb4 from (LBX2_isBelievedr_2 1).trans (by decide +kernel)) (show cX2_isBelieved.data.toList[34]? = some 0x00 from (LBX2_isBelievedr_2 2).trans (by decide +kernel)) (show cX2_isBelieved.data.toList[35]? = some 0x11 from (LBX2_isBelievedr_2 3).trans (by decide +kernel)) (by decide)
theorem dX2_isBelieved_36 : decode cX2_isBelieved 36 = .ok (.iload_n 2, 1) := dk_28_ (show cX2_isBelieved.data.toList[36]? = some 0x1c from (LBX2_isBelievedr_2 4).trans (by decide +kernel))
theorem dX2_isBelieved_37 : decode cX2_isBelieved 37 = .ok (.iload 4, 2) := dk_21_ (show cX2_isBelieved.data.toList[37]? = some 0x15 from (LBX2_isBelievedr_2 5).trans (by decide +kernel)) (show cX2_isBelieved.data.toList[38]? = some 0x04 from (LBX2_isBelievedr_2 6).trans (by decide +kernel)) (by decide)
theorem dX2_isBelieved_39 : decode cX2_isBelieved 39 = .ok (.iconst 1, 1) := dk_4_ (show cX2_isBelieved.data.toList[39]? = some 0x04 from (LBX2_isBelievedr_2 7).trans (by decide +kernel))
theorem dX2_isBelieved_40 : decode cX2_isBelieved 40 = .ok (.iadd, 1) := dk_96_ (show cX2_isBelieved.data.toList[40]? = some 0x60 from (LBX2_isBelievedr_2 8).trans (by decide +kernel))
theorem dX2_isBelieved_41 : decode cX2_isBelieved 41 = .ok (.invokevirtual 36, 3) := dk_182_ (show cX2_isBelieved.data.toList[41]? = some 0xb6 from (LBX2_isBelievedr_2 9).trans (by decide +kernel)) (show cX2_isBelieved.data.toList[42]? = some 0x00 from (LBX2_isBelievedr_2 10).trans (by decide +kernel)) (show cX2_isBelieved.data.toList[43]? = some 0x24 from (LBX2_isBelievedr_2 11).trans (by decide +kernel)) (by decide)
theorem dX2_isBelieved_44 : decode cX2_isBelieved 44 = .ok (.invokevirtual 40, 3) := dk_182_ (show cX2_isBelieved.data.toList[44]? = some 0xb6 from (LBX2_isBelievedr_2 12).trans (by decide +kernel)) (show cX2_isBelieved.data.toList[45]? = some 0x00 from (LBX2_isBelievedr_2 13).trans (by decide +kernel)) (show cX2_isBelieved.data.toList[46]? = some 0x28 from (LBX2_isBelievedr_2 14).trans (by decide +kernel)) (by decide)
theorem dX2_isBelieved_47 : decode cX2_isBelieved 47 = .ok (.ifCond .ne 5, 3) := dk_154_ (show cX2_isBelieved.data.toList[47]? = some 0x9a from (LBX2_isBelievedr_2 15).trans (by decide +kernel)) (show cX2_isBelieved.data.toList[48]? = some 0x00 from (LBX2_isBelievedr_3 0).trans (by decide +kernel)) (show cX2_isBelieved.data.toList[49]? = some 0x05 from (LBX2_isBelievedr_3 1).trans (by decide +kernel)) (by decide)
theorem dX2_isBelieved_50 : decode cX2_isBelieved 50 = .ok (.iconst 0, 1) := dk_3_ (show cX2_isBelieved.data.toList[50]? = some 0x03 from (LBX2_isBelievedr_3 2).trans (by decide +kernel))
theorem dX2_isBelieved_51 : decode cX2_isBelieved 51 = .ok (.ireturn, 1) := dk_172_ (show cX2_isBelieved.data.toList[51]? = some 0xac from (LBX2_isBelievedr_3 3).trans (by decide +kernel))
theorem dX2_isBelieved_52 : decode cX2_isBelieved 52 = .ok (.iinc 4 1, 3) := dk_132_ (show cX2_isBelieved.data.toList[52]? = some 0x84 from (LBX2_isBelievedr_3 4).trans (by decide +kernel)) (show cX2_isBelieved.data.toList[53]? = some 0x04 from (LBX2_isBelievedr_3 5).trans (by decide +kernel)) (show cX2_isBelieved.data.toList[54]? = some 0x01 from (LBX2_isBelievedr_3 6).trans (by decide +kernel)) (by decide) (by decide)
theorem dX2_isBelieved_55 : decode cX2_isBelieved 55 = .ok (.goto (-40), 3) := dk_167_ (show cX2_isBelieved.data.toList[55]? = some 0xa7 from (LBX2_isBelievedr_3 7).trans (by decide +kernel)) (show cX2_isBelieved.data.toList[56]? = some 0xff from (LBX2_isBelievedr_3 8).trans (by decide +kernel)) (show cX2_isBelieved.data.toList[57]? = some 0xd8 from (LBX2_isBelievedr_3 9).trans (by decide +kernel)) (by decide)
theorem dX2_isBelieved_58 : decode cX2_isBelieved 58 = .ok (.iconst 0, 1) := dk_3_ (show cX2_isBelieved.data.toList[58]? = some 0x03 from (LBX2_isBelievedr_3 10).trans (by decide +kernel))
theorem dX2_isBelieved_59 : decode cX2_isBelieved 59 = .ok (.istore 4, 2) := dk_54_ (show cX2_isBelieved.data.toList[59]? = some 0x36 from (LBX2_isBelievedr_3 11).trans (by decide +kernel)) (show cX2_isBelieved.data.toList[60]? = some 0x04 from (LBX2_isBelievedr_3 12).trans (by decide +kernel)) (by decide)
theorem dX2_isBelieved_61 : decode cX2_isBelieved 61 = .ok (.iload 4, 2) := dk_21_ (show cX2_isBelieved.data.toList[61]? = some 0x15 from (LBX2_isBelievedr_3 13).trans (by decide +kernel)) (show cX2_isBelieved.data.toList[62]? = some 0x04 from (LBX2_isBelievedr_3 14).trans (by decide +kernel)) (by decide)
theorem dX2_isBelieved_63 : decode cX2_isBelieved 63 = .ok (.iload_n 3, 1) := dk_29_ (show cX2_isBelieved.data.toList[63]? = some 0x1d from (LBX2_isBelievedr_3 15).trans (by decide +kernel))
theorem dX2_isBelieved_64 : decode cX2_isBelieved 64 = .ok (.if_icmp .ge 22, 3) := dk_162_ (show cX2_isBelieved.data.toList[64]? = some 0xa2 from (LBX2_isBelievedr_4 0).trans (by decide +kernel)) (show cX2_isBelieved.data.toList[65]? = some 0x00 from (LBX2_isBelievedr_4 1).trans (by decide +kernel)) (show cX2_isBelieved.data.toList[66]? = some 0x16 from (LBX2_isBelievedr_4 2).trans (by decide +kernel)) (by decide)
theorem dX2_isBelieved_67 : decode cX2_isBelieved 67 = .ok (.aload_n 0, 1) := dk_42_ (show cX2_isBelieved.data.toList[67]? = some 0x2a from (LBX2_isBelievedr_4 3).trans (by decide +kernel))
theorem dX2_isBelieved_68 : decode cX2_isBelieved 68 = .ok (.aload_n 1, 1) := dk_43_ (show cX2_isBelieved.data.toList[68]? = some 0x2b from (LBX2_isBelievedr_4 4).trans (by decide +kernel))
theorem dX2_isBelieved_69 : decode cX2_isBelieved 69 = .ok (.iload_n 2, 1) := dk_28_ (show cX2_isBelieved.data.toList[69]? = some 0x1c from (LBX2_isBelievedr_4 5).trans (by decide +kernel))
theorem dX2_isBelieved_70 : decode cX2_isBelieved 70 = .ok (.iload 4, 2) := dk_21_ (show cX2_isBelieved.data.toList[70]? = some 0x15 from (LBX2_isBelievedr_4 6).trans (by decide +kernel)) (show cX2_isBelieved.data.toList[71]? = some 0x04 from (LBX2_isBelievedr_4 7).trans (by decide +kernel)) (by decide)
theorem dX2_isBelieved_72 : decode cX2_isBelieved 72 = .ok (.invokevirtual 44, 3) := dk_182_ (show cX2_isBelieved.data.toList[72]? = some 0xb6 from (LBX2_isBelievedr_4 8).trans (by decide +kernel)) (show cX2_isBelieved.data.toList[73]? = some 0x00 from (LBX2_isBelievedr_4 9).trans (by decide +kernel)) (show cX2_isBelieved.data.toList[74]? = some 0x2c from (LBX2_isBelievedr_4 10).trans (by decide +kernel)) (by decide)
theorem dX2_isBelieved_75 : decode cX2_isBelieved 75 = .ok (.ifCond .ne 5, 3) := dk_154_ (show cX2_isBelieved.data.toList[75]? = some 0x9a from (LBX2_isBelievedr_4 11).trans (by decide +kernel)) (show cX2_isBelieved.data.toList[76]? = some 0x00 from (LBX2_isBelievedr_4 12).trans (by decide +kernel)) (show cX2_isBelieved.data.toList[77]? = some 0x05 from (LBX2_isBelievedr_4 13).trans (by decide +kernel)) (by decide)
theorem dX2_isBelieved_78 : decode cX2_isBelieved 78 = .ok (.iconst 0, 1) := dk_3_ (show cX2_isBelieved.data.toList[78]? = some 0x03 from (LBX2_isBelievedr_4 14).trans (by decide +kernel))
theorem dX2_isBelieved_79 : decode cX2_isBelieved 79 = .ok (.ireturn, 1) := dk_172_ (show cX2_isBelieved.data.toList[79]? = some 0xac from (LBX2_isBelievedr_4 15).trans (by decide +kernel))
theorem dX2_isBelieved_80 : decode cX2_isBelieved 80 = .ok (.iinc 4 1, 3) := dk_132_ (show cX2_isBelieved.data.toList[80]? = some 0x84 from (LBX2_isBelievedr_5 0).trans (by decide +kernel)) (show cX2_isBelieved.data.toList[81]? = some 0x04 from (LBX2_isBelievedr_5 1).trans (by decide +kernel)) (show cX2_isBelieved.data.toList[82]? = some 0x01 from (LBX2_isBelievedr_5 2).trans (by decide +kernel)) (by decide) (by decide)
theorem dX2_isBelieved_83 : decode cX2_isBelieved 83 = .ok (.goto (-22), 3) := dk_167_ (show cX2_isBelieved.data.toList[83]? = some 0xa7 from (LBX2_isBelievedr_5 3).trans (by decide +kernel)) (show cX2_isBelieved.data.toList[84]? = some 0xff from (LBX2_isBelievedr_5 4).trans (by decide +kernel)) (show cX2_isBelieved.data.toList[85]? = some 0xea from (LBX2_isBelievedr_5 5).trans (by decide +kernel)) (by decide)
theorem dX2_isBelieved_86 : decode cX2_isBelieved 86 = .ok (.iconst 1, 1) := dk_4_ (show cX2_isBelieved.data.toList[86]? = some 0x04 from (LBX2_isBelievedr_5 6).trans (by decide +kernel))
theorem dX2_isBelieved_87 : decode cX2_isBelieved 87 = .ok (.ireturn, 1) := dk_172_ (show cX2_isBelieved.data.toList[87]? = some 0xac from (LBX2_isBelievedr_5 7).trans (by decide +kernel))
def LRX2_learnIn_6 : List UInt8 := []
def LBX2_learnIn_5 : List UInt8 := [0xff, 0xba, 0x1c, 0xac]
def LRX2_learnIn_5 : List UInt8 := LBX2_learnIn_5 ++ LRX2_learnIn_6
def LBX2_learnIn_4 : List UInt8 := [0x2a, 0xb4, 0x00, 0x0d, 0x9a, 0x00, 0x05, 0x1c, 0xac, 0x84, 0x02, 0x01, 0x84, 0x03, 0x01, 0xa7]
def LRX2_learnIn_4 : List UInt8 := LBX2_learnIn_4 ++ LRX2_learnIn_5
def LBX2_learnIn_3 : List UInt8 := [0x00, 0x07, 0x04, 0x15, 0x04, 0x78, 0x80, 0xb5, 0x00, 0x07, 0x84, 0x04, 0x01, 0xa7, 0xff, 0xda]
def LRX2_learnIn_3 : List UInt8 := LBX2_learnIn_3 ++ LRX2_learnIn_4
def LBX2_learnIn_2 : List UInt8 := [0xa2, 0x00, 0x20, 0x2a, 0x2b, 0x15, 0x04, 0xb6, 0x00, 0x1c, 0x9a, 0x00, 0x10, 0x2a, 0x59, 0xb4]
def LRX2_learnIn_2 : List UInt8 := LBX2_learnIn_2 ++ LRX2_learnIn_3
def LBX2_learnIn_1 : List UInt8 := [0x03, 0xb5, 0x00, 0x0d, 0x03, 0x36, 0x04, 0x15, 0x04, 0x2b, 0xb4, 0x00, 0x11, 0xb4, 0x00, 0x17]
def LRX2_learnIn_1 : List UInt8 := LBX2_learnIn_1 ++ LRX2_learnIn_2
def LBX2_learnIn_0 : List UInt8 := [0x2a, 0x03, 0xb5, 0x00, 0x07, 0x03, 0x3d, 0x03, 0x3e, 0x1d, 0x10, 0x32, 0xa2, 0x00, 0x46, 0x2a]
def LRX2_learnIn_0 : List UInt8 := LBX2_learnIn_0 ++ LRX2_learnIn_1
set_option maxRecDepth 100000 in
theorem LBX2_learnIn_eq : cX2_learnIn.data.toList = LRX2_learnIn_0 := by decide +kernel
theorem LBX2_learnInr_0 (k : Nat) : cX2_learnIn.data.toList[0 + k]? = LRX2_learnIn_0[k]? := by rw [LBX2_learnIn_eq, Nat.zero_add]
theorem LBX2_learnInr_1 (k : Nat) : cX2_learnIn.data.toList[16 + k]? = LRX2_learnIn_1[k]? := by
  have h := LBX2_learnInr_0 (16 + k)
  rw [show 0 + (16 + k) = 16 + k by omega] at h
  rw [h]
  exact (List.getElem?_append_right (l₁ := LBX2_learnIn_0) (l₂ := LRX2_learnIn_1) (show 16 ≤ 16 + k by omega)).trans (congrArg (fun i => LRX2_learnIn_1[i]?) (show 16 + k - 16 = k by omega))
theorem LBX2_learnInr_2 (k : Nat) : cX2_learnIn.data.toList[32 + k]? = LRX2_learnIn_2[k]? := by
  have h := LBX2_learnInr_1 (16 + k)
  rw [show 16 + (16 + k) = 32 + k by omega] at h
  rw [h]
  exact (List.getElem?_append_right (l₁ := LBX2_learnIn_1) (l₂ := LRX2_learnIn_2) (show 16 ≤ 16 + k by omega)).trans (congrArg (fun i => LRX2_learnIn_2[i]?) (show 16 + k - 16 = k by omega))
theorem LBX2_learnInr_3 (k : Nat) : cX2_learnIn.data.toList[48 + k]? = LRX2_learnIn_3[k]? := by
  have h := LBX2_learnInr_2 (16 + k)
  rw [show 32 + (16 + k) = 48 + k by omega] at h
  rw [h]
  exact (List.getElem?_append_right (l₁ := LBX2_learnIn_2) (l₂ := LRX2_learnIn_3) (show 16 ≤ 16 + k by omega)).trans (congrArg (fun i => LRX2_learnIn_3[i]?) (show 16 + k - 16 = k by omega))
theorem LBX2_learnInr_4 (k : Nat) : cX2_learnIn.data.toList[64 + k]? = LRX2_learnIn_4[k]? := by
  have h := LBX2_learnInr_3 (16 + k)
  rw [show 48 + (16 + k) = 64 + k by omega] at h
  rw [h]
  exact (List.getElem?_append_right (l₁ := LBX2_learnIn_3) (l₂ := LRX2_learnIn_4) (show 16 ≤ 16 + k by omega)).trans (congrArg (fun i => LRX2_learnIn_4[i]?) (show 16 + k - 16 = k by omega))
theorem LBX2_learnInr_5 (k : Nat) : cX2_learnIn.data.toList[80 + k]? = LRX2_learnIn_5[k]? := by
  have h := LBX2_learnInr_4 (16 + k)
  rw [show 64 + (16 + k) = 80 + k by omega] at h
  rw [h]
  exact (List.getElem?_append_right (l₁ := LBX2_learnIn_4) (l₂ := LRX2_learnIn_5) (show 16 ≤ 16 + k by omega)).trans (congrArg (fun i => LRX2_learnIn_5[i]?) (show 16 + k - 16 = k by omega))
theorem dX2_learnIn_0 : decode cX2_learnIn 0 = .ok (.aload_n 0, 1) := dk_42_ (show cX2_learnIn.data.toList[0]? = some 0x2a from (LBX2_learnInr_0 0).trans (by decide +kernel))
theorem dX2_learnIn_1 : decode cX2_learnIn 1 = .ok (.iconst 0, 1) := dk_3_ (show cX2_learnIn.data.toList[1]? = some 0x03 from (LBX2_learnInr_0 1).trans (by decide +kernel))
theorem dX2_learnIn_2 : decode cX2_learnIn 2 = .ok (.putfield 7, 3) := dk_181_ (show cX2_learnIn.data.toList[2]? = some 0xb5 from (LBX2_learnInr_0 2).trans (by decide +kernel)) (show cX2_learnIn.data.toList[3]? = some 0x00 from (LBX2_learnInr_0 3).trans (by decide +kernel)) (show cX2_learnIn.data.toList[4]? = some 0x07 from (LBX2_learnInr_0 4).trans (by decide +kernel)) (by decide)
theorem dX2_learnIn_5 : decode cX2_learnIn 5 = .ok (.iconst 0, 1) := dk_3_ (show cX2_learnIn.data.toList[5]? = some 0x03 from (LBX2_learnInr_0 5).trans (by decide +kernel))
theorem dX2_learnIn_6 : decode cX2_learnIn 6 = .ok (.istore_n 2, 1) := dk_61_ (show cX2_learnIn.data.toList[6]? = some 0x3d from (LBX2_learnInr_0 6).trans (by decide +kernel))
theorem dX2_learnIn_7 : decode cX2_learnIn 7 = .ok (.iconst 0, 1) := dk_3_ (show cX2_learnIn.data.toList[7]? = some 0x03 from (LBX2_learnInr_0 7).trans (by decide +kernel))
theorem dX2_learnIn_8 : decode cX2_learnIn 8 = .ok (.istore_n 3, 1) := dk_62_ (show cX2_learnIn.data.toList[8]? = some 0x3e from (LBX2_learnInr_0 8).trans (by decide +kernel))
theorem dX2_learnIn_9 : decode cX2_learnIn 9 = .ok (.iload_n 3, 1) := dk_29_ (show cX2_learnIn.data.toList[9]? = some 0x1d from (LBX2_learnInr_0 9).trans (by decide +kernel))
theorem dX2_learnIn_10 : decode cX2_learnIn 10 = .ok (.bipush 50, 2) := dk_16_ (show cX2_learnIn.data.toList[10]? = some 0x10 from (LBX2_learnInr_0 10).trans (by decide +kernel)) (show cX2_learnIn.data.toList[11]? = some 0x32 from (LBX2_learnInr_0 11).trans (by decide +kernel)) (by decide)
theorem dX2_learnIn_12 : decode cX2_learnIn 12 = .ok (.if_icmp .ge 70, 3) := dk_162_ (show cX2_learnIn.data.toList[12]? = some 0xa2 from (LBX2_learnInr_0 12).trans (by decide +kernel)) (show cX2_learnIn.data.toList[13]? = some 0x00 from (LBX2_learnInr_0 13).trans (by decide +kernel)) (show cX2_learnIn.data.toList[14]? = some 0x46 from (LBX2_learnInr_0 14).trans (by decide +kernel)) (by decide)
theorem dX2_learnIn_15 : decode cX2_learnIn 15 = .ok (.aload_n 0, 1) := dk_42_ (show cX2_learnIn.data.toList[15]? = some 0x2a from (LBX2_learnInr_0 15).trans (by decide +kernel))
theorem dX2_learnIn_16 : decode cX2_learnIn 16 = .ok (.iconst 0, 1) := dk_3_ (show cX2_learnIn.data.toList[16]? = some 0x03 from (LBX2_learnInr_1 0).trans (by decide +kernel))
theorem dX2_learnIn_17 : decode cX2_learnIn 17 = .ok (.putfield 13, 3) := dk_181_ (show cX2_learnIn.data.toList[17]? = some 0xb5 from (LBX2_learnInr_1 1).trans (by decide +kernel)) (show cX2_learnIn.data.toList[18]? = some 0x00 from (LBX2_learnInr_1 2).trans (by decide +kernel)) (show cX2_learnIn.data.toList[19]? = some 0x0d from (LBX2_learnInr_1 3).trans (by decide +kernel)) (by decide)
theorem dX2_learnIn_20 : decode cX2_learnIn 20 = .ok (.iconst 0, 1) := dk_3_ (show cX2_learnIn.data.toList[20]? = some 0x03 from (LBX2_learnInr_1 4).trans (by decide +kernel))
theorem dX2_learnIn_21 : decode cX2_learnIn 21 = .ok (.istore 4, 2) := dk_54_ (show cX2_learnIn.data.toList[21]? = some 0x36 from (LBX2_learnInr_1 5).trans (by decide +kernel)) (show cX2_learnIn.data.toList[22]? = some 0x04 from (LBX2_learnInr_1 6).trans (by decide +kernel)) (by decide)
theorem dX2_learnIn_23 : decode cX2_learnIn 23 = .ok (.iload 4, 2) := dk_21_ (show cX2_learnIn.data.toList[23]? = some 0x15 from (LBX2_learnInr_1 7).trans (by decide +kernel)) (show cX2_learnIn.data.toList[24]? = some 0x04 from (LBX2_learnInr_1 8).trans (by decide +kernel)) (by decide)
theorem dX2_learnIn_25 : decode cX2_learnIn 25 = .ok (.aload_n 1, 1) := dk_43_ (show cX2_learnIn.data.toList[25]? = some 0x2b from (LBX2_learnInr_1 9).trans (by decide +kernel))
theorem dX2_learnIn_26 : decode cX2_learnIn 26 = .ok (.getfield 17, 3) := dk_180_ (show cX2_learnIn.data.toList[26]? = some 0xb4 from (LBX2_learnInr_1 10).trans (by decide +kernel)) (show cX2_learnIn.data.toList[27]? = some 0x00 from (LBX2_learnInr_1 11).trans (by decide +kernel)) (show cX2_learnIn.data.toList[28]? = some 0x11 from (LBX2_learnInr_1 12).trans (by decide +kernel)) (by decide)
theorem dX2_learnIn_29 : decode cX2_learnIn 29 = .ok (.getfield 23, 3) := dk_180_ (show cX2_learnIn.data.toList[29]? = some 0xb4 from (LBX2_learnInr_1 13).trans (by decide +kernel)) (show cX2_learnIn.data.toList[30]? = some 0x00 from (LBX2_learnInr_1 14).trans (by decide +kernel)) (show cX2_learnIn.data.toList[31]? = some 0x17 from (LBX2_learnInr_1 15).trans (by decide +kernel)) (by decide)
theorem dX2_learnIn_32 : decode cX2_learnIn 32 = .ok (.if_icmp .ge 32, 3) := dk_162_ (show cX2_learnIn.data.toList[32]? = some 0xa2 from (LBX2_learnInr_2 0).trans (by decide +kernel)) (show cX2_learnIn.data.toList[33]? = some 0x00 from (LBX2_learnInr_2 1).trans (by decide +kernel)) (show cX2_learnIn.data.toList[34]? = some 0x20 from (LBX2_learnInr_2 2).trans (by decide +kernel)) (by decide)
theorem dX2_learnIn_35 : decode cX2_learnIn 35 = .ok (.aload_n 0, 1) := dk_42_ (show cX2_learnIn.data.toList[35]? = some 0x2a from (LBX2_learnInr_2 3).trans (by decide +kernel))
theorem dX2_learnIn_36 : decode cX2_learnIn 36 = .ok (.aload_n 1, 1) := dk_43_ (show cX2_learnIn.data.toList[36]? = some 0x2b from (LBX2_learnInr_2 4).trans (by decide +kernel))
theorem dX2_learnIn_37 : decode cX2_learnIn 37 = .ok (.iload 4, 2) := dk_21_ (show cX2_learnIn.data.toList[37]? = some 0x15 from (LBX2_learnInr_2 5).trans (by decide +kernel)) (show cX2_learnIn.data.toList[38]? = some 0x04 from (LBX2_learnInr_2 6).trans (by decide +kernel)) (by decide)
theorem dX2_learnIn_39 : decode cX2_learnIn 39 = .ok (.invokevirtual 28, 3) := dk_182_ (show cX2_learnIn.data.toList[39]? = some 0xb6 from (LBX2_learnInr_2 7).trans (by decide +kernel)) (show cX2_learnIn.data.toList[40]? = some 0x00 from (LBX2_learnInr_2 8).trans (by decide +kernel)) (show cX2_learnIn.data.toList[41]? = some 0x1c from (LBX2_learnInr_2 9).trans (by decide +kernel)) (by decide)
theorem dX2_learnIn_42 : decode cX2_learnIn 42 = .ok (.ifCond .ne 16, 3) := dk_154_ (show cX2_learnIn.data.toList[42]? = some 0x9a from (LBX2_learnInr_2 10).trans (by decide +kernel)) (show cX2_learnIn.data.toList[43]? = some 0x00 from (LBX2_learnInr_2 11).trans (by decide +kernel)) (show cX2_learnIn.data.toList[44]? = some 0x10 from (LBX2_learnInr_2 12).trans (by decide +kernel)) (by decide)
theorem dX2_learnIn_45 : decode cX2_learnIn 45 = .ok (.aload_n 0, 1) := dk_42_ (show cX2_learnIn.data.toList[45]? = some 0x2a from (LBX2_learnInr_2 13).trans (by decide +kernel))
theorem dX2_learnIn_46 : decode cX2_learnIn 46 = .ok (.dup, 1) := dk_89_ (show cX2_learnIn.data.toList[46]? = some 0x59 from (LBX2_learnInr_2 14).trans (by decide +kernel))
theorem dX2_learnIn_47 : decode cX2_learnIn 47 = .ok (.getfield 7, 3) := dk_180_ (show cX2_learnIn.data.toList[47]? = some 0xb4 from (LBX2_learnInr_2 15).trans (by decide +kernel)) (show cX2_learnIn.data.toList[48]? = some 0x00 from (LBX2_learnInr_3 0).trans (by decide +kernel)) (show cX2_learnIn.data.toList[49]? = some 0x07 from (LBX2_learnInr_3 1).trans (by decide +kernel)) (by decide)
theorem dX2_learnIn_50 : decode cX2_learnIn 50 = .ok (.iconst 1, 1) := dk_4_ (show cX2_learnIn.data.toList[50]? = some 0x04 from (LBX2_learnInr_3 2).trans (by decide +kernel))
theorem dX2_learnIn_51 : decode cX2_learnIn 51 = .ok (.iload 4, 2) := dk_21_ (show cX2_learnIn.data.toList[51]? = some 0x15 from (LBX2_learnInr_3 3).trans (by decide +kernel)) (show cX2_learnIn.data.toList[52]? = some 0x04 from (LBX2_learnInr_3 4).trans (by decide +kernel)) (by decide)
theorem dX2_learnIn_53 : decode cX2_learnIn 53 = .ok (.ishl, 1) := dk_120_ (show cX2_learnIn.data.toList[53]? = some 0x78 from (LBX2_learnInr_3 5).trans (by decide +kernel))
theorem dX2_learnIn_54 : decode cX2_learnIn 54 = .ok (.ior, 1) := dk_128_ (show cX2_learnIn.data.toList[54]? = some 0x80 from (LBX2_learnInr_3 6).trans (by decide +kernel))
theorem dX2_learnIn_55 : decode cX2_learnIn 55 = .ok (.putfield 7, 3) := dk_181_ (show cX2_learnIn.data.toList[55]? = some 0xb5 from (LBX2_learnInr_3 7).trans (by decide +kernel)) (show cX2_learnIn.data.toList[56]? = some 0x00 from (LBX2_learnInr_3 8).trans (by decide +kernel)) (show cX2_learnIn.data.toList[57]? = some 0x07 from (LBX2_learnInr_3 9).trans (by decide +kernel)) (by decide)
theorem dX2_learnIn_58 : decode cX2_learnIn 58 = .ok (.iinc 4 1, 3) := dk_132_ (show cX2_learnIn.data.toList[58]? = some 0x84 from (LBX2_learnInr_3 10).trans (by decide +kernel)) (show cX2_learnIn.data.toList[59]? = some 0x04 from (LBX2_learnInr_3 11).trans (by decide +kernel)) (show cX2_learnIn.data.toList[60]? = some 0x01 from (LBX2_learnInr_3 12).trans (by decide +kernel)) (by decide) (by decide)
theorem dX2_learnIn_61 : decode cX2_learnIn 61 = .ok (.goto (-38), 3) := dk_167_ (show cX2_learnIn.data.toList[61]? = some 0xa7 from (LBX2_learnInr_3 13).trans (by decide +kernel)) (show cX2_learnIn.data.toList[62]? = some 0xff from (LBX2_learnInr_3 14).trans (by decide +kernel)) (show cX2_learnIn.data.toList[63]? = some 0xda from (LBX2_learnInr_3 15).trans (by decide +kernel)) (by decide)
theorem dX2_learnIn_64 : decode cX2_learnIn 64 = .ok (.aload_n 0, 1) := dk_42_ (show cX2_learnIn.data.toList[64]? = some 0x2a from (LBX2_learnInr_4 0).trans (by decide +kernel))
theorem dX2_learnIn_65 : decode cX2_learnIn 65 = .ok (.getfield 13, 3) := dk_180_ (show cX2_learnIn.data.toList[65]? = some 0xb4 from (LBX2_learnInr_4 1).trans (by decide +kernel)) (show cX2_learnIn.data.toList[66]? = some 0x00 from (LBX2_learnInr_4 2).trans (by decide +kernel)) (show cX2_learnIn.data.toList[67]? = some 0x0d from (LBX2_learnInr_4 3).trans (by decide +kernel)) (by decide)
theorem dX2_learnIn_68 : decode cX2_learnIn 68 = .ok (.ifCond .ne 5, 3) := dk_154_ (show cX2_learnIn.data.toList[68]? = some 0x9a from (LBX2_learnInr_4 4).trans (by decide +kernel)) (show cX2_learnIn.data.toList[69]? = some 0x00 from (LBX2_learnInr_4 5).trans (by decide +kernel)) (show cX2_learnIn.data.toList[70]? = some 0x05 from (LBX2_learnInr_4 6).trans (by decide +kernel)) (by decide)
theorem dX2_learnIn_71 : decode cX2_learnIn 71 = .ok (.iload_n 2, 1) := dk_28_ (show cX2_learnIn.data.toList[71]? = some 0x1c from (LBX2_learnInr_4 7).trans (by decide +kernel))
theorem dX2_learnIn_72 : decode cX2_learnIn 72 = .ok (.ireturn, 1) := dk_172_ (show cX2_learnIn.data.toList[72]? = some 0xac from (LBX2_learnInr_4 8).trans (by decide +kernel))
theorem dX2_learnIn_73 : decode cX2_learnIn 73 = .ok (.iinc 2 1, 3) := dk_132_ (show cX2_learnIn.data.toList[73]? = some 0x84 from (LBX2_learnInr_4 9).trans (by decide +kernel)) (show cX2_learnIn.data.toList[74]? = some 0x02 from (LBX2_learnInr_4 10).trans (by decide +kernel)) (show cX2_learnIn.data.toList[75]? = some 0x01 from (LBX2_learnInr_4 11).trans (by decide +kernel)) (by decide) (by decide)
theorem dX2_learnIn_76 : decode cX2_learnIn 76 = .ok (.iinc 3 1, 3) := dk_132_ (show cX2_learnIn.data.toList[76]? = some 0x84 from (LBX2_learnInr_4 12).trans (by decide +kernel)) (show cX2_learnIn.data.toList[77]? = some 0x03 from (LBX2_learnInr_4 13).trans (by decide +kernel)) (show cX2_learnIn.data.toList[78]? = some 0x01 from (LBX2_learnInr_4 14).trans (by decide +kernel)) (by decide) (by decide)
theorem dX2_learnIn_79 : decode cX2_learnIn 79 = .ok (.goto (-70), 3) := dk_167_ (show cX2_learnIn.data.toList[79]? = some 0xa7 from (LBX2_learnInr_4 15).trans (by decide +kernel)) (show cX2_learnIn.data.toList[80]? = some 0xff from (LBX2_learnInr_5 0).trans (by decide +kernel)) (show cX2_learnIn.data.toList[81]? = some 0xba from (LBX2_learnInr_5 1).trans (by decide +kernel)) (by decide)
theorem dX2_learnIn_82 : decode cX2_learnIn 82 = .ok (.iload_n 2, 1) := dk_28_ (show cX2_learnIn.data.toList[82]? = some 0x1c from (LBX2_learnInr_5 2).trans (by decide +kernel))
theorem dX2_learnIn_83 : decode cX2_learnIn 83 = .ok (.ireturn, 1) := dk_172_ (show cX2_learnIn.data.toList[83]? = some 0xac from (LBX2_learnInr_5 3).trans (by decide +kernel))
theorem uw225 : Cond.fieldLink RX2 17 "LongerBack$Land" "walks" "LLongerBack$Rows;" ∈ wsU := ut1 (List.mem_of_getElem? (i := 74) rfl) rfl
theorem uw226 : Cond.methodLink RX2 36 yX3_stop ∈ wsU := ut3 (List.mem_of_getElem? (i := 136) rfl) rfl
theorem uw227 : Cond.methodLink RX2 48 yX1_wayAt ∈ wsU := ut3 (List.mem_of_getElem? (i := 145) rfl) rfl
theorem uw228 : Cond.methodLink RX2 51 yX2_wayOn ∈ wsU := ut3 (List.mem_of_getElem? (i := 142) rfl) rfl
theorem uw229 : Cond.static yX2_wayOn ∈ wsU := ut3 (List.mem_of_getElem? (i := 143) rfl) rfl
theorem uw230 : Cond.initialized yX2_wayOn.cls ∈ wsU := ut1 (List.mem_of_getElem? (i := 7) rfl) rfl
theorem uw231 : Cond.code yX2_wayOn cX2_wayOn 3 (some .int) ∈ wsU := ut3 (List.mem_of_getElem? (i := 144) rfl) rfl
theorem uw232 : Cond.fieldLink RX2 32 "LongerBack$Rows" "lengths" "[I" ∈ wsU := ut1 (List.mem_of_getElem? (i := 41) rfl) rfl
theorem uw233 : Cond.fieldLink RX2 58 "LongerBack$Land" "high" "[I" ∈ wsU := ut1 (List.mem_of_getElem? (i := 65) rfl) rfl
theorem uw234 : Cond.fieldLink RX2 61 "LongerBack$Land" "totals" "[I" ∈ wsU := ut1 (List.mem_of_getElem? (i := 78) rfl) rfl
theorem uw235 : Cond.fieldLink RX2 64 "LongerBack$Land" "slacks" "[I" ∈ wsU := ut1 (List.mem_of_getElem? (i := 81) rfl) rfl
theorem uw236 : Cond.methodLink RX2 67 Lib.Math.min.name ∈ wsU := ut3 (List.mem_of_getElem? (i := 146) rfl) rfl
theorem uw237 : Cond.fieldLink RX2 55 "LongerBack$Land" "low" "[I" ∈ wsU := ut1 (List.mem_of_getElem? (i := 63) rfl) rfl
theorem uw238 : Cond.methodLink RX2 72 Lib.Math.max.name ∈ wsU := ut3 (List.mem_of_getElem? (i := 147) rfl) rfl
theorem uw239 : Cond.static yX8_areEnds ∈ wsU := ut2 (List.mem_of_getElem? (i := 41) rfl) rfl
theorem uw240 : Cond.initialized yX8_areEnds.cls ∈ wsU := ut1 (List.mem_of_getElem? (i := 1) rfl) rfl
theorem uw241 : Cond.code yX8_areEnds cX8_areEnds 2 (some .boolean) ∈ wsU := ut2 (List.mem_of_getElem? (i := 42) rfl) rfl
theorem uw242 : Cond.fieldLink RX2 13 "LongerBack$Learner" "isChanged" "Z" ∈ wsU := ut1 (List.mem_of_getElem? (i := 153) rfl) rfl
theorem uw243 : Cond.lays RX2 "LongerBack$Learner" "liars" "I" ∈ wsU := ut1 (List.mem_of_getElem? (i := 154) rfl) rfl
theorem uw244 : Cond.lays RX2 "LongerBack$Learner" "isChanged" "Z" ∈ wsU := ut1 (List.mem_of_getElem? (i := 156) rfl) rfl
theorem uw245 : Cond.methodLink RX2 44 yX2_narrow ∈ wsU := ut3 (List.mem_of_getElem? (i := 138) rfl) rfl
theorem uw246 : Cond.instanceMethod yX2_narrow ∈ wsU := ut3 (List.mem_of_getElem? (i := 140) rfl) rfl
theorem uw247 : Cond.selects RX2 yX2_narrow yX2_narrow ∈ wsU := us_sel (q := (yX2_narrow, 2)) (List.mem_of_getElem? (i := 12) (by decide +kernel)) rfl
theorem uw248 : Cond.initialized RX2 ∈ wsU := ut1 (List.mem_of_getElem? (i := 7) rfl) rfl
theorem uw249 : Cond.code yX2_narrow cX2_narrow 10 (some .boolean) ∈ wsU := ut3 (List.mem_of_getElem? (i := 141) rfl) rfl
theorem uw250 : Cond.methodLink RX2 40 yX1_isThere ∈ wsU := ut3 (List.mem_of_getElem? (i := 137) rfl) rfl
theorem uw251 : Cond.instanceMethod yX1_isThere ∈ wsU := ut2 (List.mem_of_getElem? (i := 44) rfl) rfl
theorem uw252 : Cond.selects RX1 yX1_isThere yX1_isThere ∈ wsU := ut2 (List.mem_of_getElem? (i := 45) rfl) rfl
theorem uw253 : Cond.code yX1_isThere cX1_isThere 3 (some .boolean) ∈ wsU := ut2 (List.mem_of_getElem? (i := 46) rfl) rfl
theorem uw254 : Cond.fieldLink RX2 7 "LongerBack$Learner" "liars" "I" ∈ wsU := ut1 (List.mem_of_getElem? (i := 151) rfl) rfl
theorem uw255 : Cond.fieldLink RX2 23 "LongerBack$Rows" "count" "I" ∈ wsU := ut1 (List.mem_of_getElem? (i := 38) rfl) rfl
theorem uw256 : Cond.methodLink RX2 28 yX2_isBelieved ∈ wsU := ut3 (List.mem_of_getElem? (i := 132) rfl) rfl
theorem uw257 : Cond.instanceMethod yX2_isBelieved ∈ wsU := ut3 (List.mem_of_getElem? (i := 134) rfl) rfl
theorem uw258 : Cond.selects RX2 yX2_isBelieved yX2_isBelieved ∈ wsU := us_sel (q := (yX2_isBelieved, 2)) (List.mem_of_getElem? (i := 11) (by decide +kernel)) rfl
theorem uw259 : Cond.code yX2_isBelieved cX2_isBelieved 5 (some .boolean) ∈ wsU := ut3 (List.mem_of_getElem? (i := 135) rfl) rfl
theorem inUX2 : ∀ w ∈ u_ws RX2 TX2 2, w ∈ wsU := List.forall_mem_cons.mpr ⟨uw243, List.forall_mem_cons.mpr ⟨uw244, fun _ h => absurd h List.not_mem_nil⟩⟩
theorem kf_X2_17 : xWF RX2 17 1 7 RX1 TX1 10 := ⟨inUX1, rfl, by decide, uw225⟩
theorem kv_X2_36 : xWV RX2 36 RX3 yX3_stop cX3_stop 3 (some .int) 2 := ⟨⟨uw226, uw45, uw46, uw42, uw47⟩, by decide +kernel⟩
theorem ks_X2_48 : xWS RX2 48 yX1_wayAt cX1_wayAt 2 (some .int) 2 := ⟨⟨uw227, uw23, uw24, uw25⟩, by decide +kernel⟩
theorem ks_X2_51 : xWS RX2 51 yX2_wayOn cX2_wayOn 3 (some .int) 3 := ⟨⟨uw228, uw229, uw230, uw231⟩, by decide +kernel⟩
theorem kf_X2_32 : xWF RX2 32 3 1 RX3 TX3 3 := ⟨inUX3, rfl, by decide, uw232⟩
theorem kf_X2_58 : xWF RX2 58 1 3 RX1 TX1 10 := ⟨inUX1, rfl, by decide, uw233⟩
theorem kf_X2_61 : xWF RX2 61 1 8 RX1 TX1 10 := ⟨inUX1, rfl, by decide, uw234⟩
theorem kf_X2_64 : xWF RX2 64 1 9 RX1 TX1 10 := ⟨inUX1, rfl, by decide, uw235⟩
theorem kf_X2_55 : xWF RX2 55 1 2 RX1 TX1 10 := ⟨inUX1, rfl, by decide, uw237⟩
theorem kn_X2_75 : (Cond.code yX8_areEnds cX8_areEnds 2 (some .boolean) ∈ wsU ∧ Cond.static yX8_areEnds ∈ wsU ∧ Cond.initialized yX8_areEnds.cls ∈ wsU) ∧ (yX8_areEnds.cls ≠ "java/lang/invoke/MethodHandle" ∧ yX8_areEnds.cls ≠ "java/lang/invoke/VarHandle" ∧ (parseMethodDescriptor yX8_areEnds.desc).map (fun d => d.parameters.length) = some 2) ∧ Cond.methodLinkNest RX2 75 yX8_areEnds RX8 ∈ xNest := ⟨⟨uw241, uw239, uw240⟩, by decide +kernel, by decide +kernel⟩
theorem kf_X2_13 : xWF RX2 13 2 1 RX2 TX2 2 := ⟨inUX2, rfl, by decide, uw242⟩
theorem kv_X2_44 : xWV RX2 44 RX2 yX2_narrow cX2_narrow 10 (some .boolean) 3 := ⟨⟨uw245, uw246, uw247, uw248, uw249⟩, by decide +kernel⟩
theorem kv_X2_40 : xWV RX2 40 RX1 yX1_isThere cX1_isThere 3 (some .boolean) 2 := ⟨⟨uw250, uw251, uw252, uw19, uw253⟩, by decide +kernel⟩
theorem kf_X2_7 : xWF RX2 7 2 0 RX2 TX2 2 := ⟨inUX2, rfl, by decide, uw254⟩
theorem kf_X2_23 : xWF RX2 23 3 0 RX3 TX3 3 := ⟨inUX3, rfl, by decide, uw255⟩
theorem kv_X2_28 : xWV RX2 28 RX2 yX2_isBelieved cX2_isBelieved 5 (some .boolean) 2 := ⟨⟨uw256, uw257, uw258, uw248, uw259⟩, by decide +kernel⟩
set_option maxHeartbeats 4000000 in
set_option maxRecDepth 100000 in
theorem c_X2_wayOn (l : Launch) (D : va_G) (cI cJ cZ cS : ClassId) (ta : Nat) (sa sv : Nat → Nat) (sz : Nat) (q1 : Nat) (be : Nat) (bl : Nat) (bu : Nat) (bo : Nat) (br : Nat) (bk : Nat) (bw : Nat) (btt : Nat) (bss : Nat) (P : Nat) (bn : Nat) (bp : Nat) (cn : Nat) (sp : Nat → Int32) (k : Nat) (i : Nat) (hk : k < 8) (hi : i < 5) (hsp : BA 48 10 sp) : Met l yX2_wayOn (Cond.code yX2_wayOn cX2_wayOn 3 (some .int) :: wsU) ({ frames := 1, cells := 0, slots := 0, locals := 22 }) (va_Pc [.ref q1, .int (nI (k)), .int (nI (i))] (XW D (xT cI cJ cZ cS) ta sa sv [(q1, .inr (1, [.int (nI (P)), .ref be, .ref bl, .ref bu, .ref bo, .ref br, .ref bk, .ref bw, .ref btt, .ref bss])), (bw, .inr (3, [.int (nI (cn)), .ref bn, .ref bp])), (bp, .inl (cI, 48, .inl sp))] sz)) (vp_Si (fun r : Int32 => (r = nI (wyO sp k i) ∧ (wyO sp k i < 100)))) 0 0 (fun _ => False) := by
  refine xh (QA := fun _ => vp_Si (fun r : Int32 => (r = nI (wyO sp k i) ∧ (wyO sp k i < 100)))) (fr := fun _ _ => False) (by decide) (Nat.le_of_ble_eq_true rfl) ?_
  intro p e s m below meth c ls A hF hr hlk hin hsz hP hK hD hN hZ hA hS hl
  have hF : CallFix p m c cX2_wayOn 3 s _ _ RX2 := hF
  have hx := hF.1
  have hb := hF.2.1
  have hml := hF.2.2.1
  have hown := hF.2.2.2.1
  have hu : ∀ w ∈ wsU, w.before _ s = true := fun w h => hF.2.2.2.2 w (List.mem_cons_of_mem _ h)
  have hl : lv_has ls 3 [(0, .ref q1), (1, .int (nI (k))), (2, .int (nI (i)))] := hl
  refine lv_aload_n hx hb dX2_wayOn_0 rfl (lv_at hl 0 rfl) ?_
  refine xg hF kf_X2_17 hK hP 0 rfl rfl dX2_wayOn_1 ?_
  refine lv_iload_n hx hb dX2_wayOn_4 rfl (lv_at hl 1 rfl) ?_
  refine lv_iload_n hx hb dX2_wayOn_5 rfl (lv_at hl 2 rfl) ?_
  refine xc_Vr hF (c_X3_stop l D cI cJ cZ cS ta sa sv s.heap.size bw bn bp cn k i sp (by omega) (by omega) hsp) kv_X2_36 ⟨rfl, rfl, Nat.le_of_ble_eq_true rfl, Nat.le_of_ble_eq_true rfl⟩ ⟨Nat.le_of_ble_eq_true rfl, Nat.le_of_ble_eq_true rfl⟩ hK hN hZ hP hD hS hA [1, 2] rfl rfl 0 rfl rfl rfl rfl hl.1 rfl (Nat.le_of_ble_eq_true rfl) dX2_wayOn_6 (fun r_1 hw_r_1 => ?_)
  obtain ⟨q_2, rfl, h_3, h_4⟩ := hw_r_1
  refine lv_aload_n hx hb dX2_wayOn_9 rfl (lv_at hl 0 rfl) ?_
  refine xg hF kf_X2_17 hK hP 0 rfl rfl dX2_wayOn_10 ?_
  refine lv_iload_n hx hb dX2_wayOn_13 rfl (lv_at hl 1 rfl) ?_
  refine lv_iload_n hx hb dX2_wayOn_14 rfl (lv_at hl 2 rfl) ?_
  refine lv_iconst (v := 1) hx hb dX2_wayOn_15 (by decide) ?_
  refine lv_iadd hx hb dX2_wayOn_16 ?_
  refine xl_i (y := nI (i + 1)) (nI_add i 1) ?_
  refine xc_Vr hF (c_X3_stop l D cI cJ cZ cS ta sa sv s.heap.size bw bn bp cn k (i + 1) sp (by omega) (by omega) hsp) kv_X2_36 ⟨rfl, rfl, Nat.le_of_ble_eq_true rfl, Nat.le_of_ble_eq_true rfl⟩ ⟨Nat.le_of_ble_eq_true rfl, Nat.le_of_ble_eq_true rfl⟩ hK hN hZ hP hD hS hA [1, 2] rfl rfl 0 rfl rfl rfl rfl hl.1 rfl (Nat.le_of_ble_eq_true rfl) dX2_wayOn_17 (fun r_5 hw_r_5 => ?_)
  obtain ⟨q_6, rfl, h_7, h_8⟩ := hw_r_5
  refine xc_Sr hF (c_X1_wayAt l D cI cJ cZ cS ta sa sv s.heap.size q_2 q_6 ) ks_X2_48 ⟨rfl, rfl, Nat.le_of_ble_eq_true rfl, Nat.le_of_ble_eq_true rfl⟩ ⟨Nat.le_of_ble_eq_true rfl, Nat.le_of_ble_eq_true rfl⟩ hK hN hZ hP hD hS hA [] rfl rfl rfl hl.1 rfl (Nat.le_of_ble_eq_true rfl) dX2_wayOn_20 (fun r_9 hw_r_9 => ?_)
  subst hw_r_9
  exact W.iret (v := nI (10 * q_2 + q_6)) hx hb hr (fun t ht hW => ⟨nI (10 * q_2 + q_6), rfl, ⟨congrArg nI (wyO_eq h_4 h_8 (by omega) (by omega)).symm, by rw [wyO_eq h_4 h_8 (by omega) (by omega)]; omega⟩, ht⟩) (fun q h => by cases h) dX2_wayOn_23 hlk
set_option maxHeartbeats 4000000 in
set_option maxRecDepth 100000 in
theorem c_X2_narrow (l : Launch) (D : va_G) (cI cJ cZ cS : ClassId) (ta : Nat) (sa sv : Nat → Nat) (sz : Nat) (h0 : Nat) (b0 : Int32) (b1 : Int32) (q1 : Nat) (be : Nat) (bl : Nat) (bu : Nat) (bo : Nat) (br : Nat) (bk : Nat) (bw : Nat) (btt : Nat) (bss : Nat) (P : Nat) (bn : Nat) (bp : Nat) (cn : Nat) (lo : Nat → Int32) (hg : Nat → Int32) (d : Nat → Int32) (ln : Nat → Int32) (sp : Nat → Int32) (to9 : Nat → Int32) (sl : Nat → Int32) (k : Nat) (q : Nat) (i : Nat) (hk : k < 8) (hq1 : 1 ≤ q) (hq : q < 7) (eq0 : ln k = nI q) (hln : BA 8 7 ln) (hsp : BA 48 10 sp) (hi : i + 1 < q) : Met l yX2_narrow (Cond.code yX2_narrow cX2_narrow 10 (some .boolean) :: wsU) ({ frames := 2, cells := 0, slots := 0, locals := 44 }) (va_Pc [.ref h0, .ref q1, .int (nI (k)), .int (nI (i))] (XW D (xT cI cJ cZ cS) ta sa sv [(h0, .inr (2, [.int b0, .int b1])), (q1, .inr (1, [.int (nI (P)), .ref be, .ref bl, .ref bu, .ref bo, .ref br, .ref bk, .ref bw, .ref btt, .ref bss])), (bl, .inl (cI, 100, .inl lo)), (bu, .inl (cI, 100, .inl hg)), (bo, .inl (cI, 100, .inl d)), (bw, .inr (3, [.int (nI (cn)), .ref bn, .ref bp])), (bn, .inl (cI, 8, .inl ln)), (bp, .inl (cI, 48, .inl sp)), (btt, .inl (cI, 8, .inl to9)), (bss, .inl (cI, 8, .inl sl))] sz)) (XQi (fun (r : Int32) (u : Int32 × (Nat → Int32) × (Nat → Int32)) => match u with | (b9, l2, u2) => ((r = 1 ∧ (nwOk (wyO sp k) (q - 1) i (to9 k) (sl k) (lo, hg, b1)) ∧ (nwS (wyO sp k) (q - 1) i (to9 k) (sl k) (lo, hg, b1) = (l2, u2, b9))) ∨ (r = 0 ∧ (¬ nwOk (wyO sp k) (q - 1) i (to9 k) (sl k) (lo, hg, b1)) ∧ (((lo, hg, b1) : LSr) = (l2, u2, b9))))) D (fun (u : Int32 × (Nat → Int32) × (Nat → Int32)) => match u with | (b9, l2, u2) => [(h0, .inr (2, [.int b0, .int b9])), (q1, .inr (1, [.int (nI (P)), .ref be, .ref bl, .ref bu, .ref bo, .ref br, .ref bk, .ref bw, .ref btt, .ref bss])), (bl, .inl (cI, 100, .inl l2)), (bu, .inl (cI, 100, .inl u2)), (bo, .inl (cI, 100, .inl d)), (bw, .inr (3, [.int (nI (cn)), .ref bn, .ref bp])), (bn, .inl (cI, 8, .inl ln)), (bp, .inl (cI, 48, .inl sp)), (btt, .inl (cI, 8, .inl to9)), (bss, .inl (cI, 8, .inl sl))]) (va_A [(h0, .inr (2, [.int b0, .int b1])), (q1, .inr (1, [.int (nI (P)), .ref be, .ref bl, .ref bu, .ref bo, .ref br, .ref bk, .ref bw, .ref btt, .ref bss])), (bl, .inl (cI, 100, .inl lo)), (bu, .inl (cI, 100, .inl hg)), (bo, .inl (cI, 100, .inl d)), (bw, .inr (3, [.int (nI (cn)), .ref bn, .ref bp])), (bn, .inl (cI, 8, .inl ln)), (bp, .inl (cI, 48, .inl sp)), (btt, .inl (cI, 8, .inl to9)), (bss, .inl (cI, 8, .inl sl))] sz)) 0 0 (va_A [(h0, .inr (2, [.int b0, .int b1])), (q1, .inr (1, [.int (nI (P)), .ref be, .ref bl, .ref bu, .ref bo, .ref br, .ref bk, .ref bw, .ref btt, .ref bss])), (bl, .inl (cI, 100, .inl lo)), (bu, .inl (cI, 100, .inl hg)), (bo, .inl (cI, 100, .inl d)), (bw, .inr (3, [.int (nI (cn)), .ref bn, .ref bp])), (bn, .inl (cI, 8, .inl ln)), (bp, .inl (cI, 48, .inl sp)), (btt, .inl (cI, 8, .inl to9)), (bss, .inl (cI, 8, .inl sl))] sz) := by
  refine xh (QA := fun A => XQi (fun (r : Int32) (u : Int32 × (Nat → Int32) × (Nat → Int32)) => match u with | (b9, l2, u2) => ((r = 1 ∧ (nwOk (wyO sp k) (q - 1) i (to9 k) (sl k) (lo, hg, b1)) ∧ (nwS (wyO sp k) (q - 1) i (to9 k) (sl k) (lo, hg, b1) = (l2, u2, b9))) ∨ (r = 0 ∧ (¬ nwOk (wyO sp k) (q - 1) i (to9 k) (sl k) (lo, hg, b1)) ∧ (((lo, hg, b1) : LSr) = (l2, u2, b9))))) D (fun (u : Int32 × (Nat → Int32) × (Nat → Int32)) => match u with | (b9, l2, u2) => [(h0, .inr (2, [.int b0, .int b9])), (q1, .inr (1, [.int (nI (P)), .ref be, .ref bl, .ref bu, .ref bo, .ref br, .ref bk, .ref bw, .ref btt, .ref bss])), (bl, .inl (cI, 100, .inl l2)), (bu, .inl (cI, 100, .inl u2)), (bo, .inl (cI, 100, .inl d)), (bw, .inr (3, [.int (nI (cn)), .ref bn, .ref bp])), (bn, .inl (cI, 8, .inl ln)), (bp, .inl (cI, 48, .inl sp)), (btt, .inl (cI, 8, .inl to9)), (bss, .inl (cI, 8, .inl sl))]) A) (fr := fun A => A) (by decide) (Nat.le_of_ble_eq_true rfl) ?_
  intro p e s m below meth c ls A hF hr hlk hin hsz hP hK hD hN hZ hA hS hl
  have hF : CallFix p m c cX2_narrow 10 s _ _ RX2 := hF
  have hx := hF.1
  have hb := hF.2.1
  have hml := hF.2.2.1
  have hown := hF.2.2.2.1
  have hu : ∀ w ∈ wsU, w.before _ s = true := fun w h => hF.2.2.2.2 w (List.mem_cons_of_mem _ h)
  have hl : lv_has ls 10 [(0, .ref h0), (1, .ref q1), (2, .int (nI (k))), (3, .int (nI (i)))] := hl
  refine lv_aload_n hx hb dX2_narrow_0 rfl (lv_at hl 1 rfl) ?_
  refine lv_iload_n hx hb dX2_narrow_1 rfl (lv_at hl 2 rfl) ?_
  refine lv_iload_n hx hb dX2_narrow_2 rfl (lv_at hl 3 rfl) ?_
  refine xc_Sr hF (c_X2_wayOn l D cI cJ cZ cS ta sa sv s.heap.size q1 be bl bu bo br bk bw btt bss P bn bp cn sp k i (by omega) (by omega) hsp) ks_X2_51 ⟨rfl, rfl, Nat.le_of_ble_eq_true rfl, Nat.le_of_ble_eq_true rfl⟩ ⟨Nat.le_of_ble_eq_true rfl, Nat.le_of_ble_eq_true rfl⟩ hK hN hZ hP hD hS hA [1, 5, 7] rfl rfl rfl hl.1 rfl (Nat.le_of_ble_eq_true rfl) dX2_narrow_3 (fun r_1 hw_r_1 => ?_)
  obtain ⟨rfl, h_2⟩ := hw_r_1
  refine lv_istore (lv' := [(4, .int (nI (wyO sp k i))), (0, .ref h0), (1, .ref q1), (2, .int (nI (k))), (3, .int (nI (i)))]) hx hb dX2_narrow_6 hl (by decide) rfl (fun ls hl => ?_)
  refine lv_iconst (v := 0) hx hb dX2_narrow_8 (by decide) ?_
  refine lv_istore (lv' := [(5, .int 0), (4, .int (nI (wyO sp k i))), (0, .ref h0), (1, .ref q1), (2, .int (nI (k))), (3, .int (nI (i)))]) hx hb dX2_narrow_9 hl (by decide) rfl (fun ls hl => ?_)
  refine lv_iconst (v := 0) hx hb dX2_narrow_11 (by decide) ?_
  refine lv_istore (lv' := [(6, .int 0), (5, .int 0), (4, .int (nI (wyO sp k i))), (0, .ref h0), (1, .ref q1), (2, .int (nI (k))), (3, .int (nI (i)))]) hx hb dX2_narrow_12 hl (by decide) rfl (fun ls hl => ?_)
  refine lv_iconst (v := 0) hx hb dX2_narrow_14 (by decide) ?_
  refine lv_istore (lv' := [(7, .int 0), (6, .int 0), (5, .int 0), (4, .int (nI (wyO sp k i))), (0, .ref h0), (1, .ref q1), (2, .int (nI (k))), (3, .int (nI (i)))]) hx hb dX2_narrow_15 hl (by decide) rfl (fun ls hl => ?_)
  refine lv_iconst (v := 0) hx hb dX2_narrow_17 (by decide) ?_
  refine lv_istore (lv' := [(8, .int 0), (7, .int 0), (6, .int 0), (5, .int 0), (4, .int (nI (wyO sp k i))), (0, .ref h0), (1, .ref q1), (2, .int (nI (k))), (3, .int (nI (i)))]) hx hb dX2_narrow_18 hl (by decide) rfl (fun ls hl => ?_)
  suffices loop_20 : ∀ (n_20 : Nat) (i2 : Nat) (u : Nat) (v : Int32) (z : Int32) (H : Heap) (locs : List Loc) (ls : Array Slot), q - i2 < n_20 → (i2 ≤ q - 1) → (u ≤ i2) → (u = lnT (wyO sp k) (wyO sp k i) i2) → (v = lnS (wyO sp k) (wyO sp k i) lo i2) → (z = lnS (wyO sp k) (wyO sp k i) hg i2) → va_P D vwCl [(h0, .inr (2, [.int b0, .int b1])), (q1, .inr (1, [.int (nI (P)), .ref be, .ref bl, .ref bu, .ref bo, .ref br, .ref bk, .ref bw, .ref btt, .ref bss])), (bl, .inl (cI, 100, .inl lo)), (bu, .inl (cI, 100, .inl hg)), (bo, .inl (cI, 100, .inl d)), (bw, .inr (3, [.int (nI (cn)), .ref bn, .ref bp])), (bn, .inl (cI, 8, .inl ln)), (bp, .inl (cI, 48, .inl sp)), (btt, .inl (cI, 8, .inl to9)), (bss, .inl (cI, 8, .inl sl))] H → va_D A [(h0, .inr (2, [.int b0, .int b1])), (q1, .inr (1, [.int (nI (P)), .ref be, .ref bl, .ref bu, .ref bo, .ref br, .ref bk, .ref bw, .ref btt, .ref bss])), (bl, .inl (cI, 100, .inl lo)), (bu, .inl (cI, 100, .inl hg)), (bo, .inl (cI, 100, .inl d)), (bw, .inr (3, [.int (nI (cn)), .ref bn, .ref bp])), (bn, .inl (cI, 8, .inl ln)), (bp, .inl (cI, 48, .inl sp)), (btt, .inl (cI, 8, .inl to9)), (bss, .inl (cI, 8, .inl sl))] → va_S A s.heap H locs → lv_has ls 10 [(8, .int (nI (i2))), (7, .int z), (6, .int v), (5, .int (nI (u))), (4, .int (nI (wyO sp k i))), (0, .ref h0), (1, .ref q1), (2, .int (nI (k))), (3, .int (nI (i)))] → W p l e ({ frames := 2, cells := 0, slots := 0, locals := 44 }) s m ([.ref h0, .ref q1, .int (nI (k)), .int (nI (i))] : List Value).toArray below meth c H locs 0 0 (MQ below (XQi (fun (r : Int32) (u : Int32 × (Nat → Int32) × (Nat → Int32)) => match u with | (b9, l2, u2) => ((r = 1 ∧ (nwOk (wyO sp k) (q - 1) i (to9 k) (sl k) (lo, hg, b1)) ∧ (nwS (wyO sp k) (q - 1) i (to9 k) (sl k) (lo, hg, b1) = (l2, u2, b9))) ∨ (r = 0 ∧ (¬ nwOk (wyO sp k) (q - 1) i (to9 k) (sl k) (lo, hg, b1)) ∧ (((lo, hg, b1) : LSr) = (l2, u2, b9))))) D (fun (u : Int32 × (Nat → Int32) × (Nat → Int32)) => match u with | (b9, l2, u2) => [(h0, .inr (2, [.int b0, .int b9])), (q1, .inr (1, [.int (nI (P)), .ref be, .ref bl, .ref bu, .ref bo, .ref br, .ref bk, .ref bw, .ref btt, .ref bss])), (bl, .inl (cI, 100, .inl l2)), (bu, .inl (cI, 100, .inl u2)), (bo, .inl (cI, 100, .inl d)), (bw, .inr (3, [.int (nI (cn)), .ref bn, .ref bp])), (bn, .inl (cI, 8, .inl ln)), (bp, .inl (cI, 48, .inl sp)), (btt, .inl (cI, 8, .inl to9)), (bss, .inl (cI, 8, .inl sl))]) A) ([.ref h0, .ref q1, .int (nI (k)), .int (nI (i))] : List Value).toArray s 0 0 A) (F0 m 20 ls []) by
    exact loop_20 _ 0 0 0 0 _ _ _ (Nat.lt_succ_self _) (by omega) (by omega) rfl rfl rfl hP hD hS (lv_sub hl [0, 1, 2, 3, 4, 5, 6, 7, 8] rfl)
  intro n_20
  induction n_20 with
  | zero =>
    intro i2 u v z H locs ls hm_20
    exact absurd hm_20 (Nat.not_lt_zero _)
  | succ n_20 ih_20 =>
    intro i2 u v z H locs ls hm_20 hi2 hub hT8 hS8 hZ8 hP hD hS hl
    refine lv_iload hx hb dX2_narrow_20 (lv_at hl 0 rfl) ?_
    refine lv_aload_n hx hb dX2_narrow_22 rfl (lv_at hl 6 rfl) ?_
    refine xg hF kf_X2_17 hK hP 1 rfl rfl dX2_narrow_23 ?_
    refine xg hF kf_X2_32 hK hP 5 rfl rfl dX2_narrow_26 ?_
    refine lv_iload_n hx hb dX2_narrow_29 rfl (lv_at hl 7 rfl) ?_
    refine va_iald hx hb hK hP 6 0 rfl rfl (vp_in_nI (show k < 8 by omega) (by decide)) dX2_narrow_30 ?_
    refine xl_i (y := ln k) (congrArg ln (nI_clamp (show k < 2 ^ 31 by omega))) ?_
    refine xl_i (y := nI (q)) eq0 ?_
    refine lv_iconst (v := 1) hx hb dX2_narrow_31 (by decide) ?_
    refine lv_isub hx hb dX2_narrow_32 ?_
    refine xl_i (y := nI (q - 1)) (pk_sub (show 1 ≤ q by omega)) ?_
    refine lv_icmp_ge (tgt := 88) hx hb dX2_narrow_33 (by decide) (fun c_3 => ?_) (fun c_3 => ?_)
    · skip
      have nc_3 : q - 1 ≤ i2 := xn_le (a := (q - 1)) (b := i2) (by omega) (by omega) c_3
      have hT9 : lnT (wyO sp k) (wyO sp k i) (q - 1) = u := (congrArg (lnT (wyO sp k) (wyO sp k i)) (show q - 1 = i2 by omega)).trans hT8.symm
      have hS9 : lnS (wyO sp k) (wyO sp k i) lo (q - 1) = v := (congrArg (lnS (wyO sp k) (wyO sp k i) lo) (show q - 1 = i2 by omega)).trans hS8.symm
      have hZ9 : lnS (wyO sp k) (wyO sp k i) hg (q - 1) = z := (congrArg (lnS (wyO sp k) (wyO sp k i) hg) (show q - 1 = i2 by omega)).trans hZ8.symm
      have hT1 : 1 ≤ u := by rw [← hT9]; exact lnT_pos (i := i) (by omega) rfl
      refine lv_iload hx hb dX2_narrow_88 (lv_at hl 3 rfl) ?_
      refine lv_iconst (v := 1) hx hb dX2_narrow_90 (by decide) ?_
      refine lv_icmp_le (tgt := 96) hx hb dX2_narrow_91 (by decide) (fun c_4 => ?_) (fun c_4 => ?_)
      · skip
        have nc_4 : u ≤ 1 := xn_le (a := u) (b := 1) (by omega) (by omega) c_4
        refine lv_aload_n hx hb dX2_narrow_96 rfl (lv_at hl 6 rfl) ?_
        refine xg hF kf_X2_58 hK hP 1 rfl rfl dX2_narrow_97 ?_
        refine lv_iload hx hb dX2_narrow_100 (lv_at hl 4 rfl) ?_
        refine va_iald hx hb hK hP 3 0 rfl rfl (vp_in_nI (show wyO sp k i < 100 by omega) (by decide)) dX2_narrow_102 ?_
        refine xl_i (y := hg (wyO sp k i)) (congrArg hg (nI_clamp (show wyO sp k i < 2 ^ 31 by omega))) ?_
        refine lv_aload_n hx hb dX2_narrow_103 rfl (lv_at hl 6 rfl) ?_
        refine xg hF kf_X2_61 hK hP 1 rfl rfl dX2_narrow_104 ?_
        refine lv_iload_n hx hb dX2_narrow_107 rfl (lv_at hl 7 rfl) ?_
        refine va_iald hx hb hK hP 8 0 rfl rfl (vp_in_nI (show k < 8 by omega) (by decide)) dX2_narrow_108 ?_
        refine xl_i (y := to9 k) (congrArg to9 (nI_clamp (show k < 2 ^ 31 by omega))) ?_
        refine lv_aload_n hx hb dX2_narrow_109 rfl (lv_at hl 6 rfl) ?_
        refine xg hF kf_X2_64 hK hP 1 rfl rfl dX2_narrow_110 ?_
        refine lv_iload_n hx hb dX2_narrow_113 rfl (lv_at hl 7 rfl) ?_
        refine va_iald hx hb hK hP 9 0 rfl rfl (vp_in_nI (show k < 8 by omega) (by decide)) dX2_narrow_114 ?_
        refine xl_i (y := sl k) (congrArg sl (nI_clamp (show k < 2 ^ 31 by omega))) ?_
        refine lv_iadd hx hb dX2_narrow_115 ?_
        refine lv_topi (fun x_5 ex_5 => ?_)
        refine lv_iload hx hb dX2_narrow_116 (lv_at hl 2 rfl) ?_
        refine lv_isub hx hb dX2_narrow_118 ?_
        refine lv_topi (fun x_6 ex_6 => ?_)
        refine va_mmin hx hb (hml.trans hl.1.symm) hown (hu _ uw236) (hu _ uw137) (hu _ uw92) (hu _ uw138) (Nat.le_of_ble_eq_true rfl) (Nat.le_of_ble_eq_true rfl) (Nat.le_of_ble_eq_true rfl) (Nat.le_of_ble_eq_true rfl) dX2_narrow_119 ?_
        refine lv_topi (fun x_7 ex_7 => ?_)
        have hX9 : x_7 = lnX (wyO sp k) (q - 1) i (to9 k) (sl k) lo hg := by rw [ex_7, ex_6, ex_5, ← hS9]; rfl
        refine lv_istore (lv' := [(8, .int x_7), (7, .int z), (6, .int v), (5, .int (nI (u))), (4, .int (nI (wyO sp k i))), (0, .ref h0), (1, .ref q1), (2, .int (nI (k))), (3, .int (nI (i)))]) hx hb dX2_narrow_122 hl (by decide) rfl (fun ls hl => ?_)
        refine lv_aload_n hx hb dX2_narrow_124 rfl (lv_at hl 6 rfl) ?_
        refine xg hF kf_X2_55 hK hP 1 rfl rfl dX2_narrow_125 ?_
        refine lv_iload hx hb dX2_narrow_128 (lv_at hl 4 rfl) ?_
        refine va_iald hx hb hK hP 2 0 rfl rfl (vp_in_nI (show wyO sp k i < 100 by omega) (by decide)) dX2_narrow_130 ?_
        refine xl_i (y := lo (wyO sp k i)) (congrArg lo (nI_clamp (show wyO sp k i < 2 ^ 31 by omega))) ?_
        refine lv_aload_n hx hb dX2_narrow_131 rfl (lv_at hl 6 rfl) ?_
        refine xg hF kf_X2_61 hK hP 1 rfl rfl dX2_narrow_132 ?_
        refine lv_iload_n hx hb dX2_narrow_135 rfl (lv_at hl 7 rfl) ?_
        refine va_iald hx hb hK hP 8 0 rfl rfl (vp_in_nI (show k < 8 by omega) (by decide)) dX2_narrow_136 ?_
        refine xl_i (y := to9 k) (congrArg to9 (nI_clamp (show k < 2 ^ 31 by omega))) ?_
        refine lv_aload_n hx hb dX2_narrow_137 rfl (lv_at hl 6 rfl) ?_
        refine xg hF kf_X2_64 hK hP 1 rfl rfl dX2_narrow_138 ?_
        refine lv_iload_n hx hb dX2_narrow_141 rfl (lv_at hl 7 rfl) ?_
        refine va_iald hx hb hK hP 9 0 rfl rfl (vp_in_nI (show k < 8 by omega) (by decide)) dX2_narrow_142 ?_
        refine xl_i (y := sl k) (congrArg sl (nI_clamp (show k < 2 ^ 31 by omega))) ?_
        refine lv_isub hx hb dX2_narrow_143 ?_
        refine lv_topi (fun x_8 ex_8 => ?_)
        refine lv_iload hx hb dX2_narrow_144 (lv_at hl 1 rfl) ?_
        refine lv_isub hx hb dX2_narrow_146 ?_
        refine lv_topi (fun x_9 ex_9 => ?_)
        refine va_mmax hx hb (hml.trans hl.1.symm) hown (hu _ uw238) (hu _ uw91) (hu _ uw92) (hu _ uw93) (Nat.le_of_ble_eq_true rfl) (Nat.le_of_ble_eq_true rfl) (Nat.le_of_ble_eq_true rfl) (Nat.le_of_ble_eq_true rfl) dX2_narrow_147 ?_
        refine lv_topi (fun x_10 ex_10 => ?_)
        have hY9 : x_10 = lnY (wyO sp k) (q - 1) i (to9 k) (sl k) lo hg := by rw [ex_10, ex_9, ex_8, ← hZ9]; rfl
        refine lv_istore (lv' := [(9, .int x_10), (8, .int x_7), (7, .int z), (6, .int v), (5, .int (nI (u))), (4, .int (nI (wyO sp k i))), (0, .ref h0), (1, .ref q1), (2, .int (nI (k))), (3, .int (nI (i)))]) hx hb dX2_narrow_150 hl (by decide) rfl (fun ls hl => ?_)
        refine lv_iload hx hb dX2_narrow_152 (lv_at hl 0 rfl) ?_
        refine lv_iload hx hb dX2_narrow_154 (lv_at hl 1 rfl) ?_
        refine xc_SNr hF (c_X8_areEnds l D cI cJ cZ cS ta sa sv H.size x_10 x_7 ) kn_X2_75.1 kn_X2_75.2.1 kn_X2_75.2.2 ⟨rfl, rfl, Nat.le_of_ble_eq_true rfl, Nat.le_of_ble_eq_true rfl⟩ ⟨Nat.le_of_ble_eq_true rfl, Nat.le_of_ble_eq_true rfl⟩ hK hN hZ hP hD hS hA [] rfl rfl rfl hl.1 rfl (Nat.le_of_ble_eq_true rfl) dX2_narrow_156 (fun r_11 hw_r_11 => ?_)
        rcases hw_r_11 with ⟨rfl, h_12⟩ | ⟨rfl, h_13⟩
        · skip
          refine lv_if_ne (tgt := 164) hx hb dX2_narrow_159 (by decide) (fun c_14 => ?_) (fun c_14 => absurd c_14 (by decide))
          refine lv_iload hx hb dX2_narrow_164 (lv_at hl 0 rfl) ?_
          refine lv_aload_n hx hb dX2_narrow_166 rfl (lv_at hl 7 rfl) ?_
          refine xg hF kf_X2_55 hK hP 1 rfl rfl dX2_narrow_167 ?_
          refine lv_iload hx hb dX2_narrow_170 (lv_at hl 5 rfl) ?_
          refine va_iald hx hb hK hP 2 0 rfl rfl (vp_in_nI (show wyO sp k i < 100 by omega) (by decide)) dX2_narrow_172 ?_
          refine xl_i (y := lo (wyO sp k i)) (congrArg lo (nI_clamp (show wyO sp k i < 2 ^ 31 by omega))) ?_
          refine lv_icmp_ne (tgt := 188) hx hb dX2_narrow_173 (by decide) (fun c_15 => ?_) (fun c_15 => ?_)
          · skip
            refine lv_aload_n hx hb dX2_narrow_188 rfl (lv_at hl 7 rfl) ?_
            refine xg hF kf_X2_55 hK hP 1 rfl rfl dX2_narrow_189 ?_
            refine lv_iload hx hb dX2_narrow_192 (lv_at hl 5 rfl) ?_
            refine lv_iload hx hb dX2_narrow_194 (lv_at hl 0 rfl) ?_
            refine va_iast hx hb hK hP hD hS 2 0 rfl rfl (vp_in_nI (show wyO sp k i < 100 by omega) (by decide)) dX2_narrow_196 (fun H locs hP hD hS => ?_)
            rw [nI_clamp (show wyO sp k i < 2 ^ 31 by omega)] at hP hD
            obtain ⟨f_16, ef_16⟩ : ∃ g, g = upd lo (wyO sp k i) x_10 := ⟨_, rfl⟩
            rw [← ef_16] at hP hD
            have hP : va_P D vwCl [(h0, .inr (2, [.int b0, .int b1])), (q1, .inr (1, [.int (nI (P)), .ref be, .ref bl, .ref bu, .ref bo, .ref br, .ref bk, .ref bw, .ref btt, .ref bss])), (bl, .inl (cI, 100, .inl f_16)), (bu, .inl (cI, 100, .inl hg)), (bo, .inl (cI, 100, .inl d)), (bw, .inr (3, [.int (nI (cn)), .ref bn, .ref bp])), (bn, .inl (cI, 8, .inl ln)), (bp, .inl (cI, 48, .inl sp)), (btt, .inl (cI, 8, .inl to9)), (bss, .inl (cI, 8, .inl sl))] H := hP
            have hD : va_D A [(h0, .inr (2, [.int b0, .int b1])), (q1, .inr (1, [.int (nI (P)), .ref be, .ref bl, .ref bu, .ref bo, .ref br, .ref bk, .ref bw, .ref btt, .ref bss])), (bl, .inl (cI, 100, .inl f_16)), (bu, .inl (cI, 100, .inl hg)), (bo, .inl (cI, 100, .inl d)), (bw, .inr (3, [.int (nI (cn)), .ref bn, .ref bp])), (bn, .inl (cI, 8, .inl ln)), (bp, .inl (cI, 48, .inl sp)), (btt, .inl (cI, 8, .inl to9)), (bss, .inl (cI, 8, .inl sl))] := hD
            refine lv_aload_n hx hb dX2_narrow_197 rfl (lv_at hl 7 rfl) ?_
            refine xg hF kf_X2_58 hK hP 1 rfl rfl dX2_narrow_198 ?_
            refine lv_iload hx hb dX2_narrow_201 (lv_at hl 5 rfl) ?_
            refine lv_iload hx hb dX2_narrow_203 (lv_at hl 1 rfl) ?_
            refine va_iast hx hb hK hP hD hS 3 0 rfl rfl (vp_in_nI (show wyO sp k i < 100 by omega) (by decide)) dX2_narrow_205 (fun H locs hP hD hS => ?_)
            rw [nI_clamp (show wyO sp k i < 2 ^ 31 by omega)] at hP hD
            obtain ⟨f_17, ef_17⟩ : ∃ g, g = upd hg (wyO sp k i) x_7 := ⟨_, rfl⟩
            rw [← ef_17] at hP hD
            have hP : va_P D vwCl [(h0, .inr (2, [.int b0, .int b1])), (q1, .inr (1, [.int (nI (P)), .ref be, .ref bl, .ref bu, .ref bo, .ref br, .ref bk, .ref bw, .ref btt, .ref bss])), (bl, .inl (cI, 100, .inl f_16)), (bu, .inl (cI, 100, .inl f_17)), (bo, .inl (cI, 100, .inl d)), (bw, .inr (3, [.int (nI (cn)), .ref bn, .ref bp])), (bn, .inl (cI, 8, .inl ln)), (bp, .inl (cI, 48, .inl sp)), (btt, .inl (cI, 8, .inl to9)), (bss, .inl (cI, 8, .inl sl))] H := hP
            have hD : va_D A [(h0, .inr (2, [.int b0, .int b1])), (q1, .inr (1, [.int (nI (P)), .ref be, .ref bl, .ref bu, .ref bo, .ref br, .ref bk, .ref bw, .ref btt, .ref bss])), (bl, .inl (cI, 100, .inl f_16)), (bu, .inl (cI, 100, .inl f_17)), (bo, .inl (cI, 100, .inl d)), (bw, .inr (3, [.int (nI (cn)), .ref bn, .ref bp])), (bn, .inl (cI, 8, .inl ln)), (bp, .inl (cI, 48, .inl sp)), (btt, .inl (cI, 8, .inl to9)), (bss, .inl (cI, 8, .inl sl))] := hD
            refine lv_aload_n hx hb dX2_narrow_206 rfl (lv_at hl 6 rfl) ?_
            refine lv_iconst (v := 1) hx hb dX2_narrow_207 (by decide) ?_
            refine xp hF kf_X2_13 tyX2_ok nmX2 hK hP hD hS 0 rfl rfl rfl rfl (Nat.le_of_ble_eq_true rfl) dX2_narrow_208 (fun H locs hP hD hS => ?_)
            have hP : va_P D vwCl [(h0, .inr (2, [.int b0, .int 1])), (q1, .inr (1, [.int (nI (P)), .ref be, .ref bl, .ref bu, .ref bo, .ref br, .ref bk, .ref bw, .ref btt, .ref bss])), (bl, .inl (cI, 100, .inl f_16)), (bu, .inl (cI, 100, .inl f_17)), (bo, .inl (cI, 100, .inl d)), (bw, .inr (3, [.int (nI (cn)), .ref bn, .ref bp])), (bn, .inl (cI, 8, .inl ln)), (bp, .inl (cI, 48, .inl sp)), (btt, .inl (cI, 8, .inl to9)), (bss, .inl (cI, 8, .inl sl))] H := hP
            have hD : va_D A [(h0, .inr (2, [.int b0, .int 1])), (q1, .inr (1, [.int (nI (P)), .ref be, .ref bl, .ref bu, .ref bo, .ref br, .ref bk, .ref bw, .ref btt, .ref bss])), (bl, .inl (cI, 100, .inl f_16)), (bu, .inl (cI, 100, .inl f_17)), (bo, .inl (cI, 100, .inl d)), (bw, .inr (3, [.int (nI (cn)), .ref bn, .ref bp])), (bn, .inl (cI, 8, .inl ln)), (bp, .inl (cI, 48, .inl sp)), (btt, .inl (cI, 8, .inl to9)), (bss, .inl (cI, 8, .inl sl))] := hD
            refine lv_iconst (v := 1) hx hb dX2_narrow_211 (by decide) ?_
            exact W.zret (v := 1) hx hb hr rfl (fun t ht hW => ⟨⟨1, (1, f_16, f_17), rfl, Or.inl ⟨rfl, nw_ok hY9 hX9 h_12, (nwS_2 (by rw [hT9]; omega) hY9 hX9 (fun g9 => c_15 g9.1)).trans (by rw [ef_16, ef_17])⟩, by rw [ht]; exact hP.sub [0, 1, 2, 3, 4, 5, 6, 7, 8, 9] rfl, hD.sub [0, 1, 2, 3, 4, 5, 6, 7, 8, 9] (by decide +kernel) rfl⟩, hS.F ht⟩) hS.2.2 dX2_narrow_212 hlk
          · skip
            refine lv_iload hx hb dX2_narrow_176 (lv_at hl 1 rfl) ?_
            refine lv_aload_n hx hb dX2_narrow_178 rfl (lv_at hl 7 rfl) ?_
            refine xg hF kf_X2_58 hK hP 1 rfl rfl dX2_narrow_179 ?_
            refine lv_iload hx hb dX2_narrow_182 (lv_at hl 5 rfl) ?_
            refine va_iald hx hb hK hP 3 0 rfl rfl (vp_in_nI (show wyO sp k i < 100 by omega) (by decide)) dX2_narrow_184 ?_
            refine xl_i (y := hg (wyO sp k i)) (congrArg hg (nI_clamp (show wyO sp k i < 2 ^ 31 by omega))) ?_
            refine lv_icmp_eq (tgt := 211) hx hb dX2_narrow_185 (by decide) (fun c_18 => ?_) (fun c_18 => ?_)
            · skip
              refine lv_iconst (v := 1) hx hb dX2_narrow_211 (by decide) ?_
              exact W.zret (v := 1) hx hb hr rfl (fun t ht hW => ⟨⟨1, (b1, lo, hg), rfl, Or.inl ⟨rfl, nw_ok hY9 hX9 h_12, nwS_1 (by rw [hT9]; omega) hY9 hX9 c_15 c_18⟩, by rw [ht]; exact hP.sub [0, 1, 2, 3, 4, 5, 6, 7, 8, 9] rfl, hD.sub [0, 1, 2, 3, 4, 5, 6, 7, 8, 9] (by decide +kernel) rfl⟩, hS.F ht⟩) hS.2.2 dX2_narrow_212 hlk
            · skip
              refine lv_aload_n hx hb dX2_narrow_188 rfl (lv_at hl 7 rfl) ?_
              refine xg hF kf_X2_55 hK hP 1 rfl rfl dX2_narrow_189 ?_
              refine lv_iload hx hb dX2_narrow_192 (lv_at hl 5 rfl) ?_
              refine lv_iload hx hb dX2_narrow_194 (lv_at hl 0 rfl) ?_
              refine va_iast hx hb hK hP hD hS 2 0 rfl rfl (vp_in_nI (show wyO sp k i < 100 by omega) (by decide)) dX2_narrow_196 (fun H locs hP hD hS => ?_)
              rw [nI_clamp (show wyO sp k i < 2 ^ 31 by omega)] at hP hD
              obtain ⟨f_19, ef_19⟩ : ∃ g, g = upd lo (wyO sp k i) x_10 := ⟨_, rfl⟩
              rw [← ef_19] at hP hD
              have hP : va_P D vwCl [(h0, .inr (2, [.int b0, .int b1])), (q1, .inr (1, [.int (nI (P)), .ref be, .ref bl, .ref bu, .ref bo, .ref br, .ref bk, .ref bw, .ref btt, .ref bss])), (bl, .inl (cI, 100, .inl f_19)), (bu, .inl (cI, 100, .inl hg)), (bo, .inl (cI, 100, .inl d)), (bw, .inr (3, [.int (nI (cn)), .ref bn, .ref bp])), (bn, .inl (cI, 8, .inl ln)), (bp, .inl (cI, 48, .inl sp)), (btt, .inl (cI, 8, .inl to9)), (bss, .inl (cI, 8, .inl sl))] H := hP
              have hD : va_D A [(h0, .inr (2, [.int b0, .int b1])), (q1, .inr (1, [.int (nI (P)), .ref be, .ref bl, .ref bu, .ref bo, .ref br, .ref bk, .ref bw, .ref btt, .ref bss])), (bl, .inl (cI, 100, .inl f_19)), (bu, .inl (cI, 100, .inl hg)), (bo, .inl (cI, 100, .inl d)), (bw, .inr (3, [.int (nI (cn)), .ref bn, .ref bp])), (bn, .inl (cI, 8, .inl ln)), (bp, .inl (cI, 48, .inl sp)), (btt, .inl (cI, 8, .inl to9)), (bss, .inl (cI, 8, .inl sl))] := hD
              refine lv_aload_n hx hb dX2_narrow_197 rfl (lv_at hl 7 rfl) ?_
              refine xg hF kf_X2_58 hK hP 1 rfl rfl dX2_narrow_198 ?_
              refine lv_iload hx hb dX2_narrow_201 (lv_at hl 5 rfl) ?_
              refine lv_iload hx hb dX2_narrow_203 (lv_at hl 1 rfl) ?_
              refine va_iast hx hb hK hP hD hS 3 0 rfl rfl (vp_in_nI (show wyO sp k i < 100 by omega) (by decide)) dX2_narrow_205 (fun H locs hP hD hS => ?_)
              rw [nI_clamp (show wyO sp k i < 2 ^ 31 by omega)] at hP hD
              obtain ⟨f_20, ef_20⟩ : ∃ g, g = upd hg (wyO sp k i) x_7 := ⟨_, rfl⟩
              rw [← ef_20] at hP hD
              have hP : va_P D vwCl [(h0, .inr (2, [.int b0, .int b1])), (q1, .inr (1, [.int (nI (P)), .ref be, .ref bl, .ref bu, .ref bo, .ref br, .ref bk, .ref bw, .ref btt, .ref bss])), (bl, .inl (cI, 100, .inl f_19)), (bu, .inl (cI, 100, .inl f_20)), (bo, .inl (cI, 100, .inl d)), (bw, .inr (3, [.int (nI (cn)), .ref bn, .ref bp])), (bn, .inl (cI, 8, .inl ln)), (bp, .inl (cI, 48, .inl sp)), (btt, .inl (cI, 8, .inl to9)), (bss, .inl (cI, 8, .inl sl))] H := hP
              have hD : va_D A [(h0, .inr (2, [.int b0, .int b1])), (q1, .inr (1, [.int (nI (P)), .ref be, .ref bl, .ref bu, .ref bo, .ref br, .ref bk, .ref bw, .ref btt, .ref bss])), (bl, .inl (cI, 100, .inl f_19)), (bu, .inl (cI, 100, .inl f_20)), (bo, .inl (cI, 100, .inl d)), (bw, .inr (3, [.int (nI (cn)), .ref bn, .ref bp])), (bn, .inl (cI, 8, .inl ln)), (bp, .inl (cI, 48, .inl sp)), (btt, .inl (cI, 8, .inl to9)), (bss, .inl (cI, 8, .inl sl))] := hD
              refine lv_aload_n hx hb dX2_narrow_206 rfl (lv_at hl 6 rfl) ?_
              refine lv_iconst (v := 1) hx hb dX2_narrow_207 (by decide) ?_
              refine xp hF kf_X2_13 tyX2_ok nmX2 hK hP hD hS 0 rfl rfl rfl rfl (Nat.le_of_ble_eq_true rfl) dX2_narrow_208 (fun H locs hP hD hS => ?_)
              have hP : va_P D vwCl [(h0, .inr (2, [.int b0, .int 1])), (q1, .inr (1, [.int (nI (P)), .ref be, .ref bl, .ref bu, .ref bo, .ref br, .ref bk, .ref bw, .ref btt, .ref bss])), (bl, .inl (cI, 100, .inl f_19)), (bu, .inl (cI, 100, .inl f_20)), (bo, .inl (cI, 100, .inl d)), (bw, .inr (3, [.int (nI (cn)), .ref bn, .ref bp])), (bn, .inl (cI, 8, .inl ln)), (bp, .inl (cI, 48, .inl sp)), (btt, .inl (cI, 8, .inl to9)), (bss, .inl (cI, 8, .inl sl))] H := hP
              have hD : va_D A [(h0, .inr (2, [.int b0, .int 1])), (q1, .inr (1, [.int (nI (P)), .ref be, .ref bl, .ref bu, .ref bo, .ref br, .ref bk, .ref bw, .ref btt, .ref bss])), (bl, .inl (cI, 100, .inl f_19)), (bu, .inl (cI, 100, .inl f_20)), (bo, .inl (cI, 100, .inl d)), (bw, .inr (3, [.int (nI (cn)), .ref bn, .ref bp])), (bn, .inl (cI, 8, .inl ln)), (bp, .inl (cI, 48, .inl sp)), (btt, .inl (cI, 8, .inl to9)), (bss, .inl (cI, 8, .inl sl))] := hD
              refine lv_iconst (v := 1) hx hb dX2_narrow_211 (by decide) ?_
              exact W.zret (v := 1) hx hb hr rfl (fun t ht hW => ⟨⟨1, (1, f_19, f_20), rfl, Or.inl ⟨rfl, nw_ok hY9 hX9 h_12, (nwS_2 (by rw [hT9]; omega) hY9 hX9 (fun g9 => c_18 g9.2)).trans (by rw [ef_19, ef_20])⟩, by rw [ht]; exact hP.sub [0, 1, 2, 3, 4, 5, 6, 7, 8, 9] rfl, hD.sub [0, 1, 2, 3, 4, 5, 6, 7, 8, 9] (by decide +kernel) rfl⟩, hS.F ht⟩) hS.2.2 dX2_narrow_212 hlk
        · skip
          refine lv_if_ne (tgt := 164) hx hb dX2_narrow_159 (by decide) (fun c_21 => absurd (by decide) c_21) (fun c_21 => ?_)
          refine lv_iconst (v := 0) hx hb dX2_narrow_162 (by decide) ?_
          exact W.zret (v := 0) hx hb hr rfl (fun t ht hW => ⟨⟨0, (b1, lo, hg), rfl, Or.inr ⟨rfl, nw_no (by rw [hT9]; omega) hY9 hX9 h_13, rfl⟩, by rw [ht]; exact hP.sub [0, 1, 2, 3, 4, 5, 6, 7, 8, 9] rfl, hD.sub [0, 1, 2, 3, 4, 5, 6, 7, 8, 9] (by decide +kernel) rfl⟩, hS.F ht⟩) hS.2.2 dX2_narrow_163 hlk
      · skip
        have nc_4 : 1 < u := xn_nle (a := u) (b := 1) (by omega) (by omega) c_4
        refine lv_iconst (v := 1) hx hb dX2_narrow_94 (by decide) ?_
        exact W.zret (v := 1) hx hb hr rfl (fun t ht hW => ⟨⟨1, (b1, lo, hg), rfl, Or.inl ⟨rfl, (nwS_0 (by rw [hT9]; omega)).2, (nwS_0 (by rw [hT9]; omega)).1⟩, by rw [ht]; exact hP.sub [0, 1, 2, 3, 4, 5, 6, 7, 8, 9] rfl, hD.sub [0, 1, 2, 3, 4, 5, 6, 7, 8, 9] (by decide +kernel) rfl⟩, hS.F ht⟩) hS.2.2 dX2_narrow_95 hlk
    · skip
      have nc_3 : i2 < q - 1 := xn_nle (a := (q - 1)) (b := i2) (by omega) (by omega) c_3
      refine lv_aload_n hx hb dX2_narrow_36 rfl (lv_at hl 6 rfl) ?_
      refine lv_iload_n hx hb dX2_narrow_37 rfl (lv_at hl 7 rfl) ?_
      refine lv_iload hx hb dX2_narrow_38 (lv_at hl 0 rfl) ?_
      refine xc_Sr hF (c_X2_wayOn l D cI cJ cZ cS ta sa sv H.size q1 be bl bu bo br bk bw btt bss P bn bp cn sp k i2 (by omega) (by omega) hsp) ks_X2_51 ⟨rfl, rfl, Nat.le_of_ble_eq_true rfl, Nat.le_of_ble_eq_true rfl⟩ ⟨Nat.le_of_ble_eq_true rfl, Nat.le_of_ble_eq_true rfl⟩ hK hN hZ hP hD hS hA [1, 5, 7] rfl rfl rfl hl.1 rfl (Nat.le_of_ble_eq_true rfl) dX2_narrow_40 (fun r_22 hw_r_22 => ?_)
      obtain ⟨rfl, h_23⟩ := hw_r_22
      refine lv_istore (lv' := [(9, .int (nI (wyO sp k i2))), (8, .int (nI (i2))), (7, .int z), (6, .int v), (5, .int (nI (u))), (4, .int (nI (wyO sp k i))), (0, .ref h0), (1, .ref q1), (2, .int (nI (k))), (3, .int (nI (i)))]) hx hb dX2_narrow_43 hl (by decide) rfl (fun ls hl => ?_)
      refine lv_iload hx hb dX2_narrow_45 (lv_at hl 0 rfl) ?_
      refine lv_iload hx hb dX2_narrow_47 (lv_at hl 5 rfl) ?_
      refine lv_icmp_ne (tgt := 58) hx hb dX2_narrow_49 (by decide) (fun c_24 => ?_) (fun c_24 => ?_)
      · skip
        have nc_24 : wyO sp k i2 ≠ wyO sp k i := xn_ne (a := (wyO sp k i2)) (b := (wyO sp k i)) (by omega) (by omega) c_24
        refine lv_iload hx hb dX2_narrow_58 (lv_at hl 3 rfl) ?_
        refine lv_aload_n hx hb dX2_narrow_60 rfl (lv_at hl 7 rfl) ?_
        refine xg hF kf_X2_55 hK hP 1 rfl rfl dX2_narrow_61 ?_
        refine lv_iload hx hb dX2_narrow_64 (lv_at hl 0 rfl) ?_
        refine va_iald hx hb hK hP 2 0 rfl rfl (vp_in_nI (show wyO sp k i2 < 100 by omega) (by decide)) dX2_narrow_66 ?_
        refine xl_i (y := lo (wyO sp k i2)) (congrArg lo (nI_clamp (show wyO sp k i2 < 2 ^ 31 by omega))) ?_
        refine lv_iadd hx hb dX2_narrow_67 ?_
        refine lv_topi (fun x_25 ex_25 => ?_)
        refine lv_istore (lv' := [(6, .int x_25), (9, .int (nI (wyO sp k i2))), (8, .int (nI (i2))), (7, .int z), (5, .int (nI (u))), (4, .int (nI (wyO sp k i))), (0, .ref h0), (1, .ref q1), (2, .int (nI (k))), (3, .int (nI (i)))]) hx hb dX2_narrow_68 hl (by decide) rfl (fun ls hl => ?_)
        refine lv_iload hx hb dX2_narrow_70 (lv_at hl 3 rfl) ?_
        refine lv_aload_n hx hb dX2_narrow_72 rfl (lv_at hl 7 rfl) ?_
        refine xg hF kf_X2_58 hK hP 1 rfl rfl dX2_narrow_73 ?_
        refine lv_iload hx hb dX2_narrow_76 (lv_at hl 1 rfl) ?_
        refine va_iald hx hb hK hP 3 0 rfl rfl (vp_in_nI (show wyO sp k i2 < 100 by omega) (by decide)) dX2_narrow_78 ?_
        refine xl_i (y := hg (wyO sp k i2)) (congrArg hg (nI_clamp (show wyO sp k i2 < 2 ^ 31 by omega))) ?_
        refine lv_iadd hx hb dX2_narrow_79 ?_
        refine lv_topi (fun x_26 ex_26 => ?_)
        refine lv_istore (lv' := [(7, .int x_26), (6, .int x_25), (9, .int (nI (wyO sp k i2))), (8, .int (nI (i2))), (5, .int (nI (u))), (4, .int (nI (wyO sp k i))), (0, .ref h0), (1, .ref q1), (2, .int (nI (k))), (3, .int (nI (i)))]) hx hb dX2_narrow_80 hl (by decide) rfl (fun ls hl => ?_)
        refine lv_iinc (v := nI (i2 + 1)) (lv' := [(8, .int (nI (i2 + 1))), (7, .int x_26), (6, .int x_25), (9, .int (nI (wyO sp k i2))), (5, .int (nI (u))), (4, .int (nI (wyO sp k i))), (0, .ref h0), (1, .ref q1), (2, .int (nI (k))), (3, .int (nI (i)))]) hx hb dX2_narrow_82 hl (k := 3) rfl (nI_1 (i2)) (by decide) rfl (fun ls hl => ?_)
        refine lv_goto (tgt := 20) hx hb dX2_narrow_85 (by decide) ?_
        exact ih_20 (i2 + 1) u x_25 x_26 _ _ _ (by omega) (by omega) (by omega) (hT8.trans (lnT_n nc_24).symm) (by rw [ex_25, hS8]; exact (lnS_n nc_24).symm) (by rw [ex_26, hZ8]; exact (lnS_n nc_24).symm) (hP.sub [0, 1, 2, 3, 4, 5, 6, 7, 8, 9] rfl) (hD.sub [0, 1, 2, 3, 4, 5, 6, 7, 8, 9] (by decide +kernel) rfl) hS (lv_sub hl [0, 1, 2, 4, 5, 6, 7, 8, 9] rfl)
      · skip
        have nc_24 : wyO sp k i2 = wyO sp k i := xn_eq (a := (wyO sp k i2)) (b := (wyO sp k i)) (by omega) (by omega) c_24
        refine lv_iinc (v := nI (u + 1)) (lv' := [(5, .int (nI (u + 1))), (9, .int (nI (wyO sp k i2))), (8, .int (nI (i2))), (7, .int z), (6, .int v), (4, .int (nI (wyO sp k i))), (0, .ref h0), (1, .ref q1), (2, .int (nI (k))), (3, .int (nI (i)))]) hx hb dX2_narrow_52 hl (k := 4) rfl (nI_1 (u)) (by decide) rfl (fun ls hl => ?_)
        refine lv_goto (tgt := 82) hx hb dX2_narrow_55 (by decide) ?_
        refine lv_iinc (v := nI (i2 + 1)) (lv' := [(8, .int (nI (i2 + 1))), (5, .int (nI (u + 1))), (9, .int (nI (wyO sp k i2))), (7, .int z), (6, .int v), (4, .int (nI (wyO sp k i))), (0, .ref h0), (1, .ref q1), (2, .int (nI (k))), (3, .int (nI (i)))]) hx hb dX2_narrow_82 hl (k := 2) rfl (nI_1 (i2)) (by decide) rfl (fun ls hl => ?_)
        refine lv_goto (tgt := 20) hx hb dX2_narrow_85 (by decide) ?_
        exact ih_20 (i2 + 1) (u + 1) v z _ _ _ (by omega) (by omega) (by omega) ((congrArg (· + 1) hT8).trans (lnT_y nc_24).symm) (hS8.trans (lnS_y nc_24).symm) (hZ8.trans (lnS_y nc_24).symm) (hP.sub [0, 1, 2, 3, 4, 5, 6, 7, 8, 9] rfl) (hD.sub [0, 1, 2, 3, 4, 5, 6, 7, 8, 9] (by decide +kernel) rfl) hS (lv_sub hl [0, 3, 4, 1, 5, 6, 7, 8, 9] rfl)
set_option maxHeartbeats 4000000 in
set_option maxRecDepth 100000 in
theorem c_X2_isBelieved (l : Launch) (D : va_G) (cI cJ cZ cS : ClassId) (ta : Nat) (sa sv : Nat → Nat) (sz : Nat) (h0 : Nat) (b0 : Int32) (b1 : Int32) (q1 : Nat) (be : Nat) (bl : Nat) (bu : Nat) (bo : Nat) (br : Nat) (bk : Nat) (bw : Nat) (btt : Nat) (bss : Nat) (P : Nat) (bn : Nat) (bp : Nat) (cn : Nat) (lo : Nat → Int32) (hg : Nat → Int32) (d : Nat → Int32) (ln : Nat → Int32) (sp : Nat → Int32) (to9 : Nat → Int32) (sl : Nat → Int32) (k : Nat) (q : Nat) (hk : k < 8) (hq1 : 1 ≤ q) (hq : q < 7) (eq0 : ln k = nI q) (hln : BA 8 7 ln) (hsp : BA 48 10 sp) : Met l yX2_isBelieved (Cond.code yX2_isBelieved cX2_isBelieved 5 (some .boolean) :: wsU) ({ frames := 3, cells := 0, slots := 0, locals := 73 }) (va_Pc [.ref h0, .ref q1, .int (nI (k))] (XW D (xT cI cJ cZ cS) ta sa sv [(h0, .inr (2, [.int b0, .int b1])), (q1, .inr (1, [.int (nI (P)), .ref be, .ref bl, .ref bu, .ref bo, .ref br, .ref bk, .ref bw, .ref btt, .ref bss])), (bl, .inl (cI, 100, .inl lo)), (bu, .inl (cI, 100, .inl hg)), (bo, .inl (cI, 100, .inl d)), (bw, .inr (3, [.int (nI (cn)), .ref bn, .ref bp])), (bn, .inl (cI, 8, .inl ln)), (bp, .inl (cI, 48, .inl sp)), (btt, .inl (cI, 8, .inl to9)), (bss, .inl (cI, 8, .inl sl))] sz)) (XQi (fun (r : Int32) (u : Int32 × (Nat → Int32) × (Nat → Int32)) => match u with | (b9, l2, u2) => ((r = 1 ∧ (bel d ln sp to9 sl k (lo, hg, b1) = (1, l2, u2, b9))) ∨ (r = 0 ∧ (bel d ln sp to9 sl k (lo, hg, b1) = (0, l2, u2, b9))))) D (fun (u : Int32 × (Nat → Int32) × (Nat → Int32)) => match u with | (b9, l2, u2) => [(h0, .inr (2, [.int b0, .int b9])), (q1, .inr (1, [.int (nI (P)), .ref be, .ref bl, .ref bu, .ref bo, .ref br, .ref bk, .ref bw, .ref btt, .ref bss])), (bl, .inl (cI, 100, .inl l2)), (bu, .inl (cI, 100, .inl u2)), (bo, .inl (cI, 100, .inl d)), (bw, .inr (3, [.int (nI (cn)), .ref bn, .ref bp])), (bn, .inl (cI, 8, .inl ln)), (bp, .inl (cI, 48, .inl sp)), (btt, .inl (cI, 8, .inl to9)), (bss, .inl (cI, 8, .inl sl))]) (va_A [(h0, .inr (2, [.int b0, .int b1])), (q1, .inr (1, [.int (nI (P)), .ref be, .ref bl, .ref bu, .ref bo, .ref br, .ref bk, .ref bw, .ref btt, .ref bss])), (bl, .inl (cI, 100, .inl lo)), (bu, .inl (cI, 100, .inl hg)), (bo, .inl (cI, 100, .inl d)), (bw, .inr (3, [.int (nI (cn)), .ref bn, .ref bp])), (bn, .inl (cI, 8, .inl ln)), (bp, .inl (cI, 48, .inl sp)), (btt, .inl (cI, 8, .inl to9)), (bss, .inl (cI, 8, .inl sl))] sz)) 0 0 (va_A [(h0, .inr (2, [.int b0, .int b1])), (q1, .inr (1, [.int (nI (P)), .ref be, .ref bl, .ref bu, .ref bo, .ref br, .ref bk, .ref bw, .ref btt, .ref bss])), (bl, .inl (cI, 100, .inl lo)), (bu, .inl (cI, 100, .inl hg)), (bo, .inl (cI, 100, .inl d)), (bw, .inr (3, [.int (nI (cn)), .ref bn, .ref bp])), (bn, .inl (cI, 8, .inl ln)), (bp, .inl (cI, 48, .inl sp)), (btt, .inl (cI, 8, .inl to9)), (bss, .inl (cI, 8, .inl sl))] sz) := by
  refine xh (QA := fun A => XQi (fun (r : Int32) (u : Int32 × (Nat → Int32) × (Nat → Int32)) => match u with | (b9, l2, u2) => ((r = 1 ∧ (bel d ln sp to9 sl k (lo, hg, b1) = (1, l2, u2, b9))) ∨ (r = 0 ∧ (bel d ln sp to9 sl k (lo, hg, b1) = (0, l2, u2, b9))))) D (fun (u : Int32 × (Nat → Int32) × (Nat → Int32)) => match u with | (b9, l2, u2) => [(h0, .inr (2, [.int b0, .int b9])), (q1, .inr (1, [.int (nI (P)), .ref be, .ref bl, .ref bu, .ref bo, .ref br, .ref bk, .ref bw, .ref btt, .ref bss])), (bl, .inl (cI, 100, .inl l2)), (bu, .inl (cI, 100, .inl u2)), (bo, .inl (cI, 100, .inl d)), (bw, .inr (3, [.int (nI (cn)), .ref bn, .ref bp])), (bn, .inl (cI, 8, .inl ln)), (bp, .inl (cI, 48, .inl sp)), (btt, .inl (cI, 8, .inl to9)), (bss, .inl (cI, 8, .inl sl))]) A) (fr := fun A => A) (by decide) (Nat.le_of_ble_eq_true rfl) ?_
  intro p e s m below meth c ls A hF hr hlk hin hsz hP hK hD hN hZ hA hS hl
  have hF : CallFix p m c cX2_isBelieved 5 s _ _ RX2 := hF
  have hx := hF.1
  have hb := hF.2.1
  have hml := hF.2.2.1
  have hown := hF.2.2.2.1
  have hu : ∀ w ∈ wsU, w.before _ s = true := fun w h => hF.2.2.2.2 w (List.mem_cons_of_mem _ h)
  have hl : lv_has ls 5 [(0, .ref h0), (1, .ref q1), (2, .int (nI (k)))] := hl
  refine lv_aload_n hx hb dX2_isBelieved_0 rfl (lv_at hl 1 rfl) ?_
  refine xg hF kf_X2_17 hK hP 1 rfl rfl dX2_isBelieved_1 ?_
  refine xg hF kf_X2_32 hK hP 5 rfl rfl dX2_isBelieved_4 ?_
  refine lv_iload_n hx hb dX2_isBelieved_7 rfl (lv_at hl 2 rfl) ?_
  refine va_iald hx hb hK hP 6 0 rfl rfl (vp_in_nI (show k < 8 by omega) (by decide)) dX2_isBelieved_8 ?_
  refine xl_i (y := ln k) (congrArg ln (nI_clamp (show k < 2 ^ 31 by omega))) ?_
  refine xl_i (y := nI (q)) eq0 ?_
  refine lv_iconst (v := 1) hx hb dX2_isBelieved_9 (by decide) ?_
  refine lv_isub hx hb dX2_isBelieved_10 ?_
  refine xl_i (y := nI (q - 1)) (pk_sub (show 1 ≤ q by omega)) ?_
  refine lv_istore_n (lv' := [(3, .int (nI (q - 1))), (0, .ref h0), (1, .ref q1), (2, .int (nI (k)))]) hx hb dX2_isBelieved_11 rfl hl (by decide) rfl (fun ls hl => ?_)
  refine lv_iconst (v := 0) hx hb dX2_isBelieved_12 (by decide) ?_
  refine lv_istore (lv' := [(4, .int 0), (3, .int (nI (q - 1))), (0, .ref h0), (1, .ref q1), (2, .int (nI (k)))]) hx hb dX2_isBelieved_13 hl (by decide) rfl (fun ls hl => ?_)
  suffices loop_15 : ∀ (n_15 : Nat) (i : Nat) (H : Heap) (locs : List Loc) (ls : Array Slot), q - i < n_15 → (i ≤ q - 1) → (∀ j, j < i → ¬ d (wyO sp k j) = 0) → va_P D vwCl [(h0, .inr (2, [.int b0, .int b1])), (q1, .inr (1, [.int (nI (P)), .ref be, .ref bl, .ref bu, .ref bo, .ref br, .ref bk, .ref bw, .ref btt, .ref bss])), (bl, .inl (cI, 100, .inl lo)), (bu, .inl (cI, 100, .inl hg)), (bo, .inl (cI, 100, .inl d)), (bw, .inr (3, [.int (nI (cn)), .ref bn, .ref bp])), (bn, .inl (cI, 8, .inl ln)), (bp, .inl (cI, 48, .inl sp)), (btt, .inl (cI, 8, .inl to9)), (bss, .inl (cI, 8, .inl sl))] H → va_D A [(h0, .inr (2, [.int b0, .int b1])), (q1, .inr (1, [.int (nI (P)), .ref be, .ref bl, .ref bu, .ref bo, .ref br, .ref bk, .ref bw, .ref btt, .ref bss])), (bl, .inl (cI, 100, .inl lo)), (bu, .inl (cI, 100, .inl hg)), (bo, .inl (cI, 100, .inl d)), (bw, .inr (3, [.int (nI (cn)), .ref bn, .ref bp])), (bn, .inl (cI, 8, .inl ln)), (bp, .inl (cI, 48, .inl sp)), (btt, .inl (cI, 8, .inl to9)), (bss, .inl (cI, 8, .inl sl))] → va_S A s.heap H locs → lv_has ls 5 [(4, .int (nI (i))), (3, .int (nI (q - 1))), (0, .ref h0), (1, .ref q1), (2, .int (nI (k)))] → W p l e ({ frames := 3, cells := 0, slots := 0, locals := 73 }) s m ([.ref h0, .ref q1, .int (nI (k))] : List Value).toArray below meth c H locs 0 0 (MQ below (XQi (fun (r : Int32) (u : Int32 × (Nat → Int32) × (Nat → Int32)) => match u with | (b9, l2, u2) => ((r = 1 ∧ (bel d ln sp to9 sl k (lo, hg, b1) = (1, l2, u2, b9))) ∨ (r = 0 ∧ (bel d ln sp to9 sl k (lo, hg, b1) = (0, l2, u2, b9))))) D (fun (u : Int32 × (Nat → Int32) × (Nat → Int32)) => match u with | (b9, l2, u2) => [(h0, .inr (2, [.int b0, .int b9])), (q1, .inr (1, [.int (nI (P)), .ref be, .ref bl, .ref bu, .ref bo, .ref br, .ref bk, .ref bw, .ref btt, .ref bss])), (bl, .inl (cI, 100, .inl l2)), (bu, .inl (cI, 100, .inl u2)), (bo, .inl (cI, 100, .inl d)), (bw, .inr (3, [.int (nI (cn)), .ref bn, .ref bp])), (bn, .inl (cI, 8, .inl ln)), (bp, .inl (cI, 48, .inl sp)), (btt, .inl (cI, 8, .inl to9)), (bss, .inl (cI, 8, .inl sl))]) A) ([.ref h0, .ref q1, .int (nI (k))] : List Value).toArray s 0 0 A) (F0 m 15 ls []) by
    exact loop_15 _ 0 _ _ _ (Nat.lt_succ_self _) (by omega) (fun j hj => absurd hj (Nat.not_lt_zero j)) hP hD hS (lv_sub hl [0, 1, 2, 3, 4] rfl)
  intro n_15
  induction n_15 with
  | zero =>
    intro i H locs ls hm_15
    exact absurd hm_15 (Nat.not_lt_zero _)
  | succ n_15 ih_15 =>
    intro i H locs ls hm_15 hi hA8 hP hD hS hl
    refine lv_iload hx hb dX2_isBelieved_15 (lv_at hl 0 rfl) ?_
    refine lv_iload_n hx hb dX2_isBelieved_17 rfl (lv_at hl 1 rfl) ?_
    refine lv_icmp_ge (tgt := 58) hx hb dX2_isBelieved_18 (by decide) (fun c_1 => ?_) (fun c_1 => ?_)
    · skip
      have nc_1 : q - 1 ≤ i := xn_le (a := (q - 1)) (b := i) (by omega) (by omega) c_1
      have hA9 : ∀ j, j < q - 1 → ¬ d (wyO sp k j) = 0 := fun j hj => hA8 j (by omega)
      refine lv_iconst (v := 0) hx hb dX2_isBelieved_58 (by decide) ?_
      refine lv_istore (lv' := [(4, .int 0), (3, .int (nI (q - 1))), (0, .ref h0), (1, .ref q1), (2, .int (nI (k)))]) hx hb dX2_isBelieved_59 hl (by decide) rfl (fun ls hl => ?_)
      suffices loop_61 : ∀ (n_61 : Nat) (i2 : Nat) (b8 : Int32) (l9 : Nat → Int32) (u9 : Nat → Int32) (H : Heap) (locs : List Loc) (ls : Array Slot), q - i2 < n_61 → (i2 ≤ q - 1) → (blv (wyO sp k) (q - 1) (to9 k) (sl k) (q - 1) 0 (lo, hg, b1) = blv (wyO sp k) (q - 1) (to9 k) (sl k) (q - 1 - i2) i2 (l9, u9, b8)) → va_P D vwCl [(h0, .inr (2, [.int b0, .int b8])), (q1, .inr (1, [.int (nI (P)), .ref be, .ref bl, .ref bu, .ref bo, .ref br, .ref bk, .ref bw, .ref btt, .ref bss])), (bl, .inl (cI, 100, .inl l9)), (bu, .inl (cI, 100, .inl u9)), (bo, .inl (cI, 100, .inl d)), (bw, .inr (3, [.int (nI (cn)), .ref bn, .ref bp])), (bn, .inl (cI, 8, .inl ln)), (bp, .inl (cI, 48, .inl sp)), (btt, .inl (cI, 8, .inl to9)), (bss, .inl (cI, 8, .inl sl))] H → va_D A [(h0, .inr (2, [.int b0, .int b8])), (q1, .inr (1, [.int (nI (P)), .ref be, .ref bl, .ref bu, .ref bo, .ref br, .ref bk, .ref bw, .ref btt, .ref bss])), (bl, .inl (cI, 100, .inl l9)), (bu, .inl (cI, 100, .inl u9)), (bo, .inl (cI, 100, .inl d)), (bw, .inr (3, [.int (nI (cn)), .ref bn, .ref bp])), (bn, .inl (cI, 8, .inl ln)), (bp, .inl (cI, 48, .inl sp)), (btt, .inl (cI, 8, .inl to9)), (bss, .inl (cI, 8, .inl sl))] → va_S A s.heap H locs → lv_has ls 5 [(4, .int (nI (i2))), (3, .int (nI (q - 1))), (0, .ref h0), (1, .ref q1), (2, .int (nI (k)))] → W p l e ({ frames := 3, cells := 0, slots := 0, locals := 73 }) s m ([.ref h0, .ref q1, .int (nI (k))] : List Value).toArray below meth c H locs 0 0 (MQ below (XQi (fun (r : Int32) (u : Int32 × (Nat → Int32) × (Nat → Int32)) => match u with | (b9, l2, u2) => ((r = 1 ∧ (bel d ln sp to9 sl k (lo, hg, b1) = (1, l2, u2, b9))) ∨ (r = 0 ∧ (bel d ln sp to9 sl k (lo, hg, b1) = (0, l2, u2, b9))))) D (fun (u : Int32 × (Nat → Int32) × (Nat → Int32)) => match u with | (b9, l2, u2) => [(h0, .inr (2, [.int b0, .int b9])), (q1, .inr (1, [.int (nI (P)), .ref be, .ref bl, .ref bu, .ref bo, .ref br, .ref bk, .ref bw, .ref btt, .ref bss])), (bl, .inl (cI, 100, .inl l2)), (bu, .inl (cI, 100, .inl u2)), (bo, .inl (cI, 100, .inl d)), (bw, .inr (3, [.int (nI (cn)), .ref bn, .ref bp])), (bn, .inl (cI, 8, .inl ln)), (bp, .inl (cI, 48, .inl sp)), (btt, .inl (cI, 8, .inl to9)), (bss, .inl (cI, 8, .inl sl))]) A) ([.ref h0, .ref q1, .int (nI (k))] : List Value).toArray s 0 0 A) (F0 m 61 ls []) by
        exact loop_61 _ 0 b1 lo hg _ _ _ (Nat.lt_succ_self _) (by omega) rfl hP hD hS (lv_sub hl [0, 1, 2, 3, 4] rfl)
      intro n_61
      induction n_61 with
      | zero =>
        intro i2 b8 l9 u9 H locs ls hm_61
        exact absurd hm_61 (Nat.not_lt_zero _)
      | succ n_61 ih_61 =>
        intro i2 b8 l9 u9 H locs ls hm_61 hi2 hB8 hP hD hS hl
        refine lv_iload hx hb dX2_isBelieved_61 (lv_at hl 0 rfl) ?_
        refine lv_iload_n hx hb dX2_isBelieved_63 rfl (lv_at hl 1 rfl) ?_
        refine lv_icmp_ge (tgt := 86) hx hb dX2_isBelieved_64 (by decide) (fun c_2 => ?_) (fun c_2 => ?_)
        · skip
          have nc_2 : q - 1 ≤ i2 := xn_le (a := (q - 1)) (b := i2) (by omega) (by omega) c_2
          refine lv_iconst (v := 1) hx hb dX2_isBelieved_86 (by decide) ?_
          exact W.zret (v := 1) hx hb hr rfl (fun t ht hW => ⟨⟨1, (b8, l9, u9), rfl, Or.inl ⟨rfl, bel_y eq0 hq hA9 (hB8.trans (blv_end (by omega)))⟩, by rw [ht]; exact hP.sub [0, 1, 2, 3, 4, 5, 6, 7, 8, 9] rfl, hD.sub [0, 1, 2, 3, 4, 5, 6, 7, 8, 9] (by decide +kernel) rfl⟩, hS.F ht⟩) hS.2.2 dX2_isBelieved_87 hlk
        · skip
          have nc_2 : i2 < q - 1 := xn_nle (a := (q - 1)) (b := i2) (by omega) (by omega) c_2
          refine lv_aload_n hx hb dX2_isBelieved_67 rfl (lv_at hl 2 rfl) ?_
          refine lv_aload_n hx hb dX2_isBelieved_68 rfl (lv_at hl 3 rfl) ?_
          refine lv_iload_n hx hb dX2_isBelieved_69 rfl (lv_at hl 4 rfl) ?_
          refine lv_iload hx hb dX2_isBelieved_70 (lv_at hl 0 rfl) ?_
          refine xc_Vi (wr := []) hF (c_X2_narrow l D cI cJ cZ cS ta sa sv H.size h0 b0 b8 q1 be bl bu bo br bk bw btt bss P bn bp cn l9 u9 d ln sp to9 sl k q i2 (by omega) (by omega) (by omega) (by omega) hln hsp (by omega)) kv_X2_44 ⟨rfl, rfl, Nat.le_of_ble_eq_true rfl, Nat.le_of_ble_eq_true rfl⟩ ⟨Nat.le_of_ble_eq_true rfl, Nat.le_of_ble_eq_true rfl⟩ hK hN hZ hP hD hS hA [0, 1, 2, 3, 4, 5, 6, 7, 8, 9] [] rfl rfl (by decide +kernel) rfl (by decide +kernel) 0 rfl rfl rfl rfl hl.1 rfl (Nat.le_of_ble_eq_true rfl) dX2_isBelieved_72 (fun r_3 u_r_3 H locs hw_r_3 hP hD hS => ?_)
          obtain ⟨b9_4, l2_5, u2_6⟩ := u_r_3
          try dsimp only at hw_r_3
          have hP : va_P D vwCl [(h0, .inr (2, [.int b0, .int b9_4])), (q1, .inr (1, [.int (nI (P)), .ref be, .ref bl, .ref bu, .ref bo, .ref br, .ref bk, .ref bw, .ref btt, .ref bss])), (bl, .inl (cI, 100, .inl l2_5)), (bu, .inl (cI, 100, .inl u2_6)), (bo, .inl (cI, 100, .inl d)), (bw, .inr (3, [.int (nI (cn)), .ref bn, .ref bp])), (bn, .inl (cI, 8, .inl ln)), (bp, .inl (cI, 48, .inl sp)), (btt, .inl (cI, 8, .inl to9)), (bss, .inl (cI, 8, .inl sl))] H := hP
          have hD : va_D A [(h0, .inr (2, [.int b0, .int b9_4])), (q1, .inr (1, [.int (nI (P)), .ref be, .ref bl, .ref bu, .ref bo, .ref br, .ref bk, .ref bw, .ref btt, .ref bss])), (bl, .inl (cI, 100, .inl l2_5)), (bu, .inl (cI, 100, .inl u2_6)), (bo, .inl (cI, 100, .inl d)), (bw, .inr (3, [.int (nI (cn)), .ref bn, .ref bp])), (bn, .inl (cI, 8, .inl ln)), (bp, .inl (cI, 48, .inl sp)), (btt, .inl (cI, 8, .inl to9)), (bss, .inl (cI, 8, .inl sl))] := hD
          rcases hw_r_3 with ⟨rfl, h_7, h_8⟩ | ⟨rfl, h_9, h_10⟩
          · skip
            refine lv_if_ne (tgt := 80) hx hb dX2_isBelieved_75 (by decide) (fun c_11 => ?_) (fun c_11 => absurd c_11 (by decide))
            refine lv_iinc (v := nI (i2 + 1)) (lv' := [(4, .int (nI (i2 + 1))), (3, .int (nI (q - 1))), (0, .ref h0), (1, .ref q1), (2, .int (nI (k)))]) hx hb dX2_isBelieved_80 hl (k := 0) rfl (nI_1 (i2)) (by decide) rfl (fun ls hl => ?_)
            refine lv_goto (tgt := 61) hx hb dX2_isBelieved_83 (by decide) ?_
            exact ih_61 (i2 + 1) b9_4 l2_5 u2_6 _ _ _ (by omega) (by omega) (hB8.trans (blv_go (by omega) h_7 h_8)) (hP.sub [0, 1, 2, 3, 4, 5, 6, 7, 8, 9] rfl) (hD.sub [0, 1, 2, 3, 4, 5, 6, 7, 8, 9] (by decide +kernel) rfl) hS (lv_sub hl [0, 1, 2, 3, 4] rfl)
          · skip
            refine lv_if_ne (tgt := 80) hx hb dX2_isBelieved_75 (by decide) (fun c_12 => absurd (by decide) c_12) (fun c_12 => ?_)
            refine lv_iconst (v := 0) hx hb dX2_isBelieved_78 (by decide) ?_
            exact W.zret (v := 0) hx hb hr rfl (fun t ht hW => ⟨⟨0, (b9_4, l2_5, u2_6), rfl, Or.inr ⟨rfl, bel_y eq0 hq (by assumption) (hB8.trans ((blv_no (by omega) h_9).trans (congrArg (Prod.mk 0) h_10)))⟩, by rw [ht]; exact hP.sub [0, 1, 2, 3, 4, 5, 6, 7, 8, 9] rfl, hD.sub [0, 1, 2, 3, 4, 5, 6, 7, 8, 9] (by decide +kernel) rfl⟩, hS.F ht⟩) hS.2.2 dX2_isBelieved_79 hlk
    · skip
      have nc_1 : i < q - 1 := xn_nle (a := (q - 1)) (b := i) (by omega) (by omega) c_1
      refine lv_aload_n hx hb dX2_isBelieved_21 rfl (lv_at hl 3 rfl) ?_
      refine lv_aload_n hx hb dX2_isBelieved_22 rfl (lv_at hl 3 rfl) ?_
      refine xg hF kf_X2_17 hK hP 1 rfl rfl dX2_isBelieved_23 ?_
      refine lv_iload_n hx hb dX2_isBelieved_26 rfl (lv_at hl 4 rfl) ?_
      refine lv_iload hx hb dX2_isBelieved_27 (lv_at hl 0 rfl) ?_
      refine xc_Vr hF (c_X3_stop l D cI cJ cZ cS ta sa sv H.size bw bn bp cn k i sp (by omega) (by omega) hsp) kv_X2_36 ⟨rfl, rfl, Nat.le_of_ble_eq_true rfl, Nat.le_of_ble_eq_true rfl⟩ ⟨Nat.le_of_ble_eq_true rfl, Nat.le_of_ble_eq_true rfl⟩ hK hN hZ hP hD hS hA [5, 7] rfl rfl 0 rfl rfl rfl rfl hl.1 rfl (Nat.le_of_ble_eq_true rfl) dX2_isBelieved_29 (fun r_13 hw_r_13 => ?_)
      obtain ⟨q_14, rfl, h_15, h_16⟩ := hw_r_13
      refine lv_aload_n hx hb dX2_isBelieved_32 rfl (lv_at hl 3 rfl) ?_
      refine xg hF kf_X2_17 hK hP 1 rfl rfl dX2_isBelieved_33 ?_
      refine lv_iload_n hx hb dX2_isBelieved_36 rfl (lv_at hl 4 rfl) ?_
      refine lv_iload hx hb dX2_isBelieved_37 (lv_at hl 0 rfl) ?_
      refine lv_iconst (v := 1) hx hb dX2_isBelieved_39 (by decide) ?_
      refine lv_iadd hx hb dX2_isBelieved_40 ?_
      refine xl_i (y := nI (i + 1)) (nI_add i 1) ?_
      refine xc_Vr hF (c_X3_stop l D cI cJ cZ cS ta sa sv H.size bw bn bp cn k (i + 1) sp (by omega) (by omega) hsp) kv_X2_36 ⟨rfl, rfl, Nat.le_of_ble_eq_true rfl, Nat.le_of_ble_eq_true rfl⟩ ⟨Nat.le_of_ble_eq_true rfl, Nat.le_of_ble_eq_true rfl⟩ hK hN hZ hP hD hS hA [5, 7] rfl rfl 0 rfl rfl rfl rfl hl.1 rfl (Nat.le_of_ble_eq_true rfl) dX2_isBelieved_41 (fun r_17 hw_r_17 => ?_)
      obtain ⟨q_18, rfl, h_19, h_20⟩ := hw_r_17
      refine xc_Vr hF (c_X1_isThere l D cI cJ cZ cS ta sa sv H.size q1 be bl bu bo br bk bw btt bss P q_14 q_18 d (by omega) (by omega)) kv_X2_40 ⟨rfl, rfl, Nat.le_of_ble_eq_true rfl, Nat.le_of_ble_eq_true rfl⟩ ⟨Nat.le_of_ble_eq_true rfl, Nat.le_of_ble_eq_true rfl⟩ hK hN hZ hP hD hS hA [1, 4] rfl rfl 0 rfl rfl rfl rfl hl.1 rfl (Nat.le_of_ble_eq_true rfl) dX2_isBelieved_44 (fun r_21 hw_r_21 => ?_)
      rcases hw_r_21 with ⟨rfl, h_22⟩ | ⟨rfl, h_23⟩
      · skip
        refine lv_if_ne (tgt := 52) hx hb dX2_isBelieved_47 (by decide) (fun c_24 => ?_) (fun c_24 => absurd c_24 (by decide))
        refine lv_iinc (v := nI (i + 1)) (lv' := [(4, .int (nI (i + 1))), (3, .int (nI (q - 1))), (0, .ref h0), (1, .ref q1), (2, .int (nI (k)))]) hx hb dX2_isBelieved_52 hl (k := 0) rfl (nI_1 (i)) (by decide) rfl (fun ls hl => ?_)
        refine lv_goto (tgt := 15) hx hb dX2_isBelieved_55 (by decide) ?_
        exact ih_15 (i + 1) _ _ _ (by omega) (by omega) (bel_all hA8 (by rw [wyO_eq h_16 h_20 (by omega) (by omega)]; exact h_22)) (hP.sub [0, 1, 2, 3, 4, 5, 6, 7, 8, 9] rfl) (hD.sub [0, 1, 2, 3, 4, 5, 6, 7, 8, 9] (by decide +kernel) rfl) hS (lv_sub hl [0, 1, 2, 3, 4] rfl)
      · skip
        refine lv_if_ne (tgt := 52) hx hb dX2_isBelieved_47 (by decide) (fun c_25 => absurd (by decide) c_25) (fun c_25 => ?_)
        refine lv_iconst (v := 0) hx hb dX2_isBelieved_50 (by decide) ?_
        exact W.zret (v := 0) hx hb hr rfl (fun t ht hW => ⟨⟨0, (b1, lo, hg), rfl, Or.inr ⟨rfl, bel_n eq0 hq (i := i) (by omega) (by rw [wyO_eq h_16 h_20 (by omega) (by omega)]; exact h_23)⟩, by rw [ht]; exact hP.sub [0, 1, 2, 3, 4, 5, 6, 7, 8, 9] rfl, hD.sub [0, 1, 2, 3, 4, 5, 6, 7, 8, 9] (by decide +kernel) rfl⟩, hS.F ht⟩) hS.2.2 dX2_isBelieved_51 hlk
set_option maxHeartbeats 4000000 in
set_option maxRecDepth 100000 in
theorem c_X2_learnIn (l : Launch) (D : va_G) (cI cJ cZ cS : ClassId) (ta : Nat) (sa sv : Nat → Nat) (sz : Nat) (h0 : Nat) (b0 : Int32) (b1 : Int32) (q1 : Nat) (be : Nat) (bl : Nat) (bu : Nat) (bo : Nat) (br : Nat) (bk : Nat) (bw : Nat) (btt : Nat) (bss : Nat) (P : Nat) (bn : Nat) (bp : Nat) (cn : Nat) (lo : Nat → Int32) (hg : Nat → Int32) (d : Nat → Int32) (ln : Nat → Int32) (sp : Nat → Int32) (to9 : Nat → Int32) (sl : Nat → Int32) (hc : cn ≤ 8) (hLL : ∀ r, r < cn → ∃ q, 1 ≤ q ∧ q < 7 ∧ ln r = nI q) (hln : BA 8 7 ln) (hsp : BA 48 10 sp) : Met l yX2_learnIn (Cond.code yX2_learnIn cX2_learnIn 5 (some .int) :: wsU) ({ frames := 4, cells := 0, slots := 0, locals := 97 }) (va_Pc [.ref h0, .ref q1] (XW D (xT cI cJ cZ cS) ta sa sv [(h0, .inr (2, [.int b0, .int b1])), (q1, .inr (1, [.int (nI (P)), .ref be, .ref bl, .ref bu, .ref bo, .ref br, .ref bk, .ref bw, .ref btt, .ref bss])), (bl, .inl (cI, 100, .inl lo)), (bu, .inl (cI, 100, .inl hg)), (bo, .inl (cI, 100, .inl d)), (bw, .inr (3, [.int (nI (cn)), .ref bn, .ref bp])), (bn, .inl (cI, 8, .inl ln)), (bp, .inl (cI, 48, .inl sp)), (btt, .inl (cI, 8, .inl to9)), (bss, .inl (cI, 8, .inl sl))] sz)) (XQi (fun (r : Int32) (u : Int32 × Int32 × (Nat → Int32) × (Nat → Int32)) => match u with | (b8, b9, l2, u2) => ((r = nI ((lrn d ln sp to9 sl cn 50 0 lo hg 0).1))) ∧ (l2 = (lrn d ln sp to9 sl cn 50 0 lo hg 0).2.1) ∧ (u2 = (lrn d ln sp to9 sl cn 50 0 lo hg 0).2.2.1) ∧ (b8 = (lrn d ln sp to9 sl cn 50 0 lo hg 0).2.2.2)) D (fun (u : Int32 × Int32 × (Nat → Int32) × (Nat → Int32)) => match u with | (b8, b9, l2, u2) => [(h0, .inr (2, [.int b8, .int b9])), (q1, .inr (1, [.int (nI (P)), .ref be, .ref bl, .ref bu, .ref bo, .ref br, .ref bk, .ref bw, .ref btt, .ref bss])), (bl, .inl (cI, 100, .inl l2)), (bu, .inl (cI, 100, .inl u2)), (bo, .inl (cI, 100, .inl d)), (bw, .inr (3, [.int (nI (cn)), .ref bn, .ref bp])), (bn, .inl (cI, 8, .inl ln)), (bp, .inl (cI, 48, .inl sp)), (btt, .inl (cI, 8, .inl to9)), (bss, .inl (cI, 8, .inl sl))]) (va_A [(h0, .inr (2, [.int b0, .int b1])), (q1, .inr (1, [.int (nI (P)), .ref be, .ref bl, .ref bu, .ref bo, .ref br, .ref bk, .ref bw, .ref btt, .ref bss])), (bl, .inl (cI, 100, .inl lo)), (bu, .inl (cI, 100, .inl hg)), (bo, .inl (cI, 100, .inl d)), (bw, .inr (3, [.int (nI (cn)), .ref bn, .ref bp])), (bn, .inl (cI, 8, .inl ln)), (bp, .inl (cI, 48, .inl sp)), (btt, .inl (cI, 8, .inl to9)), (bss, .inl (cI, 8, .inl sl))] sz)) 0 0 (va_A [(h0, .inr (2, [.int b0, .int b1])), (q1, .inr (1, [.int (nI (P)), .ref be, .ref bl, .ref bu, .ref bo, .ref br, .ref bk, .ref bw, .ref btt, .ref bss])), (bl, .inl (cI, 100, .inl lo)), (bu, .inl (cI, 100, .inl hg)), (bo, .inl (cI, 100, .inl d)), (bw, .inr (3, [.int (nI (cn)), .ref bn, .ref bp])), (bn, .inl (cI, 8, .inl ln)), (bp, .inl (cI, 48, .inl sp)), (btt, .inl (cI, 8, .inl to9)), (bss, .inl (cI, 8, .inl sl))] sz) := by
  refine xh (QA := fun A => XQi (fun (r : Int32) (u : Int32 × Int32 × (Nat → Int32) × (Nat → Int32)) => match u with | (b8, b9, l2, u2) => ((r = nI ((lrn d ln sp to9 sl cn 50 0 lo hg 0).1))) ∧ (l2 = (lrn d ln sp to9 sl cn 50 0 lo hg 0).2.1) ∧ (u2 = (lrn d ln sp to9 sl cn 50 0 lo hg 0).2.2.1) ∧ (b8 = (lrn d ln sp to9 sl cn 50 0 lo hg 0).2.2.2)) D (fun (u : Int32 × Int32 × (Nat → Int32) × (Nat → Int32)) => match u with | (b8, b9, l2, u2) => [(h0, .inr (2, [.int b8, .int b9])), (q1, .inr (1, [.int (nI (P)), .ref be, .ref bl, .ref bu, .ref bo, .ref br, .ref bk, .ref bw, .ref btt, .ref bss])), (bl, .inl (cI, 100, .inl l2)), (bu, .inl (cI, 100, .inl u2)), (bo, .inl (cI, 100, .inl d)), (bw, .inr (3, [.int (nI (cn)), .ref bn, .ref bp])), (bn, .inl (cI, 8, .inl ln)), (bp, .inl (cI, 48, .inl sp)), (btt, .inl (cI, 8, .inl to9)), (bss, .inl (cI, 8, .inl sl))]) A) (fr := fun A => A) (by decide) (Nat.le_of_ble_eq_true rfl) ?_
  intro p e s m below meth c ls A hF hr hlk hin hsz hP hK hD hN hZ hA hS hl
  have hF : CallFix p m c cX2_learnIn 5 s _ _ RX2 := hF
  have hx := hF.1
  have hb := hF.2.1
  have hml := hF.2.2.1
  have hown := hF.2.2.2.1
  have hu : ∀ w ∈ wsU, w.before _ s = true := fun w h => hF.2.2.2.2 w (List.mem_cons_of_mem _ h)
  have hl : lv_has ls 5 [(0, .ref h0), (1, .ref q1)] := hl
  refine lv_aload_n hx hb dX2_learnIn_0 rfl (lv_at hl 0 rfl) ?_
  refine lv_iconst (v := 0) hx hb dX2_learnIn_1 (by decide) ?_
  refine xp hF kf_X2_7 tyX2_ok nmX2 hK hP hD hS 0 rfl rfl rfl rfl (Nat.le_of_ble_eq_true rfl) dX2_learnIn_2 (fun H locs hP hD hS => ?_)
  have hP : va_P D vwCl [(h0, .inr (2, [.int 0, .int b1])), (q1, .inr (1, [.int (nI (P)), .ref be, .ref bl, .ref bu, .ref bo, .ref br, .ref bk, .ref bw, .ref btt, .ref bss])), (bl, .inl (cI, 100, .inl lo)), (bu, .inl (cI, 100, .inl hg)), (bo, .inl (cI, 100, .inl d)), (bw, .inr (3, [.int (nI (cn)), .ref bn, .ref bp])), (bn, .inl (cI, 8, .inl ln)), (bp, .inl (cI, 48, .inl sp)), (btt, .inl (cI, 8, .inl to9)), (bss, .inl (cI, 8, .inl sl))] H := hP
  have hD : va_D A [(h0, .inr (2, [.int 0, .int b1])), (q1, .inr (1, [.int (nI (P)), .ref be, .ref bl, .ref bu, .ref bo, .ref br, .ref bk, .ref bw, .ref btt, .ref bss])), (bl, .inl (cI, 100, .inl lo)), (bu, .inl (cI, 100, .inl hg)), (bo, .inl (cI, 100, .inl d)), (bw, .inr (3, [.int (nI (cn)), .ref bn, .ref bp])), (bn, .inl (cI, 8, .inl ln)), (bp, .inl (cI, 48, .inl sp)), (btt, .inl (cI, 8, .inl to9)), (bss, .inl (cI, 8, .inl sl))] := hD
  refine lv_iconst (v := 0) hx hb dX2_learnIn_5 (by decide) ?_
  refine lv_istore_n (lv' := [(2, .int 0), (0, .ref h0), (1, .ref q1)]) hx hb dX2_learnIn_6 rfl hl (by decide) rfl (fun ls hl => ?_)
  refine lv_iconst (v := 0) hx hb dX2_learnIn_7 (by decide) ?_
  refine lv_istore_n (lv' := [(3, .int 0), (2, .int 0), (0, .ref h0), (1, .ref q1)]) hx hb dX2_learnIn_8 rfl hl (by decide) rfl (fun ls hl => ?_)
  suffices loop_9 : ∀ (n_9 : Nat) (i : Nat) (c8 : Nat) (v : Int32) (z : Int32) (l9 : Nat → Int32) (u9 : Nat → Int32) (H : Heap) (locs : List Loc) (ls : Array Slot), 50 - i < n_9 → (i ≤ 50) → (c8 ≤ i) → ((lrn d ln sp to9 sl cn 50 0 lo hg 0) = lrn d ln sp to9 sl cn (50 - i) c8 l9 u9 v) → va_P D vwCl [(h0, .inr (2, [.int v, .int z])), (q1, .inr (1, [.int (nI (P)), .ref be, .ref bl, .ref bu, .ref bo, .ref br, .ref bk, .ref bw, .ref btt, .ref bss])), (bl, .inl (cI, 100, .inl l9)), (bu, .inl (cI, 100, .inl u9)), (bo, .inl (cI, 100, .inl d)), (bw, .inr (3, [.int (nI (cn)), .ref bn, .ref bp])), (bn, .inl (cI, 8, .inl ln)), (bp, .inl (cI, 48, .inl sp)), (btt, .inl (cI, 8, .inl to9)), (bss, .inl (cI, 8, .inl sl))] H → va_D A [(h0, .inr (2, [.int v, .int z])), (q1, .inr (1, [.int (nI (P)), .ref be, .ref bl, .ref bu, .ref bo, .ref br, .ref bk, .ref bw, .ref btt, .ref bss])), (bl, .inl (cI, 100, .inl l9)), (bu, .inl (cI, 100, .inl u9)), (bo, .inl (cI, 100, .inl d)), (bw, .inr (3, [.int (nI (cn)), .ref bn, .ref bp])), (bn, .inl (cI, 8, .inl ln)), (bp, .inl (cI, 48, .inl sp)), (btt, .inl (cI, 8, .inl to9)), (bss, .inl (cI, 8, .inl sl))] → va_S A s.heap H locs → lv_has ls 5 [(3, .int (nI (i))), (2, .int (nI (c8))), (0, .ref h0), (1, .ref q1)] → W p l e ({ frames := 4, cells := 0, slots := 0, locals := 97 }) s m ([.ref h0, .ref q1] : List Value).toArray below meth c H locs 0 0 (MQ below (XQi (fun (r : Int32) (u : Int32 × Int32 × (Nat → Int32) × (Nat → Int32)) => match u with | (b8, b9, l2, u2) => ((r = nI ((lrn d ln sp to9 sl cn 50 0 lo hg 0).1))) ∧ (l2 = (lrn d ln sp to9 sl cn 50 0 lo hg 0).2.1) ∧ (u2 = (lrn d ln sp to9 sl cn 50 0 lo hg 0).2.2.1) ∧ (b8 = (lrn d ln sp to9 sl cn 50 0 lo hg 0).2.2.2)) D (fun (u : Int32 × Int32 × (Nat → Int32) × (Nat → Int32)) => match u with | (b8, b9, l2, u2) => [(h0, .inr (2, [.int b8, .int b9])), (q1, .inr (1, [.int (nI (P)), .ref be, .ref bl, .ref bu, .ref bo, .ref br, .ref bk, .ref bw, .ref btt, .ref bss])), (bl, .inl (cI, 100, .inl l2)), (bu, .inl (cI, 100, .inl u2)), (bo, .inl (cI, 100, .inl d)), (bw, .inr (3, [.int (nI (cn)), .ref bn, .ref bp])), (bn, .inl (cI, 8, .inl ln)), (bp, .inl (cI, 48, .inl sp)), (btt, .inl (cI, 8, .inl to9)), (bss, .inl (cI, 8, .inl sl))]) A) ([.ref h0, .ref q1] : List Value).toArray s 0 0 A) (F0 m 9 ls []) by
    exact loop_9 _ 0 0 0 b1 lo hg _ _ _ (Nat.lt_succ_self _) (by omega) (by omega) rfl hP hD hS (lv_sub hl [0, 1, 2, 3] rfl)
  intro n_9
  induction n_9 with
  | zero =>
    intro i c8 v z l9 u9 H locs ls hm_9
    exact absurd hm_9 (Nat.not_lt_zero _)
  | succ n_9 ih_9 =>
    intro i c8 v z l9 u9 H locs ls hm_9 hi hc8 hL8 hP hD hS hl
    refine lv_iload_n hx hb dX2_learnIn_9 rfl (lv_at hl 0 rfl) ?_
    refine lv_bipush (v := 50) hx hb dX2_learnIn_10 (by decide) ?_
    refine lv_icmp_ge (tgt := 82) hx hb dX2_learnIn_12 (by decide) (fun c_1 => ?_) (fun c_1 => ?_)
    · skip
      have nc_1 : 50 ≤ i := xn_le (a := 50) (b := i) (by omega) (by omega) c_1
      refine lv_iload_n hx hb dX2_learnIn_82 rfl (lv_at hl 1 rfl) ?_
      have hE9 : (lrn d ln sp to9 sl cn 50 0 lo hg 0) = (c8, l9, u9, v) := hL8.trans (lrn_end (by omega))
      exact W.iret (v := nI (c8)) hx hb hr (fun t ht hW => ⟨⟨nI (c8), (v, z, l9, u9), rfl, ⟨(by rw [hE9]), (by rw [hE9]), (by rw [hE9]), (by rw [hE9])⟩, by rw [ht]; exact hP.sub [0, 1, 2, 3, 4, 5, 6, 7, 8, 9] rfl, hD.sub [0, 1, 2, 3, 4, 5, 6, 7, 8, 9] (by decide +kernel) rfl⟩, hS.F ht⟩) hS.2.2 dX2_learnIn_83 hlk
    · skip
      have nc_1 : i < 50 := xn_nle (a := 50) (b := i) (by omega) (by omega) c_1
      refine lv_aload_n hx hb dX2_learnIn_15 rfl (lv_at hl 2 rfl) ?_
      refine lv_iconst (v := 0) hx hb dX2_learnIn_16 (by decide) ?_
      refine xp hF kf_X2_13 tyX2_ok nmX2 hK hP hD hS 0 rfl rfl rfl rfl (Nat.le_of_ble_eq_true rfl) dX2_learnIn_17 (fun H locs hP hD hS => ?_)
      have hP : va_P D vwCl [(h0, .inr (2, [.int v, .int 0])), (q1, .inr (1, [.int (nI (P)), .ref be, .ref bl, .ref bu, .ref bo, .ref br, .ref bk, .ref bw, .ref btt, .ref bss])), (bl, .inl (cI, 100, .inl l9)), (bu, .inl (cI, 100, .inl u9)), (bo, .inl (cI, 100, .inl d)), (bw, .inr (3, [.int (nI (cn)), .ref bn, .ref bp])), (bn, .inl (cI, 8, .inl ln)), (bp, .inl (cI, 48, .inl sp)), (btt, .inl (cI, 8, .inl to9)), (bss, .inl (cI, 8, .inl sl))] H := hP
      have hD : va_D A [(h0, .inr (2, [.int v, .int 0])), (q1, .inr (1, [.int (nI (P)), .ref be, .ref bl, .ref bu, .ref bo, .ref br, .ref bk, .ref bw, .ref btt, .ref bss])), (bl, .inl (cI, 100, .inl l9)), (bu, .inl (cI, 100, .inl u9)), (bo, .inl (cI, 100, .inl d)), (bw, .inr (3, [.int (nI (cn)), .ref bn, .ref bp])), (bn, .inl (cI, 8, .inl ln)), (bp, .inl (cI, 48, .inl sp)), (btt, .inl (cI, 8, .inl to9)), (bss, .inl (cI, 8, .inl sl))] := hD
      refine lv_iconst (v := 0) hx hb dX2_learnIn_20 (by decide) ?_
      refine lv_istore (lv' := [(4, .int 0), (3, .int (nI (i))), (2, .int (nI (c8))), (0, .ref h0), (1, .ref q1)]) hx hb dX2_learnIn_21 hl (by decide) rfl (fun ls hl => ?_)
      suffices loop_23 : ∀ (n_23 : Nat) (i2 : Nat) (v8 : Int32) (z8 : Int32) (l8 : Nat → Int32) (u8 : Nat → Int32) (H : Heap) (locs : List Loc) (ls : Array Slot), cn - i2 < n_23 → (i2 ≤ cn) → (rnd d ln sp to9 sl cn 0 (l9, u9, 0) v = rnd d ln sp to9 sl (cn - i2) i2 (l8, u8, z8) v8) → va_P D vwCl [(h0, .inr (2, [.int v8, .int z8])), (q1, .inr (1, [.int (nI (P)), .ref be, .ref bl, .ref bu, .ref bo, .ref br, .ref bk, .ref bw, .ref btt, .ref bss])), (bl, .inl (cI, 100, .inl l8)), (bu, .inl (cI, 100, .inl u8)), (bo, .inl (cI, 100, .inl d)), (bw, .inr (3, [.int (nI (cn)), .ref bn, .ref bp])), (bn, .inl (cI, 8, .inl ln)), (bp, .inl (cI, 48, .inl sp)), (btt, .inl (cI, 8, .inl to9)), (bss, .inl (cI, 8, .inl sl))] H → va_D A [(h0, .inr (2, [.int v8, .int z8])), (q1, .inr (1, [.int (nI (P)), .ref be, .ref bl, .ref bu, .ref bo, .ref br, .ref bk, .ref bw, .ref btt, .ref bss])), (bl, .inl (cI, 100, .inl l8)), (bu, .inl (cI, 100, .inl u8)), (bo, .inl (cI, 100, .inl d)), (bw, .inr (3, [.int (nI (cn)), .ref bn, .ref bp])), (bn, .inl (cI, 8, .inl ln)), (bp, .inl (cI, 48, .inl sp)), (btt, .inl (cI, 8, .inl to9)), (bss, .inl (cI, 8, .inl sl))] → va_S A s.heap H locs → lv_has ls 5 [(4, .int (nI (i2))), (3, .int (nI (i))), (2, .int (nI (c8))), (0, .ref h0), (1, .ref q1)] → W p l e ({ frames := 4, cells := 0, slots := 0, locals := 97 }) s m ([.ref h0, .ref q1] : List Value).toArray below meth c H locs 0 0 (MQ below (XQi (fun (r : Int32) (u : Int32 × Int32 × (Nat → Int32) × (Nat → Int32)) => match u with | (b8, b9, l2, u2) => ((r = nI ((lrn d ln sp to9 sl cn 50 0 lo hg 0).1))) ∧ (l2 = (lrn d ln sp to9 sl cn 50 0 lo hg 0).2.1) ∧ (u2 = (lrn d ln sp to9 sl cn 50 0 lo hg 0).2.2.1) ∧ (b8 = (lrn d ln sp to9 sl cn 50 0 lo hg 0).2.2.2)) D (fun (u : Int32 × Int32 × (Nat → Int32) × (Nat → Int32)) => match u with | (b8, b9, l2, u2) => [(h0, .inr (2, [.int b8, .int b9])), (q1, .inr (1, [.int (nI (P)), .ref be, .ref bl, .ref bu, .ref bo, .ref br, .ref bk, .ref bw, .ref btt, .ref bss])), (bl, .inl (cI, 100, .inl l2)), (bu, .inl (cI, 100, .inl u2)), (bo, .inl (cI, 100, .inl d)), (bw, .inr (3, [.int (nI (cn)), .ref bn, .ref bp])), (bn, .inl (cI, 8, .inl ln)), (bp, .inl (cI, 48, .inl sp)), (btt, .inl (cI, 8, .inl to9)), (bss, .inl (cI, 8, .inl sl))]) A) ([.ref h0, .ref q1] : List Value).toArray s 0 0 A) (F0 m 23 ls []) by
        exact loop_23 _ 0 v 0 l9 u9 _ _ _ (Nat.lt_succ_self _) (by omega) rfl hP hD hS (lv_sub hl [0, 1, 2, 3, 4] rfl)
      intro n_23
      induction n_23 with
      | zero =>
        intro i2 v8 z8 l8 u8 H locs ls hm_23
        exact absurd hm_23 (Nat.not_lt_zero _)
      | succ n_23 ih_23 =>
        intro i2 v8 z8 l8 u8 H locs ls hm_23 hi2 hR8 hP hD hS hl
        refine lv_iload hx hb dX2_learnIn_23 (lv_at hl 0 rfl) ?_
        refine lv_aload_n hx hb dX2_learnIn_25 rfl (lv_at hl 4 rfl) ?_
        refine xg hF kf_X2_17 hK hP 1 rfl rfl dX2_learnIn_26 ?_
        refine xg hF kf_X2_23 hK hP 5 rfl rfl dX2_learnIn_29 ?_
        refine lv_icmp_ge (tgt := 64) hx hb dX2_learnIn_32 (by decide) (fun c_2 => ?_) (fun c_2 => ?_)
        · skip
          have nc_2 : cn ≤ i2 := xn_le (a := cn) (b := i2) (by omega) (by omega) c_2
          refine lv_aload_n hx hb dX2_learnIn_64 rfl (lv_at hl 3 rfl) ?_
          refine xg hF kf_X2_13 hK hP 0 rfl rfl dX2_learnIn_65 ?_
          refine lv_if_ne (tgt := 73) hx hb dX2_learnIn_68 (by decide) (fun c_3 => ?_) (fun c_3 => ?_)
          · skip
            refine lv_iinc (v := nI (c8 + 1)) (lv' := [(2, .int (nI (c8 + 1))), (4, .int (nI (i2))), (3, .int (nI (i))), (0, .ref h0), (1, .ref q1)]) hx hb dX2_learnIn_73 hl (k := 2) rfl (nI_1 (c8)) (by decide) rfl (fun ls hl => ?_)
            refine lv_iinc (v := nI (i + 1)) (lv' := [(3, .int (nI (i + 1))), (2, .int (nI (c8 + 1))), (4, .int (nI (i2))), (0, .ref h0), (1, .ref q1)]) hx hb dX2_learnIn_76 hl (k := 2) rfl (nI_1 (i)) (by decide) rfl (fun ls hl => ?_)
            refine lv_goto (tgt := 9) hx hb dX2_learnIn_79 (by decide) ?_
            exact ih_9 (i + 1) (c8 + 1) v8 z8 l8 u8 _ _ _ (by omega) (by omega) (by omega) (hL8.trans (lrn_go (by omega) (hR8.trans (rnd_end (by omega))) c_3)) (hP.sub [0, 1, 2, 3, 4, 5, 6, 7, 8, 9] rfl) (hD.sub [0, 1, 2, 3, 4, 5, 6, 7, 8, 9] (by decide +kernel) rfl) hS (lv_sub hl [0, 1, 3, 4] rfl)
          · skip
            refine lv_iload_n hx hb dX2_learnIn_71 rfl (lv_at hl 2 rfl) ?_
            have hE9 : (lrn d ln sp to9 sl cn 50 0 lo hg 0) = (c8, l8, u8, v8) := hL8.trans (lrn_no (by omega) (hR8.trans (rnd_end (by omega))) c_3)
            exact W.iret (v := nI (c8)) hx hb hr (fun t ht hW => ⟨⟨nI (c8), (v8, z8, l8, u8), rfl, ⟨(by rw [hE9]), (by rw [hE9]), (by rw [hE9]), (by rw [hE9])⟩, by rw [ht]; exact hP.sub [0, 1, 2, 3, 4, 5, 6, 7, 8, 9] rfl, hD.sub [0, 1, 2, 3, 4, 5, 6, 7, 8, 9] (by decide +kernel) rfl⟩, hS.F ht⟩) hS.2.2 dX2_learnIn_72 hlk
        · skip
          have nc_2 : i2 < cn := xn_nle (a := cn) (b := i2) (by omega) (by omega) c_2
          refine lv_aload_n hx hb dX2_learnIn_35 rfl (lv_at hl 3 rfl) ?_
          refine lv_aload_n hx hb dX2_learnIn_36 rfl (lv_at hl 4 rfl) ?_
          refine lv_iload hx hb dX2_learnIn_37 (lv_at hl 0 rfl) ?_
          obtain ⟨q9, hq91, hq92, eq9⟩ := hLL i2 (by omega)
          refine xc_Vi (wr := []) hF (c_X2_isBelieved l D cI cJ cZ cS ta sa sv H.size h0 v8 z8 q1 be bl bu bo br bk bw btt bss P bn bp cn l8 u8 d ln sp to9 sl i2 q9 (by omega) hq91 hq92 eq9 hln hsp) kv_X2_28 ⟨rfl, rfl, Nat.le_of_ble_eq_true rfl, Nat.le_of_ble_eq_true rfl⟩ ⟨Nat.le_of_ble_eq_true rfl, Nat.le_of_ble_eq_true rfl⟩ hK hN hZ hP hD hS hA [0, 1, 2, 3, 4, 5, 6, 7, 8, 9] [] rfl rfl (by decide +kernel) rfl (by decide +kernel) 0 rfl rfl rfl rfl hl.1 rfl (Nat.le_of_ble_eq_true rfl) dX2_learnIn_39 (fun r_4 u_r_4 H locs hw_r_4 hP hD hS => ?_)
          obtain ⟨b9_5, l2_6, u2_7⟩ := u_r_4
          try dsimp only at hw_r_4
          have hP : va_P D vwCl [(h0, .inr (2, [.int v8, .int b9_5])), (q1, .inr (1, [.int (nI (P)), .ref be, .ref bl, .ref bu, .ref bo, .ref br, .ref bk, .ref bw, .ref btt, .ref bss])), (bl, .inl (cI, 100, .inl l2_6)), (bu, .inl (cI, 100, .inl u2_7)), (bo, .inl (cI, 100, .inl d)), (bw, .inr (3, [.int (nI (cn)), .ref bn, .ref bp])), (bn, .inl (cI, 8, .inl ln)), (bp, .inl (cI, 48, .inl sp)), (btt, .inl (cI, 8, .inl to9)), (bss, .inl (cI, 8, .inl sl))] H := hP
          have hD : va_D A [(h0, .inr (2, [.int v8, .int b9_5])), (q1, .inr (1, [.int (nI (P)), .ref be, .ref bl, .ref bu, .ref bo, .ref br, .ref bk, .ref bw, .ref btt, .ref bss])), (bl, .inl (cI, 100, .inl l2_6)), (bu, .inl (cI, 100, .inl u2_7)), (bo, .inl (cI, 100, .inl d)), (bw, .inr (3, [.int (nI (cn)), .ref bn, .ref bp])), (bn, .inl (cI, 8, .inl ln)), (bp, .inl (cI, 48, .inl sp)), (btt, .inl (cI, 8, .inl to9)), (bss, .inl (cI, 8, .inl sl))] := hD
          rcases hw_r_4 with ⟨rfl, h_8⟩ | ⟨rfl, h_9⟩
          · skip
            refine lv_if_ne (tgt := 58) hx hb dX2_learnIn_42 (by decide) (fun c_10 => ?_) (fun c_10 => absurd c_10 (by decide))
            refine lv_iinc (v := nI (i2 + 1)) (lv' := [(4, .int (nI (i2 + 1))), (3, .int (nI (i))), (2, .int (nI (c8))), (0, .ref h0), (1, .ref q1)]) hx hb dX2_learnIn_58 hl (k := 0) rfl (nI_1 (i2)) (by decide) rfl (fun ls hl => ?_)
            refine lv_goto (tgt := 23) hx hb dX2_learnIn_61 (by decide) ?_
            exact ih_23 (i2 + 1) v8 b9_5 l2_6 u2_7 _ _ _ (by omega) (by omega) (hR8.trans (rnd_go (by omega) h_8 lyU_1.symm)) (hP.sub [0, 1, 2, 3, 4, 5, 6, 7, 8, 9] rfl) (hD.sub [0, 1, 2, 3, 4, 5, 6, 7, 8, 9] (by decide +kernel) rfl) hS (lv_sub hl [0, 1, 2, 3, 4] rfl)
          · skip
            refine lv_if_ne (tgt := 58) hx hb dX2_learnIn_42 (by decide) (fun c_11 => absurd (by decide) c_11) (fun c_11 => ?_)
            refine lv_aload_n hx hb dX2_learnIn_45 rfl (lv_at hl 3 rfl) ?_
            refine lv_dup hx hb dX2_learnIn_46 rfl ?_
            refine xg hF kf_X2_7 hK hP 0 rfl rfl dX2_learnIn_47 ?_
            refine lv_iconst (v := 1) hx hb dX2_learnIn_50 (by decide) ?_
            refine lv_iload hx hb dX2_learnIn_51 (lv_at hl 0 rfl) ?_
            refine lv_ishl hx hb dX2_learnIn_53 ?_
            refine lv_topi (fun x_12 ex_12 => ?_)
            refine lv_ior hx hb dX2_learnIn_54 ?_
            refine lv_topi (fun x_13 ex_13 => ?_)
            refine xp hF kf_X2_7 tyX2_ok nmX2 hK hP hD hS 0 rfl rfl rfl rfl (Nat.le_of_ble_eq_true rfl) dX2_learnIn_55 (fun H locs hP hD hS => ?_)
            have hP : va_P D vwCl [(h0, .inr (2, [.int x_13, .int b9_5])), (q1, .inr (1, [.int (nI (P)), .ref be, .ref bl, .ref bu, .ref bo, .ref br, .ref bk, .ref bw, .ref btt, .ref bss])), (bl, .inl (cI, 100, .inl l2_6)), (bu, .inl (cI, 100, .inl u2_7)), (bo, .inl (cI, 100, .inl d)), (bw, .inr (3, [.int (nI (cn)), .ref bn, .ref bp])), (bn, .inl (cI, 8, .inl ln)), (bp, .inl (cI, 48, .inl sp)), (btt, .inl (cI, 8, .inl to9)), (bss, .inl (cI, 8, .inl sl))] H := hP
            have hD : va_D A [(h0, .inr (2, [.int x_13, .int b9_5])), (q1, .inr (1, [.int (nI (P)), .ref be, .ref bl, .ref bu, .ref bo, .ref br, .ref bk, .ref bw, .ref btt, .ref bss])), (bl, .inl (cI, 100, .inl l2_6)), (bu, .inl (cI, 100, .inl u2_7)), (bo, .inl (cI, 100, .inl d)), (bw, .inr (3, [.int (nI (cn)), .ref bn, .ref bp])), (bn, .inl (cI, 8, .inl ln)), (bp, .inl (cI, 48, .inl sp)), (btt, .inl (cI, 8, .inl to9)), (bss, .inl (cI, 8, .inl sl))] := hD
            refine lv_iinc (v := nI (i2 + 1)) (lv' := [(4, .int (nI (i2 + 1))), (3, .int (nI (i))), (2, .int (nI (c8))), (0, .ref h0), (1, .ref q1)]) hx hb dX2_learnIn_58 hl (k := 0) rfl (nI_1 (i2)) (by decide) rfl (fun ls hl => ?_)
            refine lv_goto (tgt := 23) hx hb dX2_learnIn_61 (by decide) ?_
            exact ih_23 (i2 + 1) x_13 b9_5 l2_6 u2_7 _ _ _ (by omega) (by omega) (hR8.trans (rnd_go (by omega) h_9 (ex_13.trans (lyU_0 ex_12).symm))) (hP.sub [0, 1, 2, 3, 4, 5, 6, 7, 8, 9] rfl) (hD.sub [0, 1, 2, 3, 4, 5, 6, 7, 8, 9] (by decide +kernel) rfl) hS (lv_sub hl [0, 1, 2, 3, 4] rfl)
