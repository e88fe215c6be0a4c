def LRX9_wayItem_12 : List UInt8 := []
def LBX9_wayItem_11 : List UInt8 := [0x13, 0xb6, 0x00, 0x57, 0xa7, 0x00, 0x04, 0x03, 0x60, 0x36, 0x06, 0xb1]
def LRX9_wayItem_11 : List UInt8 := LBX9_wayItem_11 ++ LRX9_wayItem_12
def LBX9_wayItem_10 : List UInt8 := [0x06, 0x15, 0x05, 0x99, 0x00, 0x14, 0x2a, 0x1c, 0x1b, 0x2a, 0xb4, 0x01, 0x13, 0x2a, 0xb4, 0x01]
def LRX9_wayItem_10 : List UInt8 := LBX9_wayItem_10 ++ LRX9_wayItem_11
def LBX9_wayItem_9 : List UInt8 := [0x0a, 0x9a, 0x00, 0x2a, 0x2a, 0x1b, 0x1c, 0x1d, 0x15, 0x04, 0xb6, 0x00, 0x57, 0x36, 0x06, 0x15]
def LRX9_wayItem_9 : List UInt8 := LBX9_wayItem_9 ++ LRX9_wayItem_10
def LBX9_wayItem_8 : List UInt8 := [0x04, 0xb6, 0x01, 0x16, 0x2a, 0x10, 0x9d, 0x11, 0x03, 0xe7, 0xb6, 0x01, 0x1f, 0x2a, 0xb4, 0x01]
def LRX9_wayItem_8 : List UInt8 := LBX9_wayItem_8 ++ LRX9_wayItem_9
def LBX9_wayItem_7 : List UInt8 := [0x10, 0x6b, 0x03, 0x03, 0x03, 0xb6, 0x01, 0x22, 0x36, 0x05, 0x15, 0x05, 0x99, 0x00, 0x11, 0x2a]
def LRX9_wayItem_7 : List UInt8 := LBX9_wayItem_7 ++ LRX9_wayItem_8
def LBX9_wayItem_6 : List UInt8 := [0xb6, 0x01, 0x1f, 0x2a, 0xb4, 0x01, 0x13, 0x36, 0x04, 0x2a, 0x10, 0x62, 0x10, 0x61, 0x10, 0x63]
def LRX9_wayItem_6 : List UInt8 := LBX9_wayItem_6 ++ LRX9_wayItem_7
def LBX9_wayItem_5 : List UInt8 := [0xb6, 0x01, 0x22, 0x99, 0x00, 0x16, 0x2a, 0x04, 0xb6, 0x01, 0x16, 0x2a, 0x1d, 0x11, 0x03, 0xe7]
def LRX9_wayItem_5 : List UInt8 := LBX9_wayItem_5 ++ LRX9_wayItem_6
def LBX9_wayItem_4 : List UInt8 := [0x2a, 0xb4, 0x01, 0x13, 0x36, 0x04, 0x2a, 0x10, 0x74, 0x10, 0x6f, 0x03, 0x03, 0x03, 0x03, 0x03]
def LRX9_wayItem_4 : List UInt8 := LBX9_wayItem_4 ++ LRX9_wayItem_5
def LBX9_wayItem_3 : List UInt8 := [0x01, 0x16, 0x2a, 0x10, 0x9d, 0x11, 0x03, 0xe7, 0xb6, 0x01, 0x1f, 0x2a, 0xb4, 0x01, 0x13, 0x3e]
def LRX9_wayItem_3 : List UInt8 := LBX9_wayItem_3 ++ LRX9_wayItem_4
def LBX9_wayItem_2 : List UInt8 := [0x00, 0x3d, 0x99, 0x00, 0x0c, 0x1c, 0x1b, 0x9f, 0x00, 0x07, 0x04, 0xa7, 0x00, 0x04, 0x03, 0xb6]
def LRX9_wayItem_2 : List UInt8 := LBX9_wayItem_2 ++ LRX9_wayItem_3
def LBX9_wayItem_1 : List UInt8 := [0x01, 0x1a, 0x2a, 0xb4, 0x01, 0x13, 0x3c, 0x2a, 0xb6, 0x01, 0x1c, 0x3d, 0x2a, 0x2a, 0x1c, 0xb6]
def LRX9_wayItem_1 : List UInt8 := LBX9_wayItem_1 ++ LRX9_wayItem_2
def LBX9_wayItem_0 : List UInt8 := [0x2a, 0x04, 0xb6, 0x01, 0x16, 0x2a, 0x03, 0x2a, 0xb4, 0x00, 0x07, 0x03, 0x2e, 0x04, 0x64, 0xb6]
def LRX9_wayItem_0 : List UInt8 := LBX9_wayItem_0 ++ LRX9_wayItem_1
set_option maxRecDepth 100000 in
theorem LBX9_wayItem_eq : cX9_wayItem.data.toList = LRX9_wayItem_0 := by decide +kernel
theorem LBX9_wayItemr_0 (k : Nat) : cX9_wayItem.data.toList[0 + k]? = LRX9_wayItem_0[k]? := by rw [LBX9_wayItem_eq, Nat.zero_add]
theorem LBX9_wayItemr_1 (k : Nat) : cX9_wayItem.data.toList[16 + k]? = LRX9_wayItem_1[k]? := by
  have h := LBX9_wayItemr_0 (16 + k)
  rw [show 0 + (16 + k) = 16 + k by omega] at h
  rw [h]
  exact (List.getElem?_append_right (l₁ := LBX9_wayItem_0) (l₂ := LRX9_wayItem_1) (show 16 ≤ 16 + k by omega)).trans (congrArg (fun i => LRX9_wayItem_1[i]?) (show 16 + k - 16 = k by omega))
theorem LBX9_wayItemr_2 (k : Nat) : cX9_wayItem.data.toList[32 + k]? = LRX9_wayItem_2[k]? := by
  have h := LBX9_wayItemr_1 (16 + k)
  rw [show 16 + (16 + k) = 32 + k by omega] at h
  rw [h]
  exact (List.getElem?_append_right (l₁ := LBX9_wayItem_1) (l₂ := LRX9_wayItem_2) (show 16 ≤ 16 + k by omega)).trans (congrArg (fun i => LRX9_wayItem_2[i]?) (show 16 + k - 16 = k by omega))
theorem LBX9_wayItemr_3 (k : Nat) : cX9_wayItem.data.toList[48 + k]? = LRX9_wayItem_3[k]? := by
  have h := LBX9_wayItemr_2 (16 + k)
  rw [show 32 + (16 + k) = 48 + k by omega] at h
  rw [h]
  exact (List.getElem?_append_right (l₁ := LBX9_wayItem_2) (l₂ := LRX9_wayItem_3) (show 16 ≤ 16 + k by omega)).trans (congrArg (fun i => LRX9_wayItem_3[i]?) (show 16 + k - 16 = k by omega))
theorem LBX9_wayItemr_4 (k : Nat) : cX9_wayItem.data.toList[64 + k]? = LRX9_wayItem_4[k]? := by
  have h := LBX9_wayItemr_3 (16 + k)
  rw [show 48 + (16 + k) = 64 + k by omega] at h
  rw [h]
  exact (List.getElem?_append_right (l₁ := LBX9_wayItem_3) (l₂ := LRX9_wayItem_4) (show 16 ≤ 16 + k by omega)).trans (congrArg (fun i => LRX9_wayItem_4[i]?) (show 16 + k - 16 = k by omega))
theorem LBX9_wayItemr_5 (k : Nat) : cX9_wayItem.data.toList[80 + k]? = LRX9_wayItem_5[k]? := by
  have h := LBX9_wayItemr_4 (16 + k)
  rw [show 64 + (16 + k) = 80 + k by omega] at h
  rw [h]
  exact (List.getElem?_append_right (l₁ := LBX9_wayItem_4) (l₂ := LRX9_wayItem_5) (show 16 ≤ 16 + k by omega)).trans (congrArg (fun i => LRX9_wayItem_5[i]?) (show 16 + k - 16 = k by omega))
theorem LBX9_wayItemr_6 (k : Nat) : cX9_wayItem.data.toList[96 + k]? = LRX9_wayItem_6[k]? := by
  have h := LBX9_wayItemr_5 (16 + k)
  rw [show 80 + (16 + k) = 96 + k by omega] at h
  rw [h]
  exact (List.getElem?_append_right (l₁ := LBX9_wayItem_5) (l₂ := LRX9_wayItem_6) (show 16 ≤ 16 + k by omega)).trans (congrArg (fun i => LRX9_wayItem_6[i]?) (show 16 + k - 16 = k by omega))
theorem LBX9_wayItemr_7 (k : Nat) : cX9_wayItem.data.toList[112 + k]? = LRX9_wayItem_7[k]? := by
  have h := LBX9_wayItemr_6 (16 + k)
  rw [show 96 + (16 + k) = 112 + k by omega] at h
  rw [h]
  exact (List.getElem?_append_right (l₁ := LBX9_wayItem_6) (l₂ := LRX9_wayItem_7) (show 16 ≤ 16 + k by omega)).trans (congrArg (fun i => LRX9_wayItem_7[i]?) (show 16 + k - 16 = k by omega))
theorem LBX9_wayItemr_8 (k : Nat) : cX9_wayItem.data.toList[128 + k]? = LRX9_wayItem_8[k]? := by
  have h := LBX9_wayItemr_7 (16 + k)
  rw [show 112 + (16 + k) = 128 + k by omega] at h
  rw [h]
  exact (List.getElem?_append_right (l₁ := LBX9_wayItem_7) (l₂ := LRX9_wayItem_8) (show 16 ≤ 16 + k by omega)).trans (congrArg (fun i => LRX9_wayItem_8[i]?) (show 16 + k - 16 = k by omega))
theorem LBX9_wayItemr_9 (k : Nat) : cX9_wayItem.data.toList[144 + k]? = LRX9_wayItem_9[k]? := by
  have h := LBX9_wayItemr_8 (16 + k)
  rw [show 128 + (16 + k) = 144 + k by omega] at h
  rw [h]
  exact (List.getElem?_append_right (l₁ := LBX9_wayItem_8) (l₂ := LRX9_wayItem_9) (show 16 ≤ 16 + k by omega)).trans (congrArg (fun i => LRX9_wayItem_9[i]?) (show 16 + k - 16 = k by omega))
theorem LBX9_wayItemr_10 (k : Nat) : cX9_wayItem.data.toList[160 + k]? = LRX9_wayItem_10[k]? := by
  have h := LBX9_wayItemr_9 (16 + k)
  rw [show 144 + (16 + k) = 160 + k by omega] at h
  rw [h]
  exact (List.getElem?_append_right (l₁ := LBX9_wayItem_9) (l₂ := LRX9_wayItem_10) (show 16 ≤ 16 + k by omega)).trans (congrArg (fun i => LRX9_wayItem_10[i]?) (show 16 + k - 16 = k by omega))
theorem LBX9_wayItemr_11 (k : Nat) : cX9_wayItem.data.toList[176 + k]? = LRX9_wayItem_11[k]? := by
  have h := LBX9_wayItemr_10 (16 + k)
  rw [show 160 + (16 + k) = 176 + k by omega] at h
  rw [h]
  exact (List.getElem?_append_right (l₁ := LBX9_wayItem_10) (l₂ := LRX9_wayItem_11) (show 16 ≤ 16 + k by omega)).trans (congrArg (fun i => LRX9_wayItem_11[i]?) (show 16 + k - 16 = k by omega))
theorem dX9_wayItem_0 : decode cX9_wayItem 0 = .ok (.aload_n 0, 1) := dk_42_ (show cX9_wayItem.data.toList[0]? = some 0x2a from (LBX9_wayItemr_0 0).trans (by decide +kernel))
theorem dX9_wayItem_1 : decode cX9_wayItem 1 = .ok (.iconst 1, 1) := dk_4_ (show cX9_wayItem.data.toList[1]? = some 0x04 from (LBX9_wayItemr_0 1).trans (by decide +kernel))
theorem dX9_wayItem_2 : decode cX9_wayItem 2 = .ok (.invokevirtual 278, 3) := dk_182_ (show cX9_wayItem.data.toList[2]? = some 0xb6 from (LBX9_wayItemr_0 2).trans (by decide +kernel)) (show cX9_wayItem.data.toList[3]? = some 0x01 from (LBX9_wayItemr_0 3).trans (by decide +kernel)) (show cX9_wayItem.data.toList[4]? = some 0x16 from (LBX9_wayItemr_0 4).trans (by decide +kernel)) (by decide)
theorem dX9_wayItem_5 : decode cX9_wayItem 5 = .ok (.aload_n 0, 1) := dk_42_ (show cX9_wayItem.data.toList[5]? = some 0x2a from (LBX9_wayItemr_0 5).trans (by decide +kernel))
theorem dX9_wayItem_6 : decode cX9_wayItem 6 = .ok (.iconst 0, 1) := dk_3_ (show cX9_wayItem.data.toList[6]? = some 0x03 from (LBX9_wayItemr_0 6).trans (by decide +kernel))
theorem dX9_wayItem_7 : decode cX9_wayItem 7 = .ok (.aload_n 0, 1) := dk_42_ (show cX9_wayItem.data.toList[7]? = some 0x2a from (LBX9_wayItemr_0 7).trans (by decide +kernel))
theorem dX9_wayItem_8 : decode cX9_wayItem 8 = .ok (.getfield 7, 3) := dk_180_ (show cX9_wayItem.data.toList[8]? = some 0xb4 from (LBX9_wayItemr_0 8).trans (by decide +kernel)) (show cX9_wayItem.data.toList[9]? = some 0x00 from (LBX9_wayItemr_0 9).trans (by decide +kernel)) (show cX9_wayItem.data.toList[10]? = some 0x07 from (LBX9_wayItemr_0 10).trans (by decide +kernel)) (by decide)
theorem dX9_wayItem_11 : decode cX9_wayItem 11 = .ok (.iconst 0, 1) := dk_3_ (show cX9_wayItem.data.toList[11]? = some 0x03 from (LBX9_wayItemr_0 11).trans (by decide +kernel))
theorem dX9_wayItem_12 : decode cX9_wayItem 12 = .ok (.iaload, 1) := dk_46_ (show cX9_wayItem.data.toList[12]? = some 0x2e from (LBX9_wayItemr_0 12).trans (by decide +kernel))
theorem dX9_wayItem_13 : decode cX9_wayItem 13 = .ok (.iconst 1, 1) := dk_4_ (show cX9_wayItem.data.toList[13]? = some 0x04 from (LBX9_wayItemr_0 13).trans (by decide +kernel))
theorem dX9_wayItem_14 : decode cX9_wayItem 14 = .ok (.isub, 1) := dk_100_ (show cX9_wayItem.data.toList[14]? = some 0x64 from (LBX9_wayItemr_0 14).trans (by decide +kernel))
theorem dX9_wayItem_15 : decode cX9_wayItem 15 = .ok (.invokevirtual 282, 3) := dk_182_ (show cX9_wayItem.data.toList[15]? = some 0xb6 from (LBX9_wayItemr_0 15).trans (by decide +kernel)) (show cX9_wayItem.data.toList[16]? = some 0x01 from (LBX9_wayItemr_1 0).trans (by decide +kernel)) (show cX9_wayItem.data.toList[17]? = some 0x1a from (LBX9_wayItemr_1 1).trans (by decide +kernel)) (by decide)
theorem dX9_wayItem_18 : decode cX9_wayItem 18 = .ok (.aload_n 0, 1) := dk_42_ (show cX9_wayItem.data.toList[18]? = some 0x2a from (LBX9_wayItemr_1 2).trans (by decide +kernel))
theorem dX9_wayItem_19 : decode cX9_wayItem 19 = .ok (.getfield 275, 3) := dk_180_ (show cX9_wayItem.data.toList[19]? = some 0xb4 from (LBX9_wayItemr_1 3).trans (by decide +kernel)) (show cX9_wayItem.data.toList[20]? = some 0x01 from (LBX9_wayItemr_1 4).trans (by decide +kernel)) (show cX9_wayItem.data.toList[21]? = some 0x13 from (LBX9_wayItemr_1 5).trans (by decide +kernel)) (by decide)
theorem dX9_wayItem_22 : decode cX9_wayItem 22 = .ok (.istore_n 1, 1) := dk_60_ (show cX9_wayItem.data.toList[22]? = some 0x3c from (LBX9_wayItemr_1 6).trans (by decide +kernel))
theorem dX9_wayItem_23 : decode cX9_wayItem 23 = .ok (.aload_n 0, 1) := dk_42_ (show cX9_wayItem.data.toList[23]? = some 0x2a from (LBX9_wayItemr_1 7).trans (by decide +kernel))
theorem dX9_wayItem_24 : decode cX9_wayItem 24 = .ok (.invokevirtual 284, 3) := dk_182_ (show cX9_wayItem.data.toList[24]? = some 0xb6 from (LBX9_wayItemr_1 8).trans (by decide +kernel)) (show cX9_wayItem.data.toList[25]? = some 0x01 from (LBX9_wayItemr_1 9).trans (by decide +kernel)) (show cX9_wayItem.data.toList[26]? = some 0x1c from (LBX9_wayItemr_1 10).trans (by decide +kernel)) (by decide)
theorem dX9_wayItem_27 : decode cX9_wayItem 27 = .ok (.istore_n 2, 1) := dk_61_ (show cX9_wayItem.data.toList[27]? = some 0x3d from (LBX9_wayItemr_1 11).trans (by decide +kernel))
theorem dX9_wayItem_28 : decode cX9_wayItem 28 = .ok (.aload_n 0, 1) := dk_42_ (show cX9_wayItem.data.toList[28]? = some 0x2a from (LBX9_wayItemr_1 12).trans (by decide +kernel))
theorem dX9_wayItem_29 : decode cX9_wayItem 29 = .ok (.aload_n 0, 1) := dk_42_ (show cX9_wayItem.data.toList[29]? = some 0x2a from (LBX9_wayItemr_1 13).trans (by decide +kernel))
theorem dX9_wayItem_30 : decode cX9_wayItem 30 = .ok (.iload_n 2, 1) := dk_28_ (show cX9_wayItem.data.toList[30]? = some 0x1c from (LBX9_wayItemr_1 14).trans (by decide +kernel))
theorem dX9_wayItem_31 : decode cX9_wayItem 31 = .ok (.invokevirtual 61, 3) := dk_182_ (show cX9_wayItem.data.toList[31]? = some 0xb6 from (LBX9_wayItemr_1 15).trans (by decide +kernel)) (show cX9_wayItem.data.toList[32]? = some 0x00 from (LBX9_wayItemr_2 0).trans (by decide +kernel)) (show cX9_wayItem.data.toList[33]? = some 0x3d from (LBX9_wayItemr_2 1).trans (by decide +kernel)) (by decide)
theorem dX9_wayItem_34 : decode cX9_wayItem 34 = .ok (.ifCond .eq 12, 3) := dk_153_ (show cX9_wayItem.data.toList[34]? = some 0x99 from (LBX9_wayItemr_2 2).trans (by decide +kernel)) (show cX9_wayItem.data.toList[35]? = some 0x00 from (LBX9_wayItemr_2 3).trans (by decide +kernel)) (show cX9_wayItem.data.toList[36]? = some 0x0c from (LBX9_wayItemr_2 4).trans (by decide +kernel)) (by decide)
theorem dX9_wayItem_37 : decode cX9_wayItem 37 = .ok (.iload_n 2, 1) := dk_28_ (show cX9_wayItem.data.toList[37]? = some 0x1c from (LBX9_wayItemr_2 5).trans (by decide +kernel))
theorem dX9_wayItem_38 : decode cX9_wayItem 38 = .ok (.iload_n 1, 1) := dk_27_ (show cX9_wayItem.data.toList[38]? = some 0x1b from (LBX9_wayItemr_2 6).trans (by decide +kernel))
theorem dX9_wayItem_39 : decode cX9_wayItem 39 = .ok (.if_icmp .eq 7, 3) := dk_159_ (show cX9_wayItem.data.toList[39]? = some 0x9f from (LBX9_wayItemr_2 7).trans (by decide +kernel)) (show cX9_wayItem.data.toList[40]? = some 0x00 from (LBX9_wayItemr_2 8).trans (by decide +kernel)) (show cX9_wayItem.data.toList[41]? = some 0x07 from (LBX9_wayItemr_2 9).trans (by decide +kernel)) (by decide)
theorem dX9_wayItem_42 : decode cX9_wayItem 42 = .ok (.iconst 1, 1) := dk_4_ (show cX9_wayItem.data.toList[42]? = some 0x04 from (LBX9_wayItemr_2 10).trans (by decide +kernel))
theorem dX9_wayItem_43 : decode cX9_wayItem 43 = .ok (.goto 4, 3) := dk_167_ (show cX9_wayItem.data.toList[43]? = some 0xa7 from (LBX9_wayItemr_2 11).trans (by decide +kernel)) (show cX9_wayItem.data.toList[44]? = some 0x00 from (LBX9_wayItemr_2 12).trans (by decide +kernel)) (show cX9_wayItem.data.toList[45]? = some 0x04 from (LBX9_wayItemr_2 13).trans (by decide +kernel)) (by decide)
theorem dX9_wayItem_46 : decode cX9_wayItem 46 = .ok (.iconst 0, 1) := dk_3_ (show cX9_wayItem.data.toList[46]? = some 0x03 from (LBX9_wayItemr_2 14).trans (by decide +kernel))
theorem dX9_wayItem_47 : decode cX9_wayItem 47 = .ok (.invokevirtual 278, 3) := dk_182_ (show cX9_wayItem.data.toList[47]? = some 0xb6 from (LBX9_wayItemr_2 15).trans (by decide +kernel)) (show cX9_wayItem.data.toList[48]? = some 0x01 from (LBX9_wayItemr_3 0).trans (by decide +kernel)) (show cX9_wayItem.data.toList[49]? = some 0x16 from (LBX9_wayItemr_3 1).trans (by decide +kernel)) (by decide)
theorem dX9_wayItem_50 : decode cX9_wayItem 50 = .ok (.aload_n 0, 1) := dk_42_ (show cX9_wayItem.data.toList[50]? = some 0x2a from (LBX9_wayItemr_3 2).trans (by decide +kernel))
theorem dX9_wayItem_51 : decode cX9_wayItem 51 = .ok (.bipush (-99), 2) := dk_16_ (show cX9_wayItem.data.toList[51]? = some 0x10 from (LBX9_wayItemr_3 3).trans (by decide +kernel)) (show cX9_wayItem.data.toList[52]? = some 0x9d from (LBX9_wayItemr_3 4).trans (by decide +kernel)) (by decide)
theorem dX9_wayItem_53 : decode cX9_wayItem 53 = .ok (.sipush 999, 3) := dk_17_ (show cX9_wayItem.data.toList[53]? = some 0x11 from (LBX9_wayItemr_3 5).trans (by decide +kernel)) (show cX9_wayItem.data.toList[54]? = some 0x03 from (LBX9_wayItemr_3 6).trans (by decide +kernel)) (show cX9_wayItem.data.toList[55]? = some 0xe7 from (LBX9_wayItemr_3 7).trans (by decide +kernel)) (by decide)
theorem dX9_wayItem_56 : decode cX9_wayItem 56 = .ok (.invokevirtual 287, 3) := dk_182_ (show cX9_wayItem.data.toList[56]? = some 0xb6 from (LBX9_wayItemr_3 8).trans (by decide +kernel)) (show cX9_wayItem.data.toList[57]? = some 0x01 from (LBX9_wayItemr_3 9).trans (by decide +kernel)) (show cX9_wayItem.data.toList[58]? = some 0x1f from (LBX9_wayItemr_3 10).trans (by decide +kernel)) (by decide)
theorem dX9_wayItem_59 : decode cX9_wayItem 59 = .ok (.aload_n 0, 1) := dk_42_ (show cX9_wayItem.data.toList[59]? = some 0x2a from (LBX9_wayItemr_3 11).trans (by decide +kernel))
theorem dX9_wayItem_60 : decode cX9_wayItem 60 = .ok (.getfield 275, 3) := dk_180_ (show cX9_wayItem.data.toList[60]? = some 0xb4 from (LBX9_wayItemr_3 12).trans (by decide +kernel)) (show cX9_wayItem.data.toList[61]? = some 0x01 from (LBX9_wayItemr_3 13).trans (by decide +kernel)) (show cX9_wayItem.data.toList[62]? = some 0x13 from (LBX9_wayItemr_3 14).trans (by decide +kernel)) (by decide)
theorem dX9_wayItem_63 : decode cX9_wayItem 63 = .ok (.istore_n 3, 1) := dk_62_ (show cX9_wayItem.data.toList[63]? = some 0x3e from (LBX9_wayItemr_3 15).trans (by decide +kernel))
theorem dX9_wayItem_64 : decode cX9_wayItem 64 = .ok (.aload_n 0, 1) := dk_42_ (show cX9_wayItem.data.toList[64]? = some 0x2a from (LBX9_wayItemr_4 0).trans (by decide +kernel))
theorem dX9_wayItem_65 : decode cX9_wayItem 65 = .ok (.getfield 275, 3) := dk_180_ (show cX9_wayItem.data.toList[65]? = some 0xb4 from (LBX9_wayItemr_4 1).trans (by decide +kernel)) (show cX9_wayItem.data.toList[66]? = some 0x01 from (LBX9_wayItemr_4 2).trans (by decide +kernel)) (show cX9_wayItem.data.toList[67]? = some 0x13 from (LBX9_wayItemr_4 3).trans (by decide +kernel)) (by decide)
theorem dX9_wayItem_68 : decode cX9_wayItem 68 = .ok (.istore 4, 2) := dk_54_ (show cX9_wayItem.data.toList[68]? = some 0x36 from (LBX9_wayItemr_4 4).trans (by decide +kernel)) (show cX9_wayItem.data.toList[69]? = some 0x04 from (LBX9_wayItemr_4 5).trans (by decide +kernel)) (by decide)
theorem dX9_wayItem_70 : decode cX9_wayItem 70 = .ok (.aload_n 0, 1) := dk_42_ (show cX9_wayItem.data.toList[70]? = some 0x2a from (LBX9_wayItemr_4 6).trans (by decide +kernel))
theorem dX9_wayItem_71 : decode cX9_wayItem 71 = .ok (.bipush 116, 2) := dk_16_ (show cX9_wayItem.data.toList[71]? = some 0x10 from (LBX9_wayItemr_4 7).trans (by decide +kernel)) (show cX9_wayItem.data.toList[72]? = some 0x74 from (LBX9_wayItemr_4 8).trans (by decide +kernel)) (by decide)
theorem dX9_wayItem_73 : decode cX9_wayItem 73 = .ok (.bipush 111, 2) := dk_16_ (show cX9_wayItem.data.toList[73]? = some 0x10 from (LBX9_wayItemr_4 9).trans (by decide +kernel)) (show cX9_wayItem.data.toList[74]? = some 0x6f from (LBX9_wayItemr_4 10).trans (by decide +kernel)) (by decide)
theorem dX9_wayItem_75 : decode cX9_wayItem 75 = .ok (.iconst 0, 1) := dk_3_ (show cX9_wayItem.data.toList[75]? = some 0x03 from (LBX9_wayItemr_4 11).trans (by decide +kernel))
theorem dX9_wayItem_76 : decode cX9_wayItem 76 = .ok (.iconst 0, 1) := dk_3_ (show cX9_wayItem.data.toList[76]? = some 0x03 from (LBX9_wayItemr_4 12).trans (by decide +kernel))
theorem dX9_wayItem_77 : decode cX9_wayItem 77 = .ok (.iconst 0, 1) := dk_3_ (show cX9_wayItem.data.toList[77]? = some 0x03 from (LBX9_wayItemr_4 13).trans (by decide +kernel))
theorem dX9_wayItem_78 : decode cX9_wayItem 78 = .ok (.iconst 0, 1) := dk_3_ (show cX9_wayItem.data.toList[78]? = some 0x03 from (LBX9_wayItemr_4 14).trans (by decide +kernel))
theorem dX9_wayItem_79 : decode cX9_wayItem 79 = .ok (.iconst 0, 1) := dk_3_ (show cX9_wayItem.data.toList[79]? = some 0x03 from (LBX9_wayItemr_4 15).trans (by decide +kernel))
theorem dX9_wayItem_80 : decode cX9_wayItem 80 = .ok (.invokevirtual 290, 3) := dk_182_ (show cX9_wayItem.data.toList[80]? = some 0xb6 from (LBX9_wayItemr_5 0).trans (by decide +kernel)) (show cX9_wayItem.data.toList[81]? = some 0x01 from (LBX9_wayItemr_5 1).trans (by decide +kernel)) (show cX9_wayItem.data.toList[82]? = some 0x22 from (LBX9_wayItemr_5 2).trans (by decide +kernel)) (by decide)
theorem dX9_wayItem_83 : decode cX9_wayItem 83 = .ok (.ifCond .eq 22, 3) := dk_153_ (show cX9_wayItem.data.toList[83]? = some 0x99 from (LBX9_wayItemr_5 3).trans (by decide +kernel)) (show cX9_wayItem.data.toList[84]? = some 0x00 from (LBX9_wayItemr_5 4).trans (by decide +kernel)) (show cX9_wayItem.data.toList[85]? = some 0x16 from (LBX9_wayItemr_5 5).trans (by decide +kernel)) (by decide)
theorem dX9_wayItem_86 : decode cX9_wayItem 86 = .ok (.aload_n 0, 1) := dk_42_ (show cX9_wayItem.data.toList[86]? = some 0x2a from (LBX9_wayItemr_5 6).trans (by decide +kernel))
theorem dX9_wayItem_87 : decode cX9_wayItem 87 = .ok (.iconst 1, 1) := dk_4_ (show cX9_wayItem.data.toList[87]? = some 0x04 from (LBX9_wayItemr_5 7).trans (by decide +kernel))
theorem dX9_wayItem_88 : decode cX9_wayItem 88 = .ok (.invokevirtual 278, 3) := dk_182_ (show cX9_wayItem.data.toList[88]? = some 0xb6 from (LBX9_wayItemr_5 8).trans (by decide +kernel)) (show cX9_wayItem.data.toList[89]? = some 0x01 from (LBX9_wayItemr_5 9).trans (by decide +kernel)) (show cX9_wayItem.data.toList[90]? = some 0x16 from (LBX9_wayItemr_5 10).trans (by decide +kernel)) (by decide)
theorem dX9_wayItem_91 : decode cX9_wayItem 91 = .ok (.aload_n 0, 1) := dk_42_ (show cX9_wayItem.data.toList[91]? = some 0x2a from (LBX9_wayItemr_5 11).trans (by decide +kernel))
theorem dX9_wayItem_92 : decode cX9_wayItem 92 = .ok (.iload_n 3, 1) := dk_29_ (show cX9_wayItem.data.toList[92]? = some 0x1d from (LBX9_wayItemr_5 12).trans (by decide +kernel))
theorem dX9_wayItem_93 : decode cX9_wayItem 93 = .ok (.sipush 999, 3) := dk_17_ (show cX9_wayItem.data.toList[93]? = some 0x11 from (LBX9_wayItemr_5 13).trans (by decide +kernel)) (show cX9_wayItem.data.toList[94]? = some 0x03 from (LBX9_wayItemr_5 14).trans (by decide +kernel)) (show cX9_wayItem.data.toList[95]? = some 0xe7 from (LBX9_wayItemr_5 15).trans (by decide +kernel)) (by decide)
theorem dX9_wayItem_96 : decode cX9_wayItem 96 = .ok (.invokevirtual 287, 3) := dk_182_ (show cX9_wayItem.data.toList[96]? = some 0xb6 from (LBX9_wayItemr_6 0).trans (by decide +kernel)) (show cX9_wayItem.data.toList[97]? = some 0x01 from (LBX9_wayItemr_6 1).trans (by decide +kernel)) (show cX9_wayItem.data.toList[98]? = some 0x1f from (LBX9_wayItemr_6 2).trans (by decide +kernel)) (by decide)
theorem dX9_wayItem_99 : decode cX9_wayItem 99 = .ok (.aload_n 0, 1) := dk_42_ (show cX9_wayItem.data.toList[99]? = some 0x2a from (LBX9_wayItemr_6 3).trans (by decide +kernel))
theorem dX9_wayItem_100 : decode cX9_wayItem 100 = .ok (.getfield 275, 3) := dk_180_ (show cX9_wayItem.data.toList[100]? = some 0xb4 from (LBX9_wayItemr_6 4).trans (by decide +kernel)) (show cX9_wayItem.data.toList[101]? = some 0x01 from (LBX9_wayItemr_6 5).trans (by decide +kernel)) (show cX9_wayItem.data.toList[102]? = some 0x13 from (LBX9_wayItemr_6 6).trans (by decide +kernel)) (by decide)
theorem dX9_wayItem_103 : decode cX9_wayItem 103 = .ok (.istore 4, 2) := dk_54_ (show cX9_wayItem.data.toList[103]? = some 0x36 from (LBX9_wayItemr_6 7).trans (by decide +kernel)) (show cX9_wayItem.data.toList[104]? = some 0x04 from (LBX9_wayItemr_6 8).trans (by decide +kernel)) (by decide)
theorem dX9_wayItem_105 : decode cX9_wayItem 105 = .ok (.aload_n 0, 1) := dk_42_ (show cX9_wayItem.data.toList[105]? = some 0x2a from (LBX9_wayItemr_6 9).trans (by decide +kernel))
theorem dX9_wayItem_106 : decode cX9_wayItem 106 = .ok (.bipush 98, 2) := dk_16_ (show cX9_wayItem.data.toList[106]? = some 0x10 from (LBX9_wayItemr_6 10).trans (by decide +kernel)) (show cX9_wayItem.data.toList[107]? = some 0x62 from (LBX9_wayItemr_6 11).trans (by decide +kernel)) (by decide)
theorem dX9_wayItem_108 : decode cX9_wayItem 108 = .ok (.bipush 97, 2) := dk_16_ (show cX9_wayItem.data.toList[108]? = some 0x10 from (LBX9_wayItemr_6 12).trans (by decide +kernel)) (show cX9_wayItem.data.toList[109]? = some 0x61 from (LBX9_wayItemr_6 13).trans (by decide +kernel)) (by decide)
theorem dX9_wayItem_110 : decode cX9_wayItem 110 = .ok (.bipush 99, 2) := dk_16_ (show cX9_wayItem.data.toList[110]? = some 0x10 from (LBX9_wayItemr_6 14).trans (by decide +kernel)) (show cX9_wayItem.data.toList[111]? = some 0x63 from (LBX9_wayItemr_6 15).trans (by decide +kernel)) (by decide)
theorem dX9_wayItem_112 : decode cX9_wayItem 112 = .ok (.bipush 107, 2) := dk_16_ (show cX9_wayItem.data.toList[112]? = some 0x10 from (LBX9_wayItemr_7 0).trans (by decide +kernel)) (show cX9_wayItem.data.toList[113]? = some 0x6b from (LBX9_wayItemr_7 1).trans (by decide +kernel)) (by decide)
theorem dX9_wayItem_114 : decode cX9_wayItem 114 = .ok (.iconst 0, 1) := dk_3_ (show cX9_wayItem.data.toList[114]? = some 0x03 from (LBX9_wayItemr_7 2).trans (by decide +kernel))
theorem dX9_wayItem_115 : decode cX9_wayItem 115 = .ok (.iconst 0, 1) := dk_3_ (show cX9_wayItem.data.toList[115]? = some 0x03 from (LBX9_wayItemr_7 3).trans (by decide +kernel))
theorem dX9_wayItem_116 : decode cX9_wayItem 116 = .ok (.iconst 0, 1) := dk_3_ (show cX9_wayItem.data.toList[116]? = some 0x03 from (LBX9_wayItemr_7 4).trans (by decide +kernel))
theorem dX9_wayItem_117 : decode cX9_wayItem 117 = .ok (.invokevirtual 290, 3) := dk_182_ (show cX9_wayItem.data.toList[117]? = some 0xb6 from (LBX9_wayItemr_7 5).trans (by decide +kernel)) (show cX9_wayItem.data.toList[118]? = some 0x01 from (LBX9_wayItemr_7 6).trans (by decide +kernel)) (show cX9_wayItem.data.toList[119]? = some 0x22 from (LBX9_wayItemr_7 7).trans (by decide +kernel)) (by decide)
theorem dX9_wayItem_120 : decode cX9_wayItem 120 = .ok (.istore 5, 2) := dk_54_ (show cX9_wayItem.data.toList[120]? = some 0x36 from (LBX9_wayItemr_7 8).trans (by decide +kernel)) (show cX9_wayItem.data.toList[121]? = some 0x05 from (LBX9_wayItemr_7 9).trans (by decide +kernel)) (by decide)
theorem dX9_wayItem_122 : decode cX9_wayItem 122 = .ok (.iload 5, 2) := dk_21_ (show cX9_wayItem.data.toList[122]? = some 0x15 from (LBX9_wayItemr_7 10).trans (by decide +kernel)) (show cX9_wayItem.data.toList[123]? = some 0x05 from (LBX9_wayItemr_7 11).trans (by decide +kernel)) (by decide)
theorem dX9_wayItem_124 : decode cX9_wayItem 124 = .ok (.ifCond .eq 17, 3) := dk_153_ (show cX9_wayItem.data.toList[124]? = some 0x99 from (LBX9_wayItemr_7 12).trans (by decide +kernel)) (show cX9_wayItem.data.toList[125]? = some 0x00 from (LBX9_wayItemr_7 13).trans (by decide +kernel)) (show cX9_wayItem.data.toList[126]? = some 0x11 from (LBX9_wayItemr_7 14).trans (by decide +kernel)) (by decide)
theorem dX9_wayItem_127 : decode cX9_wayItem 127 = .ok (.aload_n 0, 1) := dk_42_ (show cX9_wayItem.data.toList[127]? = some 0x2a from (LBX9_wayItemr_7 15).trans (by decide +kernel))
theorem dX9_wayItem_128 : decode cX9_wayItem 128 = .ok (.iconst 1, 1) := dk_4_ (show cX9_wayItem.data.toList[128]? = some 0x04 from (LBX9_wayItemr_8 0).trans (by decide +kernel))
theorem dX9_wayItem_129 : decode cX9_wayItem 129 = .ok (.invokevirtual 278, 3) := dk_182_ (show cX9_wayItem.data.toList[129]? = some 0xb6 from (LBX9_wayItemr_8 1).trans (by decide +kernel)) (show cX9_wayItem.data.toList[130]? = some 0x01 from (LBX9_wayItemr_8 2).trans (by decide +kernel)) (show cX9_wayItem.data.toList[131]? = some 0x16 from (LBX9_wayItemr_8 3).trans (by decide +kernel)) (by decide)
theorem dX9_wayItem_132 : decode cX9_wayItem 132 = .ok (.aload_n 0, 1) := dk_42_ (show cX9_wayItem.data.toList[132]? = some 0x2a from (LBX9_wayItemr_8 4).trans (by decide +kernel))
theorem dX9_wayItem_133 : decode cX9_wayItem 133 = .ok (.bipush (-99), 2) := dk_16_ (show cX9_wayItem.data.toList[133]? = some 0x10 from (LBX9_wayItemr_8 5).trans (by decide +kernel)) (show cX9_wayItem.data.toList[134]? = some 0x9d from (LBX9_wayItemr_8 6).trans (by decide +kernel)) (by decide)
theorem dX9_wayItem_135 : decode cX9_wayItem 135 = .ok (.sipush 999, 3) := dk_17_ (show cX9_wayItem.data.toList[135]? = some 0x11 from (LBX9_wayItemr_8 7).trans (by decide +kernel)) (show cX9_wayItem.data.toList[136]? = some 0x03 from (LBX9_wayItemr_8 8).trans (by decide +kernel)) (show cX9_wayItem.data.toList[137]? = some 0xe7 from (LBX9_wayItemr_8 9).trans (by decide +kernel)) (by decide)
theorem dX9_wayItem_138 : decode cX9_wayItem 138 = .ok (.invokevirtual 287, 3) := dk_182_ (show cX9_wayItem.data.toList[138]? = some 0xb6 from (LBX9_wayItemr_8 10).trans (by decide +kernel)) (show cX9_wayItem.data.toList[139]? = some 0x01 from (LBX9_wayItemr_8 11).trans (by decide +kernel)) (show cX9_wayItem.data.toList[140]? = some 0x1f from (LBX9_wayItemr_8 12).trans (by decide +kernel)) (by decide)
theorem dX9_wayItem_141 : decode cX9_wayItem 141 = .ok (.aload_n 0, 1) := dk_42_ (show cX9_wayItem.data.toList[141]? = some 0x2a from (LBX9_wayItemr_8 13).trans (by decide +kernel))
theorem dX9_wayItem_142 : decode cX9_wayItem 142 = .ok (.getfield 266, 3) := dk_180_ (show cX9_wayItem.data.toList[142]? = some 0xb4 from (LBX9_wayItemr_8 14).trans (by decide +kernel)) (show cX9_wayItem.data.toList[143]? = some 0x01 from (LBX9_wayItemr_8 15).trans (by decide +kernel)) (show cX9_wayItem.data.toList[144]? = some 0x0a from (LBX9_wayItemr_9 0).trans (by decide +kernel)) (by decide)
theorem dX9_wayItem_145 : decode cX9_wayItem 145 = .ok (.ifCond .ne 42, 3) := dk_154_ (show cX9_wayItem.data.toList[145]? = some 0x9a from (LBX9_wayItemr_9 1).trans (by decide +kernel)) (show cX9_wayItem.data.toList[146]? = some 0x00 from (LBX9_wayItemr_9 2).trans (by decide +kernel)) (show cX9_wayItem.data.toList[147]? = some 0x2a from (LBX9_wayItemr_9 3).trans (by decide +kernel)) (by decide)
theorem dX9_wayItem_148 : decode cX9_wayItem 148 = .ok (.aload_n 0, 1) := dk_42_ (show cX9_wayItem.data.toList[148]? = some 0x2a from (LBX9_wayItemr_9 4).trans (by decide +kernel))
theorem dX9_wayItem_149 : decode cX9_wayItem 149 = .ok (.iload_n 1, 1) := dk_27_ (show cX9_wayItem.data.toList[149]? = some 0x1b from (LBX9_wayItemr_9 5).trans (by decide +kernel))
theorem dX9_wayItem_150 : decode cX9_wayItem 150 = .ok (.iload_n 2, 1) := dk_28_ (show cX9_wayItem.data.toList[150]? = some 0x1c from (LBX9_wayItemr_9 6).trans (by decide +kernel))
theorem dX9_wayItem_151 : decode cX9_wayItem 151 = .ok (.iload_n 3, 1) := dk_29_ (show cX9_wayItem.data.toList[151]? = some 0x1d from (LBX9_wayItemr_9 7).trans (by decide +kernel))
theorem dX9_wayItem_152 : decode cX9_wayItem 152 = .ok (.iload 4, 2) := dk_21_ (show cX9_wayItem.data.toList[152]? = some 0x15 from (LBX9_wayItemr_9 8).trans (by decide +kernel)) (show cX9_wayItem.data.toList[153]? = some 0x04 from (LBX9_wayItemr_9 9).trans (by decide +kernel)) (by decide)
theorem dX9_wayItem_154 : decode cX9_wayItem 154 = .ok (.invokevirtual 87, 3) := dk_182_ (show cX9_wayItem.data.toList[154]? = some 0xb6 from (LBX9_wayItemr_9 10).trans (by decide +kernel)) (show cX9_wayItem.data.toList[155]? = some 0x00 from (LBX9_wayItemr_9 11).trans (by decide +kernel)) (show cX9_wayItem.data.toList[156]? = some 0x57 from (LBX9_wayItemr_9 12).trans (by decide +kernel)) (by decide)
theorem dX9_wayItem_157 : decode cX9_wayItem 157 = .ok (.istore 6, 2) := dk_54_ (show cX9_wayItem.data.toList[157]? = some 0x36 from (LBX9_wayItemr_9 13).trans (by decide +kernel)) (show cX9_wayItem.data.toList[158]? = some 0x06 from (LBX9_wayItemr_9 14).trans (by decide +kernel)) (by decide)
theorem dX9_wayItem_159 : decode cX9_wayItem 159 = .ok (.iload 6, 2) := dk_21_ (show cX9_wayItem.data.toList[159]? = some 0x15 from (LBX9_wayItemr_9 15).trans (by decide +kernel)) (show cX9_wayItem.data.toList[160]? = some 0x06 from (LBX9_wayItemr_10 0).trans (by decide +kernel)) (by decide)
theorem dX9_wayItem_161 : decode cX9_wayItem 161 = .ok (.iload 5, 2) := dk_21_ (show cX9_wayItem.data.toList[161]? = some 0x15 from (LBX9_wayItemr_10 1).trans (by decide +kernel)) (show cX9_wayItem.data.toList[162]? = some 0x05 from (LBX9_wayItemr_10 2).trans (by decide +kernel)) (by decide)
theorem dX9_wayItem_163 : decode cX9_wayItem 163 = .ok (.ifCond .eq 20, 3) := dk_153_ (show cX9_wayItem.data.toList[163]? = some 0x99 from (LBX9_wayItemr_10 3).trans (by decide +kernel)) (show cX9_wayItem.data.toList[164]? = some 0x00 from (LBX9_wayItemr_10 4).trans (by decide +kernel)) (show cX9_wayItem.data.toList[165]? = some 0x14 from (LBX9_wayItemr_10 5).trans (by decide +kernel)) (by decide)
theorem dX9_wayItem_166 : decode cX9_wayItem 166 = .ok (.aload_n 0, 1) := dk_42_ (show cX9_wayItem.data.toList[166]? = some 0x2a from (LBX9_wayItemr_10 6).trans (by decide +kernel))
theorem dX9_wayItem_167 : decode cX9_wayItem 167 = .ok (.iload_n 2, 1) := dk_28_ (show cX9_wayItem.data.toList[167]? = some 0x1c from (LBX9_wayItemr_10 7).trans (by decide +kernel))
theorem dX9_wayItem_168 : decode cX9_wayItem 168 = .ok (.iload_n 1, 1) := dk_27_ (show cX9_wayItem.data.toList[168]? = some 0x1b from (LBX9_wayItemr_10 8).trans (by decide +kernel))
theorem dX9_wayItem_169 : decode cX9_wayItem 169 = .ok (.aload_n 0, 1) := dk_42_ (show cX9_wayItem.data.toList[169]? = some 0x2a from (LBX9_wayItemr_10 9).trans (by decide +kernel))
theorem dX9_wayItem_170 : decode cX9_wayItem 170 = .ok (.getfield 275, 3) := dk_180_ (show cX9_wayItem.data.toList[170]? = some 0xb4 from (LBX9_wayItemr_10 10).trans (by decide +kernel)) (show cX9_wayItem.data.toList[171]? = some 0x01 from (LBX9_wayItemr_10 11).trans (by decide +kernel)) (show cX9_wayItem.data.toList[172]? = some 0x13 from (LBX9_wayItemr_10 12).trans (by decide +kernel)) (by decide)
theorem dX9_wayItem_173 : decode cX9_wayItem 173 = .ok (.aload_n 0, 1) := dk_42_ (show cX9_wayItem.data.toList[173]? = some 0x2a from (LBX9_wayItemr_10 13).trans (by decide +kernel))
theorem dX9_wayItem_174 : decode cX9_wayItem 174 = .ok (.getfield 275, 3) := dk_180_ (show cX9_wayItem.data.toList[174]? = some 0xb4 from (LBX9_wayItemr_10 14).trans (by decide +kernel)) (show cX9_wayItem.data.toList[175]? = some 0x01 from (LBX9_wayItemr_10 15).trans (by decide +kernel)) (show cX9_wayItem.data.toList[176]? = some 0x13 from (LBX9_wayItemr_11 0).trans (by decide +kernel)) (by decide)
theorem dX9_wayItem_177 : decode cX9_wayItem 177 = .ok (.invokevirtual 87, 3) := dk_182_ (show cX9_wayItem.data.toList[177]? = some 0xb6 from (LBX9_wayItemr_11 1).trans (by decide +kernel)) (show cX9_wayItem.data.toList[178]? = some 0x00 from (LBX9_wayItemr_11 2).trans (by decide +kernel)) (show cX9_wayItem.data.toList[179]? = some 0x57 from (LBX9_wayItemr_11 3).trans (by decide +kernel)) (by decide)
theorem dX9_wayItem_180 : decode cX9_wayItem 180 = .ok (.goto 4, 3) := dk_167_ (show cX9_wayItem.data.toList[180]? = some 0xa7 from (LBX9_wayItemr_11 4).trans (by decide +kernel)) (show cX9_wayItem.data.toList[181]? = some 0x00 from (LBX9_wayItemr_11 5).trans (by decide +kernel)) (show cX9_wayItem.data.toList[182]? = some 0x04 from (LBX9_wayItemr_11 6).trans (by decide +kernel)) (by decide)
theorem dX9_wayItem_183 : decode cX9_wayItem 183 = .ok (.iconst 0, 1) := dk_3_ (show cX9_wayItem.data.toList[183]? = some 0x03 from (LBX9_wayItemr_11 7).trans (by decide +kernel))
theorem dX9_wayItem_184 : decode cX9_wayItem 184 = .ok (.iadd, 1) := dk_96_ (show cX9_wayItem.data.toList[184]? = some 0x60 from (LBX9_wayItemr_11 8).trans (by decide +kernel))
theorem dX9_wayItem_185 : decode cX9_wayItem 185 = .ok (.istore 6, 2) := dk_54_ (show cX9_wayItem.data.toList[185]? = some 0x36 from (LBX9_wayItemr_11 9).trans (by decide +kernel)) (show cX9_wayItem.data.toList[186]? = some 0x06 from (LBX9_wayItemr_11 10).trans (by decide +kernel)) (by decide)
theorem dX9_wayItem_187 : decode cX9_wayItem 187 = .ok (.return_, 1) := dk_177_ (show cX9_wayItem.data.toList[187]? = some 0xb1 from (LBX9_wayItemr_11 11).trans (by decide +kernel))
def LRX9_walkItem_16 : List UInt8 := []
def LBX9_walkItem_15 : List UInt8 := [0x00, 0x28, 0x15, 0x05, 0x2e, 0x4f, 0x84, 0x05, 0x01, 0xa7, 0xff, 0xe4, 0xb1]
def LRX9_walkItem_15 : List UInt8 := LBX9_walkItem_15 ++ LRX9_walkItem_16
def LBX9_walkItem_14 : List UInt8 := [0xa2, 0x00, 0x1c, 0x2a, 0xb4, 0x00, 0x07, 0x15, 0x04, 0x06, 0x60, 0x15, 0x05, 0x60, 0x2a, 0xb4]
def LRX9_walkItem_14 : List UInt8 := LBX9_walkItem_14 ++ LRX9_walkItem_15
def LBX9_walkItem_13 : List UInt8 := [0x36, 0x04, 0x2a, 0xb4, 0x00, 0x07, 0x15, 0x04, 0x1b, 0x4f, 0x05, 0x36, 0x05, 0x15, 0x05, 0x1b]
def LRX9_walkItem_13 : List UInt8 := LBX9_walkItem_13 ++ LRX9_walkItem_14
def LBX9_walkItem_12 : List UInt8 := [0x28, 0x03, 0x2e, 0x2a, 0xb4, 0x00, 0x28, 0x04, 0x2e, 0x1c, 0x1d, 0xb6, 0x00, 0xc4, 0x68, 0x60]
def LRX9_walkItem_12 : List UInt8 := LBX9_walkItem_12 ++ LRX9_walkItem_13
def LBX9_walkItem_11 : List UInt8 := [0x2a, 0xb4, 0x01, 0x0a, 0x9a, 0x00, 0x48, 0x11, 0x01, 0x79, 0x10, 0x09, 0x2a, 0x2a, 0xb4, 0x00]
def LRX9_walkItem_11 : List UInt8 := LBX9_walkItem_11 ++ LRX9_walkItem_12
def LBX9_walkItem_10 : List UInt8 := [0x04, 0xb6, 0x01, 0x16, 0x2a, 0x03, 0x10, 0x63, 0xb6, 0x01, 0x1a, 0x2a, 0xb4, 0x01, 0x13, 0x3e]
def LRX9_walkItem_10 : List UInt8 := LBX9_walkItem_10 ++ LRX9_walkItem_11
def LBX9_walkItem_9 : List UInt8 := [0x6c, 0x10, 0x61, 0x10, 0x63, 0x10, 0x6b, 0x03, 0x03, 0xb6, 0x01, 0x22, 0x99, 0x00, 0x14, 0x2a]
def LRX9_walkItem_9 : List UInt8 := LBX9_walkItem_9 ++ LRX9_walkItem_10
def LBX9_walkItem_8 : List UInt8 := [0x27, 0x0f, 0xb6, 0x01, 0x1f, 0x2a, 0xb4, 0x01, 0x13, 0x3d, 0x03, 0x3e, 0x2a, 0x10, 0x73, 0x10]
def LRX9_walkItem_8 : List UInt8 := LBX9_walkItem_8 ++ LRX9_walkItem_9
def LBX9_walkItem_7 : List UInt8 := [0x6c, 0x03, 0x03, 0x03, 0x03, 0xb6, 0x01, 0x22, 0xb6, 0x01, 0x16, 0x2a, 0x11, 0xd8, 0xf1, 0x11]
def LRX9_walkItem_7 : List UInt8 := LBX9_walkItem_7 ++ LRX9_walkItem_8
def LBX9_walkItem_6 : List UInt8 := [0x1b, 0x1c, 0x4f, 0x84, 0x01, 0x01, 0xa7, 0xff, 0xb0, 0x2a, 0x2a, 0x10, 0x61, 0x10, 0x6c, 0x10]
def LRX9_walkItem_6 : List UInt8 := LBX9_walkItem_6 ++ LRX9_walkItem_7
def LBX9_walkItem_5 : List UInt8 := [0x2e, 0x9f, 0x00, 0x07, 0x04, 0xa7, 0x00, 0x04, 0x03, 0xb6, 0x01, 0x16, 0x2a, 0xb4, 0x00, 0x28]
def LRX9_walkItem_5 : List UInt8 := LBX9_walkItem_5 ++ LRX9_walkItem_6
def LBX9_walkItem_4 : List UInt8 := [0x3d, 0x99, 0x00, 0x17, 0x1b, 0x99, 0x00, 0x0f, 0x1c, 0x2a, 0xb4, 0x00, 0x28, 0x1b, 0x04, 0x64]
def LRX9_walkItem_4 : List UInt8 := LBX9_walkItem_4 ++ LRX9_walkItem_5
def LBX9_walkItem_3 : List UInt8 := [0xb8, 0x01, 0x07, 0x99, 0x00, 0x36, 0x2a, 0xb6, 0x01, 0x1c, 0x3d, 0x2a, 0x2a, 0x1c, 0xb6, 0x00]
def LRX9_walkItem_3 : List UInt8 := LBX9_walkItem_3 ++ LRX9_walkItem_4
def LBX9_walkItem_2 : List UInt8 := [0xa2, 0x00, 0x49, 0x1b, 0x05, 0xa1, 0x00, 0x11, 0x2a, 0x2a, 0xb4, 0x00, 0xfe, 0xb6, 0x01, 0x01]
def LRX9_walkItem_2 : List UInt8 := LBX9_walkItem_2 ++ LRX9_walkItem_3
def LBX9_walkItem_1 : List UInt8 := [0x03, 0xb6, 0x01, 0x16, 0x03, 0x3c, 0x2a, 0xb4, 0x01, 0x0a, 0x9a, 0x00, 0x4f, 0x1b, 0x10, 0x06]
def LRX9_walkItem_1 : List UInt8 := LBX9_walkItem_1 ++ LRX9_walkItem_2
def LBX9_walkItem_0 : List UInt8 := [0x2a, 0x2a, 0xb4, 0x00, 0x07, 0x05, 0x2e, 0x10, 0x08, 0xa2, 0x00, 0x07, 0x04, 0xa7, 0x00, 0x04]
def LRX9_walkItem_0 : List UInt8 := LBX9_walkItem_0 ++ LRX9_walkItem_1
set_option maxRecDepth 100000 in
theorem LBX9_walkItem_eq : cX9_walkItem.data.toList = LRX9_walkItem_0 := by decide +kernel
theorem LBX9_walkItemr_0 (k : Nat) : cX9_walkItem.data.toList[0 + k]? = LRX9_walkItem_0[k]? := by rw [LBX9_walkItem_eq, Nat.zero_add]
theorem LBX9_walkItemr_1 (k : Nat) : cX9_walkItem.data.toList[16 + k]? = LRX9_walkItem_1[k]? := by
  have h := LBX9_walkItemr_0 (16 + k)
  rw [show 0 + (16 + k) = 16 + k by omega] at h
  rw [h]
  exact (List.getElem?_append_right (l₁ := LBX9_walkItem_0) (l₂ := LRX9_walkItem_1) (show 16 ≤ 16 + k by omega)).trans (congrArg (fun i => LRX9_walkItem_1[i]?) (show 16 + k - 16 = k by omega))
theorem LBX9_walkItemr_2 (k : Nat) : cX9_walkItem.data.toList[32 + k]? = LRX9_walkItem_2[k]? := by
  have h := LBX9_walkItemr_1 (16 + k)
  rw [show 16 + (16 + k) = 32 + k by omega] at h
  rw [h]
  exact (List.getElem?_append_right (l₁ := LBX9_walkItem_1) (l₂ := LRX9_walkItem_2) (show 16 ≤ 16 + k by omega)).trans (congrArg (fun i => LRX9_walkItem_2[i]?) (show 16 + k - 16 = k by omega))
theorem LBX9_walkItemr_3 (k : Nat) : cX9_walkItem.data.toList[48 + k]? = LRX9_walkItem_3[k]? := by
  have h := LBX9_walkItemr_2 (16 + k)
  rw [show 32 + (16 + k) = 48 + k by omega] at h
  rw [h]
  exact (List.getElem?_append_right (l₁ := LBX9_walkItem_2) (l₂ := LRX9_walkItem_3) (show 16 ≤ 16 + k by omega)).trans (congrArg (fun i => LRX9_walkItem_3[i]?) (show 16 + k - 16 = k by omega))
theorem LBX9_walkItemr_4 (k : Nat) : cX9_walkItem.data.toList[64 + k]? = LRX9_walkItem_4[k]? := by
  have h := LBX9_walkItemr_3 (16 + k)
  rw [show 48 + (16 + k) = 64 + k by omega] at h
  rw [h]
  exact (List.getElem?_append_right (l₁ := LBX9_walkItem_3) (l₂ := LRX9_walkItem_4) (show 16 ≤ 16 + k by omega)).trans (congrArg (fun i => LRX9_walkItem_4[i]?) (show 16 + k - 16 = k by omega))
theorem LBX9_walkItemr_5 (k : Nat) : cX9_walkItem.data.toList[80 + k]? = LRX9_walkItem_5[k]? := by
  have h := LBX9_walkItemr_4 (16 + k)
  rw [show 64 + (16 + k) = 80 + k by omega] at h
  rw [h]
  exact (List.getElem?_append_right (l₁ := LBX9_walkItem_4) (l₂ := LRX9_walkItem_5) (show 16 ≤ 16 + k by omega)).trans (congrArg (fun i => LRX9_walkItem_5[i]?) (show 16 + k - 16 = k by omega))
theorem LBX9_walkItemr_6 (k : Nat) : cX9_walkItem.data.toList[96 + k]? = LRX9_walkItem_6[k]? := by
  have h := LBX9_walkItemr_5 (16 + k)
  rw [show 80 + (16 + k) = 96 + k by omega] at h
  rw [h]
  exact (List.getElem?_append_right (l₁ := LBX9_walkItem_5) (l₂ := LRX9_walkItem_6) (show 16 ≤ 16 + k by omega)).trans (congrArg (fun i => LRX9_walkItem_6[i]?) (show 16 + k - 16 = k by omega))
theorem LBX9_walkItemr_7 (k : Nat) : cX9_walkItem.data.toList[112 + k]? = LRX9_walkItem_7[k]? := by
  have h := LBX9_walkItemr_6 (16 + k)
  rw [show 96 + (16 + k) = 112 + k by omega] at h
  rw [h]
  exact (List.getElem?_append_right (l₁ := LBX9_walkItem_6) (l₂ := LRX9_walkItem_7) (show 16 ≤ 16 + k by omega)).trans (congrArg (fun i => LRX9_walkItem_7[i]?) (show 16 + k - 16 = k by omega))
theorem LBX9_walkItemr_8 (k : Nat) : cX9_walkItem.data.toList[128 + k]? = LRX9_walkItem_8[k]? := by
  have h := LBX9_walkItemr_7 (16 + k)
  rw [show 112 + (16 + k) = 128 + k by omega] at h
  rw [h]
  exact (List.getElem?_append_right (l₁ := LBX9_walkItem_7) (l₂ := LRX9_walkItem_8) (show 16 ≤ 16 + k by omega)).trans (congrArg (fun i => LRX9_walkItem_8[i]?) (show 16 + k - 16 = k by omega))
theorem LBX9_walkItemr_9 (k : Nat) : cX9_walkItem.data.toList[144 + k]? = LRX9_walkItem_9[k]? := by
  have h := LBX9_walkItemr_8 (16 + k)
  rw [show 128 + (16 + k) = 144 + k by omega] at h
  rw [h]
  exact (List.getElem?_append_right (l₁ := LBX9_walkItem_8) (l₂ := LRX9_walkItem_9) (show 16 ≤ 16 + k by omega)).trans (congrArg (fun i => LRX9_walkItem_9[i]?) (show 16 + k - 16 = k by omega))
theorem LBX9_walkItemr_10 (k : Nat) : cX9_walkItem.data.toList[160 + k]? = LRX9_walkItem_10[k]? := by
  have h := LBX9_walkItemr_9 (16 + k)
  rw [show 144 + (16 + k) = 160 + k by omega] at h
  rw [h]
  exact (List.getElem?_append_right (l₁ := LBX9_walkItem_9) (l₂ := LRX9_walkItem_10) (show 16 ≤ 16 + k by omega)).trans (congrArg (fun i => LRX9_walkItem_10[i]?) (show 16 + k - 16 = k by omega))
theorem LBX9_walkItemr_11 (k : Nat) : cX9_walkItem.data.toList[176 + k]? = LRX9_walkItem_11[k]? := by
  have h := LBX9_walkItemr_10 (16 + k)
  rw [show 160 + (16 + k) = 176 + k by omega] at h
  rw [h]
  exact (List.getElem?_append_right (l₁ := LBX9_walkItem_10) (l₂ := LRX9_walkItem_11) (show 16 ≤ 16 + k by omega)).trans (congrArg (fun i => LRX9_walkItem_11[i]?) (show 16 + k - 16 = k by omega))
theorem LBX9_walkItemr_12 (k : Nat) : cX9_walkItem.data.toList[192 + k]? = LRX9_walkItem_12[k]? := by
  have h := LBX9_walkItemr_11 (16 + k)
  rw [show 176 + (16 + k) = 192 + k by omega] at h
  rw [h]
  exact (List.getElem?_append_right (l₁ := LBX9_walkItem_11) (l₂ := LRX9_walkItem_12) (show 16 ≤ 16 + k by omega)).trans (congrArg (fun i => LRX9_walkItem_12[i]?) (show 16 + k - 16 = k by omega))
theorem LBX9_walkItemr_13 (k : Nat) : cX9_walkItem.data.toList[208 + k]? = LRX9_walkItem_13[k]? := by
  have h := LBX9_walkItemr_12 (16 + k)
  rw [show 192 + (16 + k) = 208 + k by omega] at h
  rw [h]
  exact (List.getElem?_append_right (l₁ := LBX9_walkItem_12) (l₂ := LRX9_walkItem_13) (show 16 ≤ 16 + k by omega)).trans (congrArg (fun i => LRX9_walkItem_13[i]?) (show 16 + k - 16 = k by omega))
theorem LBX9_walkItemr_14 (k : Nat) : cX9_walkItem.data.toList[224 + k]? = LRX9_walkItem_14[k]? := by
  have h := LBX9_walkItemr_13 (16 + k)
  rw [show 208 + (16 + k) = 224 + k by omega] at h
  rw [h]
  exact (List.getElem?_append_right (l₁ := LBX9_walkItem_13) (l₂ := LRX9_walkItem_14) (show 16 ≤ 16 + k by omega)).trans (congrArg (fun i => LRX9_walkItem_14[i]?) (show 16 + k - 16 = k by omega))
theorem LBX9_walkItemr_15 (k : Nat) : cX9_walkItem.data.toList[240 + k]? = LRX9_walkItem_15[k]? := by
  have h := LBX9_walkItemr_14 (16 + k)
  rw [show 224 + (16 + k) = 240 + k by omega] at h
  rw [h]
  exact (List.getElem?_append_right (l₁ := LBX9_walkItem_14) (l₂ := LRX9_walkItem_15) (show 16 ≤ 16 + k by omega)).trans (congrArg (fun i => LRX9_walkItem_15[i]?) (show 16 + k - 16 = k by omega))
theorem dX9_walkItem_0 : decode cX9_walkItem 0 = .ok (.aload_n 0, 1) := dk_42_ (show cX9_walkItem.data.toList[0]? = some 0x2a from (LBX9_walkItemr_0 0).trans (by decide +kernel))
theorem dX9_walkItem_1 : decode cX9_walkItem 1 = .ok (.aload_n 0, 1) := dk_42_ (show cX9_walkItem.data.toList[1]? = some 0x2a from (LBX9_walkItemr_0 1).trans (by decide +kernel))
theorem dX9_walkItem_2 : decode cX9_walkItem 2 = .ok (.getfield 7, 3) := dk_180_ (show cX9_walkItem.data.toList[2]? = some 0xb4 from (LBX9_walkItemr_0 2).trans (by decide +kernel)) (show cX9_walkItem.data.toList[3]? = some 0x00 from (LBX9_walkItemr_0 3).trans (by decide +kernel)) (show cX9_walkItem.data.toList[4]? = some 0x07 from (LBX9_walkItemr_0 4).trans (by decide +kernel)) (by decide)
theorem dX9_walkItem_5 : decode cX9_walkItem 5 = .ok (.iconst 2, 1) := dk_5_ (show cX9_walkItem.data.toList[5]? = some 0x05 from (LBX9_walkItemr_0 5).trans (by decide +kernel))
theorem dX9_walkItem_6 : decode cX9_walkItem 6 = .ok (.iaload, 1) := dk_46_ (show cX9_walkItem.data.toList[6]? = some 0x2e from (LBX9_walkItemr_0 6).trans (by decide +kernel))
theorem dX9_walkItem_7 : decode cX9_walkItem 7 = .ok (.bipush 8, 2) := dk_16_ (show cX9_walkItem.data.toList[7]? = some 0x10 from (LBX9_walkItemr_0 7).trans (by decide +kernel)) (show cX9_walkItem.data.toList[8]? = some 0x08 from (LBX9_walkItemr_0 8).trans (by decide +kernel)) (by decide)
theorem dX9_walkItem_9 : decode cX9_walkItem 9 = .ok (.if_icmp .ge 7, 3) := dk_162_ (show cX9_walkItem.data.toList[9]? = some 0xa2 from (LBX9_walkItemr_0 9).trans (by decide +kernel)) (show cX9_walkItem.data.toList[10]? = some 0x00 from (LBX9_walkItemr_0 10).trans (by decide +kernel)) (show cX9_walkItem.data.toList[11]? = some 0x07 from (LBX9_walkItemr_0 11).trans (by decide +kernel)) (by decide)
theorem dX9_walkItem_12 : decode cX9_walkItem 12 = .ok (.iconst 1, 1) := dk_4_ (show cX9_walkItem.data.toList[12]? = some 0x04 from (LBX9_walkItemr_0 12).trans (by decide +kernel))
theorem dX9_walkItem_13 : decode cX9_walkItem 13 = .ok (.goto 4, 3) := dk_167_ (show cX9_walkItem.data.toList[13]? = some 0xa7 from (LBX9_walkItemr_0 13).trans (by decide +kernel)) (show cX9_walkItem.data.toList[14]? = some 0x00 from (LBX9_walkItemr_0 14).trans (by decide +kernel)) (show cX9_walkItem.data.toList[15]? = some 0x04 from (LBX9_walkItemr_0 15).trans (by decide +kernel)) (by decide)
theorem dX9_walkItem_16 : decode cX9_walkItem 16 = .ok (.iconst 0, 1) := dk_3_ (show cX9_walkItem.data.toList[16]? = some 0x03 from (LBX9_walkItemr_1 0).trans (by decide +kernel))
theorem dX9_walkItem_17 : decode cX9_walkItem 17 = .ok (.invokevirtual 278, 3) := dk_182_ (show cX9_walkItem.data.toList[17]? = some 0xb6 from (LBX9_walkItemr_1 1).trans (by decide +kernel)) (show cX9_walkItem.data.toList[18]? = some 0x01 from (LBX9_walkItemr_1 2).trans (by decide +kernel)) (show cX9_walkItem.data.toList[19]? = some 0x16 from (LBX9_walkItemr_1 3).trans (by decide +kernel)) (by decide)
theorem dX9_walkItem_20 : decode cX9_walkItem 20 = .ok (.iconst 0, 1) := dk_3_ (show cX9_walkItem.data.toList[20]? = some 0x03 from (LBX9_walkItemr_1 4).trans (by decide +kernel))
theorem dX9_walkItem_21 : decode cX9_walkItem 21 = .ok (.istore_n 1, 1) := dk_60_ (show cX9_walkItem.data.toList[21]? = some 0x3c from (LBX9_walkItemr_1 5).trans (by decide +kernel))
theorem dX9_walkItem_22 : decode cX9_walkItem 22 = .ok (.aload_n 0, 1) := dk_42_ (show cX9_walkItem.data.toList[22]? = some 0x2a from (LBX9_walkItemr_1 6).trans (by decide +kernel))
theorem dX9_walkItem_23 : decode cX9_walkItem 23 = .ok (.getfield 266, 3) := dk_180_ (show cX9_walkItem.data.toList[23]? = some 0xb4 from (LBX9_walkItemr_1 7).trans (by decide +kernel)) (show cX9_walkItem.data.toList[24]? = some 0x01 from (LBX9_walkItemr_1 8).trans (by decide +kernel)) (show cX9_walkItem.data.toList[25]? = some 0x0a from (LBX9_walkItemr_1 9).trans (by decide +kernel)) (by decide)
theorem dX9_walkItem_26 : decode cX9_walkItem 26 = .ok (.ifCond .ne 79, 3) := dk_154_ (show cX9_walkItem.data.toList[26]? = some 0x9a from (LBX9_walkItemr_1 10).trans (by decide +kernel)) (show cX9_walkItem.data.toList[27]? = some 0x00 from (LBX9_walkItemr_1 11).trans (by decide +kernel)) (show cX9_walkItem.data.toList[28]? = some 0x4f from (LBX9_walkItemr_1 12).trans (by decide +kernel)) (by decide)
theorem dX9_walkItem_29 : decode cX9_walkItem 29 = .ok (.iload_n 1, 1) := dk_27_ (show cX9_walkItem.data.toList[29]? = some 0x1b from (LBX9_walkItemr_1 13).trans (by decide +kernel))
theorem dX9_walkItem_30 : decode cX9_walkItem 30 = .ok (.bipush 6, 2) := dk_16_ (show cX9_walkItem.data.toList[30]? = some 0x10 from (LBX9_walkItemr_1 14).trans (by decide +kernel)) (show cX9_walkItem.data.toList[31]? = some 0x06 from (LBX9_walkItemr_1 15).trans (by decide +kernel)) (by decide)
theorem dX9_walkItem_32 : decode cX9_walkItem 32 = .ok (.if_icmp .ge 73, 3) := dk_162_ (show cX9_walkItem.data.toList[32]? = some 0xa2 from (LBX9_walkItemr_2 0).trans (by decide +kernel)) (show cX9_walkItem.data.toList[33]? = some 0x00 from (LBX9_walkItemr_2 1).trans (by decide +kernel)) (show cX9_walkItem.data.toList[34]? = some 0x49 from (LBX9_walkItemr_2 2).trans (by decide +kernel)) (by decide)
theorem dX9_walkItem_35 : decode cX9_walkItem 35 = .ok (.iload_n 1, 1) := dk_27_ (show cX9_walkItem.data.toList[35]? = some 0x1b from (LBX9_walkItemr_2 3).trans (by decide +kernel))
theorem dX9_walkItem_36 : decode cX9_walkItem 36 = .ok (.iconst 2, 1) := dk_5_ (show cX9_walkItem.data.toList[36]? = some 0x05 from (LBX9_walkItemr_2 4).trans (by decide +kernel))
theorem dX9_walkItem_37 : decode cX9_walkItem 37 = .ok (.if_icmp .lt 17, 3) := dk_161_ (show cX9_walkItem.data.toList[37]? = some 0xa1 from (LBX9_walkItemr_2 5).trans (by decide +kernel)) (show cX9_walkItem.data.toList[38]? = some 0x00 from (LBX9_walkItemr_2 6).trans (by decide +kernel)) (show cX9_walkItem.data.toList[39]? = some 0x11 from (LBX9_walkItemr_2 7).trans (by decide +kernel)) (by decide)
theorem dX9_walkItem_40 : decode cX9_walkItem 40 = .ok (.aload_n 0, 1) := dk_42_ (show cX9_walkItem.data.toList[40]? = some 0x2a from (LBX9_walkItemr_2 8).trans (by decide +kernel))
theorem dX9_walkItem_41 : decode cX9_walkItem 41 = .ok (.aload_n 0, 1) := dk_42_ (show cX9_walkItem.data.toList[41]? = some 0x2a from (LBX9_walkItemr_2 9).trans (by decide +kernel))
theorem dX9_walkItem_42 : decode cX9_walkItem 42 = .ok (.getfield 254, 3) := dk_180_ (show cX9_walkItem.data.toList[42]? = some 0xb4 from (LBX9_walkItemr_2 10).trans (by decide +kernel)) (show cX9_walkItem.data.toList[43]? = some 0x00 from (LBX9_walkItemr_2 11).trans (by decide +kernel)) (show cX9_walkItem.data.toList[44]? = some 0xfe from (LBX9_walkItemr_2 12).trans (by decide +kernel)) (by decide)
theorem dX9_walkItem_45 : decode cX9_walkItem 45 = .ok (.invokevirtual 257, 3) := dk_182_ (show cX9_walkItem.data.toList[45]? = some 0xb6 from (LBX9_walkItemr_2 13).trans (by decide +kernel)) (show cX9_walkItem.data.toList[46]? = some 0x01 from (LBX9_walkItemr_2 14).trans (by decide +kernel)) (show cX9_walkItem.data.toList[47]? = some 0x01 from (LBX9_walkItemr_2 15).trans (by decide +kernel)) (by decide)
theorem dX9_walkItem_48 : decode cX9_walkItem 48 = .ok (.invokestatic 263, 3) := dk_184_ (show cX9_walkItem.data.toList[48]? = some 0xb8 from (LBX9_walkItemr_3 0).trans (by decide +kernel)) (show cX9_walkItem.data.toList[49]? = some 0x01 from (LBX9_walkItemr_3 1).trans (by decide +kernel)) (show cX9_walkItem.data.toList[50]? = some 0x07 from (LBX9_walkItemr_3 2).trans (by decide +kernel)) (by decide)
theorem dX9_walkItem_51 : decode cX9_walkItem 51 = .ok (.ifCond .eq 54, 3) := dk_153_ (show cX9_walkItem.data.toList[51]? = some 0x99 from (LBX9_walkItemr_3 3).trans (by decide +kernel)) (show cX9_walkItem.data.toList[52]? = some 0x00 from (LBX9_walkItemr_3 4).trans (by decide +kernel)) (show cX9_walkItem.data.toList[53]? = some 0x36 from (LBX9_walkItemr_3 5).trans (by decide +kernel)) (by decide)
theorem dX9_walkItem_54 : decode cX9_walkItem 54 = .ok (.aload_n 0, 1) := dk_42_ (show cX9_walkItem.data.toList[54]? = some 0x2a from (LBX9_walkItemr_3 6).trans (by decide +kernel))
theorem dX9_walkItem_55 : decode cX9_walkItem 55 = .ok (.invokevirtual 284, 3) := dk_182_ (show cX9_walkItem.data.toList[55]? = some 0xb6 from (LBX9_walkItemr_3 7).trans (by decide +kernel)) (show cX9_walkItem.data.toList[56]? = some 0x01 from (LBX9_walkItemr_3 8).trans (by decide +kernel)) (show cX9_walkItem.data.toList[57]? = some 0x1c from (LBX9_walkItemr_3 9).trans (by decide +kernel)) (by decide)
theorem dX9_walkItem_58 : decode cX9_walkItem 58 = .ok (.istore_n 2, 1) := dk_61_ (show cX9_walkItem.data.toList[58]? = some 0x3d from (LBX9_walkItemr_3 10).trans (by decide +kernel))
theorem dX9_walkItem_59 : decode cX9_walkItem 59 = .ok (.aload_n 0, 1) := dk_42_ (show cX9_walkItem.data.toList[59]? = some 0x2a from (LBX9_walkItemr_3 11).trans (by decide +kernel))
theorem dX9_walkItem_60 : decode cX9_walkItem 60 = .ok (.aload_n 0, 1) := dk_42_ (show cX9_walkItem.data.toList[60]? = some 0x2a from (LBX9_walkItemr_3 12).trans (by decide +kernel))
theorem dX9_walkItem_61 : decode cX9_walkItem 61 = .ok (.iload_n 2, 1) := dk_28_ (show cX9_walkItem.data.toList[61]? = some 0x1c from (LBX9_walkItemr_3 13).trans (by decide +kernel))
theorem dX9_walkItem_62 : decode cX9_walkItem 62 = .ok (.invokevirtual 61, 3) := dk_182_ (show cX9_walkItem.data.toList[62]? = some 0xb6 from (LBX9_walkItemr_3 14).trans (by decide +kernel)) (show cX9_walkItem.data.toList[63]? = some 0x00 from (LBX9_walkItemr_3 15).trans (by decide +kernel)) (show cX9_walkItem.data.toList[64]? = some 0x3d from (LBX9_walkItemr_4 0).trans (by decide +kernel)) (by decide)
theorem dX9_walkItem_65 : decode cX9_walkItem 65 = .ok (.ifCond .eq 23, 3) := dk_153_ (show cX9_walkItem.data.toList[65]? = some 0x99 from (LBX9_walkItemr_4 1).trans (by decide +kernel)) (show cX9_walkItem.data.toList[66]? = some 0x00 from (LBX9_walkItemr_4 2).trans (by decide +kernel)) (show cX9_walkItem.data.toList[67]? = some 0x17 from (LBX9_walkItemr_4 3).trans (by decide +kernel)) (by decide)
theorem dX9_walkItem_68 : decode cX9_walkItem 68 = .ok (.iload_n 1, 1) := dk_27_ (show cX9_walkItem.data.toList[68]? = some 0x1b from (LBX9_walkItemr_4 4).trans (by decide +kernel))
theorem dX9_walkItem_69 : decode cX9_walkItem 69 = .ok (.ifCond .eq 15, 3) := dk_153_ (show cX9_walkItem.data.toList[69]? = some 0x99 from (LBX9_walkItemr_4 5).trans (by decide +kernel)) (show cX9_walkItem.data.toList[70]? = some 0x00 from (LBX9_walkItemr_4 6).trans (by decide +kernel)) (show cX9_walkItem.data.toList[71]? = some 0x0f from (LBX9_walkItemr_4 7).trans (by decide +kernel)) (by decide)
theorem dX9_walkItem_72 : decode cX9_walkItem 72 = .ok (.iload_n 2, 1) := dk_28_ (show cX9_walkItem.data.toList[72]? = some 0x1c from (LBX9_walkItemr_4 8).trans (by decide +kernel))
theorem dX9_walkItem_73 : decode cX9_walkItem 73 = .ok (.aload_n 0, 1) := dk_42_ (show cX9_walkItem.data.toList[73]? = some 0x2a from (LBX9_walkItemr_4 9).trans (by decide +kernel))
theorem dX9_walkItem_74 : decode cX9_walkItem 74 = .ok (.getfield 40, 3) := dk_180_ (show cX9_walkItem.data.toList[74]? = some 0xb4 from (LBX9_walkItemr_4 10).trans (by decide +kernel)) (show cX9_walkItem.data.toList[75]? = some 0x00 from (LBX9_walkItemr_4 11).trans (by decide +kernel)) (show cX9_walkItem.data.toList[76]? = some 0x28 from (LBX9_walkItemr_4 12).trans (by decide +kernel)) (by decide)
theorem dX9_walkItem_77 : decode cX9_walkItem 77 = .ok (.iload_n 1, 1) := dk_27_ (show cX9_walkItem.data.toList[77]? = some 0x1b from (LBX9_walkItemr_4 13).trans (by decide +kernel))
theorem dX9_walkItem_78 : decode cX9_walkItem 78 = .ok (.iconst 1, 1) := dk_4_ (show cX9_walkItem.data.toList[78]? = some 0x04 from (LBX9_walkItemr_4 14).trans (by decide +kernel))
theorem dX9_walkItem_79 : decode cX9_walkItem 79 = .ok (.isub, 1) := dk_100_ (show cX9_walkItem.data.toList[79]? = some 0x64 from (LBX9_walkItemr_4 15).trans (by decide +kernel))
theorem dX9_walkItem_80 : decode cX9_walkItem 80 = .ok (.iaload, 1) := dk_46_ (show cX9_walkItem.data.toList[80]? = some 0x2e from (LBX9_walkItemr_5 0).trans (by decide +kernel))
theorem dX9_walkItem_81 : decode cX9_walkItem 81 = .ok (.if_icmp .eq 7, 3) := dk_159_ (show cX9_walkItem.data.toList[81]? = some 0x9f from (LBX9_walkItemr_5 1).trans (by decide +kernel)) (show cX9_walkItem.data.toList[82]? = some 0x00 from (LBX9_walkItemr_5 2).trans (by decide +kernel)) (show cX9_walkItem.data.toList[83]? = some 0x07 from (LBX9_walkItemr_5 3).trans (by decide +kernel)) (by decide)
theorem dX9_walkItem_84 : decode cX9_walkItem 84 = .ok (.iconst 1, 1) := dk_4_ (show cX9_walkItem.data.toList[84]? = some 0x04 from (LBX9_walkItemr_5 4).trans (by decide +kernel))
theorem dX9_walkItem_85 : decode cX9_walkItem 85 = .ok (.goto 4, 3) := dk_167_ (show cX9_walkItem.data.toList[85]? = some 0xa7 from (LBX9_walkItemr_5 5).trans (by decide +kernel)) (show cX9_walkItem.data.toList[86]? = some 0x00 from (LBX9_walkItemr_5 6).trans (by decide +kernel)) (show cX9_walkItem.data.toList[87]? = some 0x04 from (LBX9_walkItemr_5 7).trans (by decide +kernel)) (by decide)
theorem dX9_walkItem_88 : decode cX9_walkItem 88 = .ok (.iconst 0, 1) := dk_3_ (show cX9_walkItem.data.toList[88]? = some 0x03 from (LBX9_walkItemr_5 8).trans (by decide +kernel))
theorem dX9_walkItem_89 : decode cX9_walkItem 89 = .ok (.invokevirtual 278, 3) := dk_182_ (show cX9_walkItem.data.toList[89]? = some 0xb6 from (LBX9_walkItemr_5 9).trans (by decide +kernel)) (show cX9_walkItem.data.toList[90]? = some 0x01 from (LBX9_walkItemr_5 10).trans (by decide +kernel)) (show cX9_walkItem.data.toList[91]? = some 0x16 from (LBX9_walkItemr_5 11).trans (by decide +kernel)) (by decide)
theorem dX9_walkItem_92 : decode cX9_walkItem 92 = .ok (.aload_n 0, 1) := dk_42_ (show cX9_walkItem.data.toList[92]? = some 0x2a from (LBX9_walkItemr_5 12).trans (by decide +kernel))
theorem dX9_walkItem_93 : decode cX9_walkItem 93 = .ok (.getfield 40, 3) := dk_180_ (show cX9_walkItem.data.toList[93]? = some 0xb4 from (LBX9_walkItemr_5 13).trans (by decide +kernel)) (show cX9_walkItem.data.toList[94]? = some 0x00 from (LBX9_walkItemr_5 14).trans (by decide +kernel)) (show cX9_walkItem.data.toList[95]? = some 0x28 from (LBX9_walkItemr_5 15).trans (by decide +kernel)) (by decide)
theorem dX9_walkItem_96 : decode cX9_walkItem 96 = .ok (.iload_n 1, 1) := dk_27_ (show cX9_walkItem.data.toList[96]? = some 0x1b from (LBX9_walkItemr_6 0).trans (by decide +kernel))
theorem dX9_walkItem_97 : decode cX9_walkItem 97 = .ok (.iload_n 2, 1) := dk_28_ (show cX9_walkItem.data.toList[97]? = some 0x1c from (LBX9_walkItemr_6 1).trans (by decide +kernel))
theorem dX9_walkItem_98 : decode cX9_walkItem 98 = .ok (.iastore, 1) := dk_79_ (show cX9_walkItem.data.toList[98]? = some 0x4f from (LBX9_walkItemr_6 2).trans (by decide +kernel))
theorem dX9_walkItem_99 : decode cX9_walkItem 99 = .ok (.iinc 1 1, 3) := dk_132_ (show cX9_walkItem.data.toList[99]? = some 0x84 from (LBX9_walkItemr_6 3).trans (by decide +kernel)) (show cX9_walkItem.data.toList[100]? = some 0x01 from (LBX9_walkItemr_6 4).trans (by decide +kernel)) (show cX9_walkItem.data.toList[101]? = some 0x01 from (LBX9_walkItemr_6 5).trans (by decide +kernel)) (by decide) (by decide)
theorem dX9_walkItem_102 : decode cX9_walkItem 102 = .ok (.goto (-80), 3) := dk_167_ (show cX9_walkItem.data.toList[102]? = some 0xa7 from (LBX9_walkItemr_6 6).trans (by decide +kernel)) (show cX9_walkItem.data.toList[103]? = some 0xff from (LBX9_walkItemr_6 7).trans (by decide +kernel)) (show cX9_walkItem.data.toList[104]? = some 0xb0 from (LBX9_walkItemr_6 8).trans (by decide +kernel)) (by decide)
theorem dX9_walkItem_105 : decode cX9_walkItem 105 = .ok (.aload_n 0, 1) := dk_42_ (show cX9_walkItem.data.toList[105]? = some 0x2a from (LBX9_walkItemr_6 9).trans (by decide +kernel))
theorem dX9_walkItem_106 : decode cX9_walkItem 106 = .ok (.aload_n 0, 1) := dk_42_ (show cX9_walkItem.data.toList[106]? = some 0x2a from (LBX9_walkItemr_6 10).trans (by decide +kernel))
theorem dX9_walkItem_107 : decode cX9_walkItem 107 = .ok (.bipush 97, 2) := dk_16_ (show cX9_walkItem.data.toList[107]? = some 0x10 from (LBX9_walkItemr_6 11).trans (by decide +kernel)) (show cX9_walkItem.data.toList[108]? = some 0x61 from (LBX9_walkItemr_6 12).trans (by decide +kernel)) (by decide)
theorem dX9_walkItem_109 : decode cX9_walkItem 109 = .ok (.bipush 108, 2) := dk_16_ (show cX9_walkItem.data.toList[109]? = some 0x10 from (LBX9_walkItemr_6 13).trans (by decide +kernel)) (show cX9_walkItem.data.toList[110]? = some 0x6c from (LBX9_walkItemr_6 14).trans (by decide +kernel)) (by decide)
theorem dX9_walkItem_111 : decode cX9_walkItem 111 = .ok (.bipush 108, 2) := dk_16_ (show cX9_walkItem.data.toList[111]? = some 0x10 from (LBX9_walkItemr_6 15).trans (by decide +kernel)) (show cX9_walkItem.data.toList[112]? = some 0x6c from (LBX9_walkItemr_7 0).trans (by decide +kernel)) (by decide)
theorem dX9_walkItem_113 : decode cX9_walkItem 113 = .ok (.iconst 0, 1) := dk_3_ (show cX9_walkItem.data.toList[113]? = some 0x03 from (LBX9_walkItemr_7 1).trans (by decide +kernel))
theorem dX9_walkItem_114 : decode cX9_walkItem 114 = .ok (.iconst 0, 1) := dk_3_ (show cX9_walkItem.data.toList[114]? = some 0x03 from (LBX9_walkItemr_7 2).trans (by decide +kernel))
theorem dX9_walkItem_115 : decode cX9_walkItem 115 = .ok (.iconst 0, 1) := dk_3_ (show cX9_walkItem.data.toList[115]? = some 0x03 from (LBX9_walkItemr_7 3).trans (by decide +kernel))
theorem dX9_walkItem_116 : decode cX9_walkItem 116 = .ok (.iconst 0, 1) := dk_3_ (show cX9_walkItem.data.toList[116]? = some 0x03 from (LBX9_walkItemr_7 4).trans (by decide +kernel))
theorem dX9_walkItem_117 : decode cX9_walkItem 117 = .ok (.invokevirtual 290, 3) := dk_182_ (show cX9_walkItem.data.toList[117]? = some 0xb6 from (LBX9_walkItemr_7 5).trans (by decide +kernel)) (show cX9_walkItem.data.toList[118]? = some 0x01 from (LBX9_walkItemr_7 6).trans (by decide +kernel)) (show cX9_walkItem.data.toList[119]? = some 0x22 from (LBX9_walkItemr_7 7).trans (by decide +kernel)) (by decide)
theorem dX9_walkItem_120 : decode cX9_walkItem 120 = .ok (.invokevirtual 278, 3) := dk_182_ (show cX9_walkItem.data.toList[120]? = some 0xb6 from (LBX9_walkItemr_7 8).trans (by decide +kernel)) (show cX9_walkItem.data.toList[121]? = some 0x01 from (LBX9_walkItemr_7 9).trans (by decide +kernel)) (show cX9_walkItem.data.toList[122]? = some 0x16 from (LBX9_walkItemr_7 10).trans (by decide +kernel)) (by decide)
theorem dX9_walkItem_123 : decode cX9_walkItem 123 = .ok (.aload_n 0, 1) := dk_42_ (show cX9_walkItem.data.toList[123]? = some 0x2a from (LBX9_walkItemr_7 11).trans (by decide +kernel))
theorem dX9_walkItem_124 : decode cX9_walkItem 124 = .ok (.sipush (-9999), 3) := dk_17_ (show cX9_walkItem.data.toList[124]? = some 0x11 from (LBX9_walkItemr_7 12).trans (by decide +kernel)) (show cX9_walkItem.data.toList[125]? = some 0xd8 from (LBX9_walkItemr_7 13).trans (by decide +kernel)) (show cX9_walkItem.data.toList[126]? = some 0xf1 from (LBX9_walkItemr_7 14).trans (by decide +kernel)) (by decide)
theorem dX9_walkItem_127 : decode cX9_walkItem 127 = .ok (.sipush 9999, 3) := dk_17_ (show cX9_walkItem.data.toList[127]? = some 0x11 from (LBX9_walkItemr_7 15).trans (by decide +kernel)) (show cX9_walkItem.data.toList[128]? = some 0x27 from (LBX9_walkItemr_8 0).trans (by decide +kernel)) (show cX9_walkItem.data.toList[129]? = some 0x0f from (LBX9_walkItemr_8 1).trans (by decide +kernel)) (by decide)
theorem dX9_walkItem_130 : decode cX9_walkItem 130 = .ok (.invokevirtual 287, 3) := dk_182_ (show cX9_walkItem.data.toList[130]? = some 0xb6 from (LBX9_walkItemr_8 2).trans (by decide +kernel)) (show cX9_walkItem.data.toList[131]? = some 0x01 from (LBX9_walkItemr_8 3).trans (by decide +kernel)) (show cX9_walkItem.data.toList[132]? = some 0x1f from (LBX9_walkItemr_8 4).trans (by decide +kernel)) (by decide)
theorem dX9_walkItem_133 : decode cX9_walkItem 133 = .ok (.aload_n 0, 1) := dk_42_ (show cX9_walkItem.data.toList[133]? = some 0x2a from (LBX9_walkItemr_8 5).trans (by decide +kernel))
theorem dX9_walkItem_134 : decode cX9_walkItem 134 = .ok (.getfield 275, 3) := dk_180_ (show cX9_walkItem.data.toList[134]? = some 0xb4 from (LBX9_walkItemr_8 6).trans (by decide +kernel)) (show cX9_walkItem.data.toList[135]? = some 0x01 from (LBX9_walkItemr_8 7).trans (by decide +kernel)) (show cX9_walkItem.data.toList[136]? = some 0x13 from (LBX9_walkItemr_8 8).trans (by decide +kernel)) (by decide)
theorem dX9_walkItem_137 : decode cX9_walkItem 137 = .ok (.istore_n 2, 1) := dk_61_ (show cX9_walkItem.data.toList[137]? = some 0x3d from (LBX9_walkItemr_8 9).trans (by decide +kernel))
theorem dX9_walkItem_138 : decode cX9_walkItem 138 = .ok (.iconst 0, 1) := dk_3_ (show cX9_walkItem.data.toList[138]? = some 0x03 from (LBX9_walkItemr_8 10).trans (by decide +kernel))
theorem dX9_walkItem_139 : decode cX9_walkItem 139 = .ok (.istore_n 3, 1) := dk_62_ (show cX9_walkItem.data.toList[139]? = some 0x3e from (LBX9_walkItemr_8 11).trans (by decide +kernel))
theorem dX9_walkItem_140 : decode cX9_walkItem 140 = .ok (.aload_n 0, 1) := dk_42_ (show cX9_walkItem.data.toList[140]? = some 0x2a from (LBX9_walkItemr_8 12).trans (by decide +kernel))
theorem dX9_walkItem_141 : decode cX9_walkItem 141 = .ok (.bipush 115, 2) := dk_16_ (show cX9_walkItem.data.toList[141]? = some 0x10 from (LBX9_walkItemr_8 13).trans (by decide +kernel)) (show cX9_walkItem.data.toList[142]? = some 0x73 from (LBX9_walkItemr_8 14).trans (by decide +kernel)) (by decide)
theorem dX9_walkItem_143 : decode cX9_walkItem 143 = .ok (.bipush 108, 2) := dk_16_ (show cX9_walkItem.data.toList[143]? = some 0x10 from (LBX9_walkItemr_8 15).trans (by decide +kernel)) (show cX9_walkItem.data.toList[144]? = some 0x6c from (LBX9_walkItemr_9 0).trans (by decide +kernel)) (by decide)
theorem dX9_walkItem_145 : decode cX9_walkItem 145 = .ok (.bipush 97, 2) := dk_16_ (show cX9_walkItem.data.toList[145]? = some 0x10 from (LBX9_walkItemr_9 1).trans (by decide +kernel)) (show cX9_walkItem.data.toList[146]? = some 0x61 from (LBX9_walkItemr_9 2).trans (by decide +kernel)) (by decide)
theorem dX9_walkItem_147 : decode cX9_walkItem 147 = .ok (.bipush 99, 2) := dk_16_ (show cX9_walkItem.data.toList[147]? = some 0x10 from (LBX9_walkItemr_9 3).trans (by decide +kernel)) (show cX9_walkItem.data.toList[148]? = some 0x63 from (LBX9_walkItemr_9 4).trans (by decide +kernel)) (by decide)
theorem dX9_walkItem_149 : decode cX9_walkItem 149 = .ok (.bipush 107, 2) := dk_16_ (show cX9_walkItem.data.toList[149]? = some 0x10 from (LBX9_walkItemr_9 5).trans (by decide +kernel)) (show cX9_walkItem.data.toList[150]? = some 0x6b from (LBX9_walkItemr_9 6).trans (by decide +kernel)) (by decide)
theorem dX9_walkItem_151 : decode cX9_walkItem 151 = .ok (.iconst 0, 1) := dk_3_ (show cX9_walkItem.data.toList[151]? = some 0x03 from (LBX9_walkItemr_9 7).trans (by decide +kernel))
theorem dX9_walkItem_152 : decode cX9_walkItem 152 = .ok (.iconst 0, 1) := dk_3_ (show cX9_walkItem.data.toList[152]? = some 0x03 from (LBX9_walkItemr_9 8).trans (by decide +kernel))
theorem dX9_walkItem_153 : decode cX9_walkItem 153 = .ok (.invokevirtual 290, 3) := dk_182_ (show cX9_walkItem.data.toList[153]? = some 0xb6 from (LBX9_walkItemr_9 9).trans (by decide +kernel)) (show cX9_walkItem.data.toList[154]? = some 0x01 from (LBX9_walkItemr_9 10).trans (by decide +kernel)) (show cX9_walkItem.data.toList[155]? = some 0x22 from (LBX9_walkItemr_9 11).trans (by decide +kernel)) (by decide)
theorem dX9_walkItem_156 : decode cX9_walkItem 156 = .ok (.ifCond .eq 20, 3) := dk_153_ (show cX9_walkItem.data.toList[156]? = some 0x99 from (LBX9_walkItemr_9 12).trans (by decide +kernel)) (show cX9_walkItem.data.toList[157]? = some 0x00 from (LBX9_walkItemr_9 13).trans (by decide +kernel)) (show cX9_walkItem.data.toList[158]? = some 0x14 from (LBX9_walkItemr_9 14).trans (by decide +kernel)) (by decide)
theorem dX9_walkItem_159 : decode cX9_walkItem 159 = .ok (.aload_n 0, 1) := dk_42_ (show cX9_walkItem.data.toList[159]? = some 0x2a from (LBX9_walkItemr_9 15).trans (by decide +kernel))
theorem dX9_walkItem_160 : decode cX9_walkItem 160 = .ok (.iconst 1, 1) := dk_4_ (show cX9_walkItem.data.toList[160]? = some 0x04 from (LBX9_walkItemr_10 0).trans (by decide +kernel))
theorem dX9_walkItem_161 : decode cX9_walkItem 161 = .ok (.invokevirtual 278, 3) := dk_182_ (show cX9_walkItem.data.toList[161]? = some 0xb6 from (LBX9_walkItemr_10 1).trans (by decide +kernel)) (show cX9_walkItem.data.toList[162]? = some 0x01 from (LBX9_walkItemr_10 2).trans (by decide +kernel)) (show cX9_walkItem.data.toList[163]? = some 0x16 from (LBX9_walkItemr_10 3).trans (by decide +kernel)) (by decide)
theorem dX9_walkItem_164 : decode cX9_walkItem 164 = .ok (.aload_n 0, 1) := dk_42_ (show cX9_walkItem.data.toList[164]? = some 0x2a from (LBX9_walkItemr_10 4).trans (by decide +kernel))
theorem dX9_walkItem_165 : decode cX9_walkItem 165 = .ok (.iconst 0, 1) := dk_3_ (show cX9_walkItem.data.toList[165]? = some 0x03 from (LBX9_walkItemr_10 5).trans (by decide +kernel))
theorem dX9_walkItem_166 : decode cX9_walkItem 166 = .ok (.bipush 99, 2) := dk_16_ (show cX9_walkItem.data.toList[166]? = some 0x10 from (LBX9_walkItemr_10 6).trans (by decide +kernel)) (show cX9_walkItem.data.toList[167]? = some 0x63 from (LBX9_walkItemr_10 7).trans (by decide +kernel)) (by decide)
theorem dX9_walkItem_168 : decode cX9_walkItem 168 = .ok (.invokevirtual 282, 3) := dk_182_ (show cX9_walkItem.data.toList[168]? = some 0xb6 from (LBX9_walkItemr_10 8).trans (by decide +kernel)) (show cX9_walkItem.data.toList[169]? = some 0x01 from (LBX9_walkItemr_10 9).trans (by decide +kernel)) (show cX9_walkItem.data.toList[170]? = some 0x1a from (LBX9_walkItemr_10 10).trans (by decide +kernel)) (by decide)
theorem dX9_walkItem_171 : decode cX9_walkItem 171 = .ok (.aload_n 0, 1) := dk_42_ (show cX9_walkItem.data.toList[171]? = some 0x2a from (LBX9_walkItemr_10 11).trans (by decide +kernel))
theorem dX9_walkItem_172 : decode cX9_walkItem 172 = .ok (.getfield 275, 3) := dk_180_ (show cX9_walkItem.data.toList[172]? = some 0xb4 from (LBX9_walkItemr_10 12).trans (by decide +kernel)) (show cX9_walkItem.data.toList[173]? = some 0x01 from (LBX9_walkItemr_10 13).trans (by decide +kernel)) (show cX9_walkItem.data.toList[174]? = some 0x13 from (LBX9_walkItemr_10 14).trans (by decide +kernel)) (by decide)
theorem dX9_walkItem_175 : decode cX9_walkItem 175 = .ok (.istore_n 3, 1) := dk_62_ (show cX9_walkItem.data.toList[175]? = some 0x3e from (LBX9_walkItemr_10 15).trans (by decide +kernel))
theorem dX9_walkItem_176 : decode cX9_walkItem 176 = .ok (.aload_n 0, 1) := dk_42_ (show cX9_walkItem.data.toList[176]? = some 0x2a from (LBX9_walkItemr_11 0).trans (by decide +kernel))
theorem dX9_walkItem_177 : decode cX9_walkItem 177 = .ok (.getfield 266, 3) := dk_180_ (show cX9_walkItem.data.toList[177]? = some 0xb4 from (LBX9_walkItemr_11 1).trans (by decide +kernel)) (show cX9_walkItem.data.toList[178]? = some 0x01 from (LBX9_walkItemr_11 2).trans (by decide +kernel)) (show cX9_walkItem.data.toList[179]? = some 0x0a from (LBX9_walkItemr_11 3).trans (by decide +kernel)) (by decide)
theorem dX9_walkItem_180 : decode cX9_walkItem 180 = .ok (.ifCond .ne 72, 3) := dk_154_ (show cX9_walkItem.data.toList[180]? = some 0x9a from (LBX9_walkItemr_11 4).trans (by decide +kernel)) (show cX9_walkItem.data.toList[181]? = some 0x00 from (LBX9_walkItemr_11 5).trans (by decide +kernel)) (show cX9_walkItem.data.toList[182]? = some 0x48 from (LBX9_walkItemr_11 6).trans (by decide +kernel)) (by decide)
theorem dX9_walkItem_183 : decode cX9_walkItem 183 = .ok (.sipush 377, 3) := dk_17_ (show cX9_walkItem.data.toList[183]? = some 0x11 from (LBX9_walkItemr_11 7).trans (by decide +kernel)) (show cX9_walkItem.data.toList[184]? = some 0x01 from (LBX9_walkItemr_11 8).trans (by decide +kernel)) (show cX9_walkItem.data.toList[185]? = some 0x79 from (LBX9_walkItemr_11 9).trans (by decide +kernel)) (by decide)
theorem dX9_walkItem_186 : decode cX9_walkItem 186 = .ok (.bipush 9, 2) := dk_16_ (show cX9_walkItem.data.toList[186]? = some 0x10 from (LBX9_walkItemr_11 10).trans (by decide +kernel)) (show cX9_walkItem.data.toList[187]? = some 0x09 from (LBX9_walkItemr_11 11).trans (by decide +kernel)) (by decide)
theorem dX9_walkItem_188 : decode cX9_walkItem 188 = .ok (.aload_n 0, 1) := dk_42_ (show cX9_walkItem.data.toList[188]? = some 0x2a from (LBX9_walkItemr_11 12).trans (by decide +kernel))
theorem dX9_walkItem_189 : decode cX9_walkItem 189 = .ok (.aload_n 0, 1) := dk_42_ (show cX9_walkItem.data.toList[189]? = some 0x2a from (LBX9_walkItemr_11 13).trans (by decide +kernel))
theorem dX9_walkItem_190 : decode cX9_walkItem 190 = .ok (.getfield 40, 3) := dk_180_ (show cX9_walkItem.data.toList[190]? = some 0xb4 from (LBX9_walkItemr_11 14).trans (by decide +kernel)) (show cX9_walkItem.data.toList[191]? = some 0x00 from (LBX9_walkItemr_11 15).trans (by decide +kernel)) (show cX9_walkItem.data.toList[192]? = some 0x28 from (LBX9_walkItemr_12 0).trans (by decide +kernel)) (by decide)
theorem dX9_walkItem_193 : decode cX9_walkItem 193 = .ok (.iconst 0, 1) := dk_3_ (show cX9_walkItem.data.toList[193]? = some 0x03 from (LBX9_walkItemr_12 1).trans (by decide +kernel))
theorem dX9_walkItem_194 : decode cX9_walkItem 194 = .ok (.iaload, 1) := dk_46_ (show cX9_walkItem.data.toList[194]? = some 0x2e from (LBX9_walkItemr_12 2).trans (by decide +kernel))
theorem dX9_walkItem_195 : decode cX9_walkItem 195 = .ok (.aload_n 0, 1) := dk_42_ (show cX9_walkItem.data.toList[195]? = some 0x2a from (LBX9_walkItemr_12 3).trans (by decide +kernel))
theorem dX9_walkItem_196 : decode cX9_walkItem 196 = .ok (.getfield 40, 3) := dk_180_ (show cX9_walkItem.data.toList[196]? = some 0xb4 from (LBX9_walkItemr_12 4).trans (by decide +kernel)) (show cX9_walkItem.data.toList[197]? = some 0x00 from (LBX9_walkItemr_12 5).trans (by decide +kernel)) (show cX9_walkItem.data.toList[198]? = some 0x28 from (LBX9_walkItemr_12 6).trans (by decide +kernel)) (by decide)
theorem dX9_walkItem_199 : decode cX9_walkItem 199 = .ok (.iconst 1, 1) := dk_4_ (show cX9_walkItem.data.toList[199]? = some 0x04 from (LBX9_walkItemr_12 7).trans (by decide +kernel))
theorem dX9_walkItem_200 : decode cX9_walkItem 200 = .ok (.iaload, 1) := dk_46_ (show cX9_walkItem.data.toList[200]? = some 0x2e from (LBX9_walkItemr_12 8).trans (by decide +kernel))
theorem dX9_walkItem_201 : decode cX9_walkItem 201 = .ok (.iload_n 2, 1) := dk_28_ (show cX9_walkItem.data.toList[201]? = some 0x1c from (LBX9_walkItemr_12 9).trans (by decide +kernel))
theorem dX9_walkItem_202 : decode cX9_walkItem 202 = .ok (.iload_n 3, 1) := dk_29_ (show cX9_walkItem.data.toList[202]? = some 0x1d from (LBX9_walkItemr_12 10).trans (by decide +kernel))
theorem dX9_walkItem_203 : decode cX9_walkItem 203 = .ok (.invokevirtual 196, 3) := dk_182_ (show cX9_walkItem.data.toList[203]? = some 0xb6 from (LBX9_walkItemr_12 11).trans (by decide +kernel)) (show cX9_walkItem.data.toList[204]? = some 0x00 from (LBX9_walkItemr_12 12).trans (by decide +kernel)) (show cX9_walkItem.data.toList[205]? = some 0xc4 from (LBX9_walkItemr_12 13).trans (by decide +kernel)) (by decide)
theorem dX9_walkItem_206 : decode cX9_walkItem 206 = .ok (.imul, 1) := dk_104_ (show cX9_walkItem.data.toList[206]? = some 0x68 from (LBX9_walkItemr_12 14).trans (by decide +kernel))
theorem dX9_walkItem_207 : decode cX9_walkItem 207 = .ok (.iadd, 1) := dk_96_ (show cX9_walkItem.data.toList[207]? = some 0x60 from (LBX9_walkItemr_12 15).trans (by decide +kernel))
theorem dX9_walkItem_208 : decode cX9_walkItem 208 = .ok (.istore 4, 2) := dk_54_ (show cX9_walkItem.data.toList[208]? = some 0x36 from (LBX9_walkItemr_13 0).trans (by decide +kernel)) (show cX9_walkItem.data.toList[209]? = some 0x04 from (LBX9_walkItemr_13 1).trans (by decide +kernel)) (by decide)
theorem dX9_walkItem_210 : decode cX9_walkItem 210 = .ok (.aload_n 0, 1) := dk_42_ (show cX9_walkItem.data.toList[210]? = some 0x2a from (LBX9_walkItemr_13 2).trans (by decide +kernel))
theorem dX9_walkItem_211 : decode cX9_walkItem 211 = .ok (.getfield 7, 3) := dk_180_ (show cX9_walkItem.data.toList[211]? = some 0xb4 from (LBX9_walkItemr_13 3).trans (by decide +kernel)) (show cX9_walkItem.data.toList[212]? = some 0x00 from (LBX9_walkItemr_13 4).trans (by decide +kernel)) (show cX9_walkItem.data.toList[213]? = some 0x07 from (LBX9_walkItemr_13 5).trans (by decide +kernel)) (by decide)
theorem dX9_walkItem_214 : decode cX9_walkItem 214 = .ok (.iload 4, 2) := dk_21_ (show cX9_walkItem.data.toList[214]? = some 0x15 from (LBX9_walkItemr_13 6).trans (by decide +kernel)) (show cX9_walkItem.data.toList[215]? = some 0x04 from (LBX9_walkItemr_13 7).trans (by decide +kernel)) (by decide)
theorem dX9_walkItem_216 : decode cX9_walkItem 216 = .ok (.iload_n 1, 1) := dk_27_ (show cX9_walkItem.data.toList[216]? = some 0x1b from (LBX9_walkItemr_13 8).trans (by decide +kernel))
theorem dX9_walkItem_217 : decode cX9_walkItem 217 = .ok (.iastore, 1) := dk_79_ (show cX9_walkItem.data.toList[217]? = some 0x4f from (LBX9_walkItemr_13 9).trans (by decide +kernel))
theorem dX9_walkItem_218 : decode cX9_walkItem 218 = .ok (.iconst 2, 1) := dk_5_ (show cX9_walkItem.data.toList[218]? = some 0x05 from (LBX9_walkItemr_13 10).trans (by decide +kernel))
theorem dX9_walkItem_219 : decode cX9_walkItem 219 = .ok (.istore 5, 2) := dk_54_ (show cX9_walkItem.data.toList[219]? = some 0x36 from (LBX9_walkItemr_13 11).trans (by decide +kernel)) (show cX9_walkItem.data.toList[220]? = some 0x05 from (LBX9_walkItemr_13 12).trans (by decide +kernel)) (by decide)
theorem dX9_walkItem_221 : decode cX9_walkItem 221 = .ok (.iload 5, 2) := dk_21_ (show cX9_walkItem.data.toList[221]? = some 0x15 from (LBX9_walkItemr_13 13).trans (by decide +kernel)) (show cX9_walkItem.data.toList[222]? = some 0x05 from (LBX9_walkItemr_13 14).trans (by decide +kernel)) (by decide)
theorem dX9_walkItem_223 : decode cX9_walkItem 223 = .ok (.iload_n 1, 1) := dk_27_ (show cX9_walkItem.data.toList[223]? = some 0x1b from (LBX9_walkItemr_13 15).trans (by decide +kernel))
theorem dX9_walkItem_224 : decode cX9_walkItem 224 = .ok (.if_icmp .ge 28, 3) := dk_162_ (show cX9_walkItem.data.toList[224]? = some 0xa2 from (LBX9_walkItemr_14 0).trans (by decide +kernel)) (show cX9_walkItem.data.toList[225]? = some 0x00 from (LBX9_walkItemr_14 1).trans (by decide +kernel)) (show cX9_walkItem.data.toList[226]? = some 0x1c from (LBX9_walkItemr_14 2).trans (by decide +kernel)) (by decide)
theorem dX9_walkItem_227 : decode cX9_walkItem 227 = .ok (.aload_n 0, 1) := dk_42_ (show cX9_walkItem.data.toList[227]? = some 0x2a from (LBX9_walkItemr_14 3).trans (by decide +kernel))
theorem dX9_walkItem_228 : decode cX9_walkItem 228 = .ok (.getfield 7, 3) := dk_180_ (show cX9_walkItem.data.toList[228]? = some 0xb4 from (LBX9_walkItemr_14 4).trans (by decide +kernel)) (show cX9_walkItem.data.toList[229]? = some 0x00 from (LBX9_walkItemr_14 5).trans (by decide +kernel)) (show cX9_walkItem.data.toList[230]? = some 0x07 from (LBX9_walkItemr_14 6).trans (by decide +kernel)) (by decide)
theorem dX9_walkItem_231 : decode cX9_walkItem 231 = .ok (.iload 4, 2) := dk_21_ (show cX9_walkItem.data.toList[231]? = some 0x15 from (LBX9_walkItemr_14 7).trans (by decide +kernel)) (show cX9_walkItem.data.toList[232]? = some 0x04 from (LBX9_walkItemr_14 8).trans (by decide +kernel)) (by decide)
theorem dX9_walkItem_233 : decode cX9_walkItem 233 = .ok (.iconst 3, 1) := dk_6_ (show cX9_walkItem.data.toList[233]? = some 0x06 from (LBX9_walkItemr_14 9).trans (by decide +kernel))
theorem dX9_walkItem_234 : decode cX9_walkItem 234 = .ok (.iadd, 1) := dk_96_ (show cX9_walkItem.data.toList[234]? = some 0x60 from (LBX9_walkItemr_14 10).trans (by decide +kernel))
theorem dX9_walkItem_235 : decode cX9_walkItem 235 = .ok (.iload 5, 2) := dk_21_ (show cX9_walkItem.data.toList[235]? = some 0x15 from (LBX9_walkItemr_14 11).trans (by decide +kernel)) (show cX9_walkItem.data.toList[236]? = some 0x05 from (LBX9_walkItemr_14 12).trans (by decide +kernel)) (by decide)
theorem dX9_walkItem_237 : decode cX9_walkItem 237 = .ok (.iadd, 1) := dk_96_ (show cX9_walkItem.data.toList[237]? = some 0x60 from (LBX9_walkItemr_14 13).trans (by decide +kernel))
theorem dX9_walkItem_238 : decode cX9_walkItem 238 = .ok (.aload_n 0, 1) := dk_42_ (show cX9_walkItem.data.toList[238]? = some 0x2a from (LBX9_walkItemr_14 14).trans (by decide +kernel))
theorem dX9_walkItem_239 : decode cX9_walkItem 239 = .ok (.getfield 40, 3) := dk_180_ (show cX9_walkItem.data.toList[239]? = some 0xb4 from (LBX9_walkItemr_14 15).trans (by decide +kernel)) (show cX9_walkItem.data.toList[240]? = some 0x00 from (LBX9_walkItemr_15 0).trans (by decide +kernel)) (show cX9_walkItem.data.toList[241]? = some 0x28 from (LBX9_walkItemr_15 1).trans (by decide +kernel)) (by decide)
theorem dX9_walkItem_242 : decode cX9_walkItem 242 = .ok (.iload 5, 2) := dk_21_ (show cX9_walkItem.data.toList[242]? = some 0x15 from (LBX9_walkItemr_15 2).trans (by decide +kernel)) (show cX9_walkItem.data.toList[243]? = some 0x05 from (LBX9_walkItemr_15 3).trans (by decide +kernel)) (by decide)
theorem dX9_walkItem_244 : decode cX9_walkItem 244 = .ok (.iaload, 1) := dk_46_ (show cX9_walkItem.data.toList[244]? = some 0x2e from (LBX9_walkItemr_15 4).trans (by decide +kernel))
theorem dX9_walkItem_245 : decode cX9_walkItem 245 = .ok (.iastore, 1) := dk_79_ (show cX9_walkItem.data.toList[245]? = some 0x4f from (LBX9_walkItemr_15 5).trans (by decide +kernel))
theorem dX9_walkItem_246 : decode cX9_walkItem 246 = .ok (.iinc 5 1, 3) := dk_132_ (show cX9_walkItem.data.toList[246]? = some 0x84 from (LBX9_walkItemr_15 6).trans (by decide +kernel)) (show cX9_walkItem.data.toList[247]? = some 0x05 from (LBX9_walkItemr_15 7).trans (by decide +kernel)) (show cX9_walkItem.data.toList[248]? = some 0x01 from (LBX9_walkItemr_15 8).trans (by decide +kernel)) (by decide) (by decide)
theorem dX9_walkItem_249 : decode cX9_walkItem 249 = .ok (.goto (-28), 3) := dk_167_ (show cX9_walkItem.data.toList[249]? = some 0xa7 from (LBX9_walkItemr_15 9).trans (by decide +kernel)) (show cX9_walkItem.data.toList[250]? = some 0xff from (LBX9_walkItemr_15 10).trans (by decide +kernel)) (show cX9_walkItem.data.toList[251]? = some 0xe4 from (LBX9_walkItemr_15 11).trans (by decide +kernel)) (by decide)
theorem dX9_walkItem_252 : decode cX9_walkItem 252 = .ok (.return_, 1) := dk_177_ (show cX9_walkItem.data.toList[252]? = some 0xb1 from (LBX9_walkItemr_15 12).trans (by decide +kernel))
def LRX9_item_10 : List UInt8 := []
def LBX9_item_9 : List UInt8 := [0x2a, 0xb4, 0x00, 0x07, 0x06, 0x1b, 0x60, 0x2a, 0xb4, 0x01, 0x13, 0x4f, 0xb1]
def LRX9_item_9 : List UInt8 := LBX9_item_9 ++ LRX9_item_10
def LBX9_item_8 : List UInt8 := [0x01, 0x16, 0x2a, 0x03, 0x10, 0x63, 0xb6, 0x01, 0x1a, 0x2a, 0xb4, 0x01, 0x0a, 0x9a, 0x00, 0x0f]
def LRX9_item_8 : List UInt8 := LBX9_item_8 ++ LRX9_item_9
def LBX9_item_7 : List UInt8 := [0x61, 0x10, 0x6e, 0x10, 0x64, 0x10, 0x73, 0xb6, 0x01, 0x22, 0x99, 0x00, 0x22, 0x2a, 0x04, 0xb6]
def LRX9_item_7 : List UInt8 := LBX9_item_7 ++ LRX9_item_8
def LBX9_item_6 : List UInt8 := [0xa7, 0x00, 0x07, 0x2a, 0xb6, 0x00, 0x4a, 0x3c, 0x2a, 0x10, 0x65, 0x10, 0x72, 0x10, 0x72, 0x10]
def LRX9_item_6 : List UInt8 := LBX9_item_6 ++ LRX9_item_7
def LBX9_item_5 : List UInt8 := [0x04, 0xa7, 0x00, 0x04, 0x03, 0xb6, 0x01, 0x16, 0x2a, 0xb4, 0x01, 0x0a, 0x99, 0x00, 0x07, 0x03]
def LRX9_item_5 : List UInt8 := LBX9_item_5 ++ LRX9_item_6
def LBX9_item_4 : List UInt8 := [0x01, 0x22, 0x99, 0x00, 0x12, 0x2a, 0xb4, 0x00, 0x07, 0x03, 0x2e, 0x10, 0x0a, 0xa2, 0x00, 0x07]
def LRX9_item_4 : List UInt8 := LBX9_item_4 ++ LRX9_item_5
def LBX9_item_3 : List UInt8 := [0x6e, 0x2a, 0x2a, 0x10, 0x70, 0x10, 0x6c, 0x10, 0x61, 0x10, 0x63, 0x10, 0x65, 0x03, 0x03, 0xb6]
def LRX9_item_3 : List UInt8 := LBX9_item_3 ++ LRX9_item_4
def LBX9_item_2 : List UInt8 := [0x6b, 0x03, 0x03, 0x03, 0xb6, 0x01, 0x22, 0x99, 0x00, 0x0a, 0x2a, 0xb6, 0x01, 0x29, 0xa7, 0x00]
def LRX9_item_2 : List UInt8 := LBX9_item_2 ++ LRX9_item_3
def LBX9_item_1 : List UInt8 := [0x0a, 0x2a, 0xb6, 0x01, 0x26, 0xa7, 0x00, 0x87, 0x2a, 0x10, 0x77, 0x10, 0x61, 0x10, 0x6c, 0x10]
def LRX9_item_1 : List UInt8 := LBX9_item_1 ++ LRX9_item_2
def LBX9_item_0 : List UInt8 := [0x2a, 0x10, 0x77, 0x10, 0x61, 0x10, 0x79, 0x03, 0x03, 0x03, 0x03, 0xb6, 0x01, 0x22, 0x99, 0x00]
def LRX9_item_0 : List UInt8 := LBX9_item_0 ++ LRX9_item_1
set_option maxRecDepth 100000 in
theorem LBX9_item_eq : cX9_item.data.toList = LRX9_item_0 := by decide +kernel
theorem LBX9_itemr_0 (k : Nat) : cX9_item.data.toList[0 + k]? = LRX9_item_0[k]? := by rw [LBX9_item_eq, Nat.zero_add]
theorem LBX9_itemr_1 (k : Nat) : cX9_item.data.toList[16 + k]? = LRX9_item_1[k]? := by
  have h := LBX9_itemr_0 (16 + k)
  rw [show 0 + (16 + k) = 16 + k by omega] at h
  rw [h]
  exact (List.getElem?_append_right (l₁ := LBX9_item_0) (l₂ := LRX9_item_1) (show 16 ≤ 16 + k by omega)).trans (congrArg (fun i => LRX9_item_1[i]?) (show 16 + k - 16 = k by omega))
theorem LBX9_itemr_2 (k : Nat) : cX9_item.data.toList[32 + k]? = LRX9_item_2[k]? := by
  have h := LBX9_itemr_1 (16 + k)
  rw [show 16 + (16 + k) = 32 + k by omega] at h
  rw [h]
  exact (List.getElem?_append_right (l₁ := LBX9_item_1) (l₂ := LRX9_item_2) (show 16 ≤ 16 + k by omega)).trans (congrArg (fun i => LRX9_item_2[i]?) (show 16 + k - 16 = k by omega))
theorem LBX9_itemr_3 (k : Nat) : cX9_item.data.toList[48 + k]? = LRX9_item_3[k]? := by
  have h := LBX9_itemr_2 (16 + k)
  rw [show 32 + (16 + k) = 48 + k by omega] at h
  rw [h]
  exact (List.getElem?_append_right (l₁ := LBX9_item_2) (l₂ := LRX9_item_3) (show 16 ≤ 16 + k by omega)).trans (congrArg (fun i => LRX9_item_3[i]?) (show 16 + k - 16 = k by omega))
theorem LBX9_itemr_4 (k : Nat) : cX9_item.data.toList[64 + k]? = LRX9_item_4[k]? := by
  have h := LBX9_itemr_3 (16 + k)
  rw [show 48 + (16 + k) = 64 + k by omega] at h
  rw [h]
  exact (List.getElem?_append_right (l₁ := LBX9_item_3) (l₂ := LRX9_item_4) (show 16 ≤ 16 + k by omega)).trans (congrArg (fun i => LRX9_item_4[i]?) (show 16 + k - 16 = k by omega))
theorem LBX9_itemr_5 (k : Nat) : cX9_item.data.toList[80 + k]? = LRX9_item_5[k]? := by
  have h := LBX9_itemr_4 (16 + k)
  rw [show 64 + (16 + k) = 80 + k by omega] at h
  rw [h]
  exact (List.getElem?_append_right (l₁ := LBX9_item_4) (l₂ := LRX9_item_5) (show 16 ≤ 16 + k by omega)).trans (congrArg (fun i => LRX9_item_5[i]?) (show 16 + k - 16 = k by omega))
theorem LBX9_itemr_6 (k : Nat) : cX9_item.data.toList[96 + k]? = LRX9_item_6[k]? := by
  have h := LBX9_itemr_5 (16 + k)
  rw [show 80 + (16 + k) = 96 + k by omega] at h
  rw [h]
  exact (List.getElem?_append_right (l₁ := LBX9_item_5) (l₂ := LRX9_item_6) (show 16 ≤ 16 + k by omega)).trans (congrArg (fun i => LRX9_item_6[i]?) (show 16 + k - 16 = k by omega))
theorem LBX9_itemr_7 (k : Nat) : cX9_item.data.toList[112 + k]? = LRX9_item_7[k]? := by
  have h := LBX9_itemr_6 (16 + k)
  rw [show 96 + (16 + k) = 112 + k by omega] at h
  rw [h]
  exact (List.getElem?_append_right (l₁ := LBX9_item_6) (l₂ := LRX9_item_7) (show 16 ≤ 16 + k by omega)).trans (congrArg (fun i => LRX9_item_7[i]?) (show 16 + k - 16 = k by omega))
theorem LBX9_itemr_8 (k : Nat) : cX9_item.data.toList[128 + k]? = LRX9_item_8[k]? := by
  have h := LBX9_itemr_7 (16 + k)
  rw [show 112 + (16 + k) = 128 + k by omega] at h
  rw [h]
  exact (List.getElem?_append_right (l₁ := LBX9_item_7) (l₂ := LRX9_item_8) (show 16 ≤ 16 + k by omega)).trans (congrArg (fun i => LRX9_item_8[i]?) (show 16 + k - 16 = k by omega))
theorem LBX9_itemr_9 (k : Nat) : cX9_item.data.toList[144 + k]? = LRX9_item_9[k]? := by
  have h := LBX9_itemr_8 (16 + k)
  rw [show 128 + (16 + k) = 144 + k by omega] at h
  rw [h]
  exact (List.getElem?_append_right (l₁ := LBX9_item_8) (l₂ := LRX9_item_9) (show 16 ≤ 16 + k by omega)).trans (congrArg (fun i => LRX9_item_9[i]?) (show 16 + k - 16 = k by omega))
theorem dX9_item_0 : decode cX9_item 0 = .ok (.aload_n 0, 1) := dk_42_ (show cX9_item.data.toList[0]? = some 0x2a from (LBX9_itemr_0 0).trans (by decide +kernel))
theorem dX9_item_1 : decode cX9_item 1 = .ok (.bipush 119, 2) := dk_16_ (show cX9_item.data.toList[1]? = some 0x10 from (LBX9_itemr_0 1).trans (by decide +kernel)) (show cX9_item.data.toList[2]? = some 0x77 from (LBX9_itemr_0 2).trans (by decide +kernel)) (by decide)
theorem dX9_item_3 : decode cX9_item 3 = .ok (.bipush 97, 2) := dk_16_ (show cX9_item.data.toList[3]? = some 0x10 from (LBX9_itemr_0 3).trans (by decide +kernel)) (show cX9_item.data.toList[4]? = some 0x61 from (LBX9_itemr_0 4).trans (by decide +kernel)) (by decide)
theorem dX9_item_5 : decode cX9_item 5 = .ok (.bipush 121, 2) := dk_16_ (show cX9_item.data.toList[5]? = some 0x10 from (LBX9_itemr_0 5).trans (by decide +kernel)) (show cX9_item.data.toList[6]? = some 0x79 from (LBX9_itemr_0 6).trans (by decide +kernel)) (by decide)
theorem dX9_item_7 : decode cX9_item 7 = .ok (.iconst 0, 1) := dk_3_ (show cX9_item.data.toList[7]? = some 0x03 from (LBX9_itemr_0 7).trans (by decide +kernel))
theorem dX9_item_8 : decode cX9_item 8 = .ok (.iconst 0, 1) := dk_3_ (show cX9_item.data.toList[8]? = some 0x03 from (LBX9_itemr_0 8).trans (by decide +kernel))
theorem dX9_item_9 : decode cX9_item 9 = .ok (.iconst 0, 1) := dk_3_ (show cX9_item.data.toList[9]? = some 0x03 from (LBX9_itemr_0 9).trans (by decide +kernel))
theorem dX9_item_10 : decode cX9_item 10 = .ok (.iconst 0, 1) := dk_3_ (show cX9_item.data.toList[10]? = some 0x03 from (LBX9_itemr_0 10).trans (by decide +kernel))
theorem dX9_item_11 : decode cX9_item 11 = .ok (.invokevirtual 290, 3) := dk_182_ (show cX9_item.data.toList[11]? = some 0xb6 from (LBX9_itemr_0 11).trans (by decide +kernel)) (show cX9_item.data.toList[12]? = some 0x01 from (LBX9_itemr_0 12).trans (by decide +kernel)) (show cX9_item.data.toList[13]? = some 0x22 from (LBX9_itemr_0 13).trans (by decide +kernel)) (by decide)
theorem dX9_item_14 : decode cX9_item 14 = .ok (.ifCond .eq 10, 3) := dk_153_ (show cX9_item.data.toList[14]? = some 0x99 from (LBX9_itemr_0 14).trans (by decide +kernel)) (show cX9_item.data.toList[15]? = some 0x00 from (LBX9_itemr_0 15).trans (by decide +kernel)) (show cX9_item.data.toList[16]? = some 0x0a from (LBX9_itemr_1 0).trans (by decide +kernel)) (by decide)
theorem dX9_item_17 : decode cX9_item 17 = .ok (.aload_n 0, 1) := dk_42_ (show cX9_item.data.toList[17]? = some 0x2a from (LBX9_itemr_1 1).trans (by decide +kernel))
theorem dX9_item_18 : decode cX9_item 18 = .ok (.invokevirtual 294, 3) := dk_182_ (show cX9_item.data.toList[18]? = some 0xb6 from (LBX9_itemr_1 2).trans (by decide +kernel)) (show cX9_item.data.toList[19]? = some 0x01 from (LBX9_itemr_1 3).trans (by decide +kernel)) (show cX9_item.data.toList[20]? = some 0x26 from (LBX9_itemr_1 4).trans (by decide +kernel)) (by decide)
theorem dX9_item_21 : decode cX9_item 21 = .ok (.goto 135, 3) := dk_167_ (show cX9_item.data.toList[21]? = some 0xa7 from (LBX9_itemr_1 5).trans (by decide +kernel)) (show cX9_item.data.toList[22]? = some 0x00 from (LBX9_itemr_1 6).trans (by decide +kernel)) (show cX9_item.data.toList[23]? = some 0x87 from (LBX9_itemr_1 7).trans (by decide +kernel)) (by decide)
theorem dX9_item_24 : decode cX9_item 24 = .ok (.aload_n 0, 1) := dk_42_ (show cX9_item.data.toList[24]? = some 0x2a from (LBX9_itemr_1 8).trans (by decide +kernel))
theorem dX9_item_25 : decode cX9_item 25 = .ok (.bipush 119, 2) := dk_16_ (show cX9_item.data.toList[25]? = some 0x10 from (LBX9_itemr_1 9).trans (by decide +kernel)) (show cX9_item.data.toList[26]? = some 0x77 from (LBX9_itemr_1 10).trans (by decide +kernel)) (by decide)
theorem dX9_item_27 : decode cX9_item 27 = .ok (.bipush 97, 2) := dk_16_ (show cX9_item.data.toList[27]? = some 0x10 from (LBX9_itemr_1 11).trans (by decide +kernel)) (show cX9_item.data.toList[28]? = some 0x61 from (LBX9_itemr_1 12).trans (by decide +kernel)) (by decide)
theorem dX9_item_29 : decode cX9_item 29 = .ok (.bipush 108, 2) := dk_16_ (show cX9_item.data.toList[29]? = some 0x10 from (LBX9_itemr_1 13).trans (by decide +kernel)) (show cX9_item.data.toList[30]? = some 0x6c from (LBX9_itemr_1 14).trans (by decide +kernel)) (by decide)
theorem dX9_item_31 : decode cX9_item 31 = .ok (.bipush 107, 2) := dk_16_ (show cX9_item.data.toList[31]? = some 0x10 from (LBX9_itemr_1 15).trans (by decide +kernel)) (show cX9_item.data.toList[32]? = some 0x6b from (LBX9_itemr_2 0).trans (by decide +kernel)) (by decide)
theorem dX9_item_33 : decode cX9_item 33 = .ok (.iconst 0, 1) := dk_3_ (show cX9_item.data.toList[33]? = some 0x03 from (LBX9_itemr_2 1).trans (by decide +kernel))
theorem dX9_item_34 : decode cX9_item 34 = .ok (.iconst 0, 1) := dk_3_ (show cX9_item.data.toList[34]? = some 0x03 from (LBX9_itemr_2 2).trans (by decide +kernel))
theorem dX9_item_35 : decode cX9_item 35 = .ok (.iconst 0, 1) := dk_3_ (show cX9_item.data.toList[35]? = some 0x03 from (LBX9_itemr_2 3).trans (by decide +kernel))
theorem dX9_item_36 : decode cX9_item 36 = .ok (.invokevirtual 290, 3) := dk_182_ (show cX9_item.data.toList[36]? = some 0xb6 from (LBX9_itemr_2 4).trans (by decide +kernel)) (show cX9_item.data.toList[37]? = some 0x01 from (LBX9_itemr_2 5).trans (by decide +kernel)) (show cX9_item.data.toList[38]? = some 0x22 from (LBX9_itemr_2 6).trans (by decide +kernel)) (by decide)
theorem dX9_item_39 : decode cX9_item 39 = .ok (.ifCond .eq 10, 3) := dk_153_ (show cX9_item.data.toList[39]? = some 0x99 from (LBX9_itemr_2 7).trans (by decide +kernel)) (show cX9_item.data.toList[40]? = some 0x00 from (LBX9_itemr_2 8).trans (by decide +kernel)) (show cX9_item.data.toList[41]? = some 0x0a from (LBX9_itemr_2 9).trans (by decide +kernel)) (by decide)
theorem dX9_item_42 : decode cX9_item 42 = .ok (.aload_n 0, 1) := dk_42_ (show cX9_item.data.toList[42]? = some 0x2a from (LBX9_itemr_2 10).trans (by decide +kernel))
theorem dX9_item_43 : decode cX9_item 43 = .ok (.invokevirtual 297, 3) := dk_182_ (show cX9_item.data.toList[43]? = some 0xb6 from (LBX9_itemr_2 11).trans (by decide +kernel)) (show cX9_item.data.toList[44]? = some 0x01 from (LBX9_itemr_2 12).trans (by decide +kernel)) (show cX9_item.data.toList[45]? = some 0x29 from (LBX9_itemr_2 13).trans (by decide +kernel)) (by decide)
theorem dX9_item_46 : decode cX9_item 46 = .ok (.goto 110, 3) := dk_167_ (show cX9_item.data.toList[46]? = some 0xa7 from (LBX9_itemr_2 14).trans (by decide +kernel)) (show cX9_item.data.toList[47]? = some 0x00 from (LBX9_itemr_2 15).trans (by decide +kernel)) (show cX9_item.data.toList[48]? = some 0x6e from (LBX9_itemr_3 0).trans (by decide +kernel)) (by decide)
theorem dX9_item_49 : decode cX9_item 49 = .ok (.aload_n 0, 1) := dk_42_ (show cX9_item.data.toList[49]? = some 0x2a from (LBX9_itemr_3 1).trans (by decide +kernel))
theorem dX9_item_50 : decode cX9_item 50 = .ok (.aload_n 0, 1) := dk_42_ (show cX9_item.data.toList[50]? = some 0x2a from (LBX9_itemr_3 2).trans (by decide +kernel))
theorem dX9_item_51 : decode cX9_item 51 = .ok (.bipush 112, 2) := dk_16_ (show cX9_item.data.toList[51]? = some 0x10 from (LBX9_itemr_3 3).trans (by decide +kernel)) (show cX9_item.data.toList[52]? = some 0x70 from (LBX9_itemr_3 4).trans (by decide +kernel)) (by decide)
theorem dX9_item_53 : decode cX9_item 53 = .ok (.bipush 108, 2) := dk_16_ (show cX9_item.data.toList[53]? = some 0x10 from (LBX9_itemr_3 5).trans (by decide +kernel)) (show cX9_item.data.toList[54]? = some 0x6c from (LBX9_itemr_3 6).trans (by decide +kernel)) (by decide)
theorem dX9_item_55 : decode cX9_item 55 = .ok (.bipush 97, 2) := dk_16_ (show cX9_item.data.toList[55]? = some 0x10 from (LBX9_itemr_3 7).trans (by decide +kernel)) (show cX9_item.data.toList[56]? = some 0x61 from (LBX9_itemr_3 8).trans (by decide +kernel)) (by decide)
theorem dX9_item_57 : decode cX9_item 57 = .ok (.bipush 99, 2) := dk_16_ (show cX9_item.data.toList[57]? = some 0x10 from (LBX9_itemr_3 9).trans (by decide +kernel)) (show cX9_item.data.toList[58]? = some 0x63 from (LBX9_itemr_3 10).trans (by decide +kernel)) (by decide)
theorem dX9_item_59 : decode cX9_item 59 = .ok (.bipush 101, 2) := dk_16_ (show cX9_item.data.toList[59]? = some 0x10 from (LBX9_itemr_3 11).trans (by decide +kernel)) (show cX9_item.data.toList[60]? = some 0x65 from (LBX9_itemr_3 12).trans (by decide +kernel)) (by decide)
theorem dX9_item_61 : decode cX9_item 61 = .ok (.iconst 0, 1) := dk_3_ (show cX9_item.data.toList[61]? = some 0x03 from (LBX9_itemr_3 13).trans (by decide +kernel))
theorem dX9_item_62 : decode cX9_item 62 = .ok (.iconst 0, 1) := dk_3_ (show cX9_item.data.toList[62]? = some 0x03 from (LBX9_itemr_3 14).trans (by decide +kernel))
theorem dX9_item_63 : decode cX9_item 63 = .ok (.invokevirtual 290, 3) := dk_182_ (show cX9_item.data.toList[63]? = some 0xb6 from (LBX9_itemr_3 15).trans (by decide +kernel)) (show cX9_item.data.toList[64]? = some 0x01 from (LBX9_itemr_4 0).trans (by decide +kernel)) (show cX9_item.data.toList[65]? = some 0x22 from (LBX9_itemr_4 1).trans (by decide +kernel)) (by decide)
theorem dX9_item_66 : decode cX9_item 66 = .ok (.ifCond .eq 18, 3) := dk_153_ (show cX9_item.data.toList[66]? = some 0x99 from (LBX9_itemr_4 2).trans (by decide +kernel)) (show cX9_item.data.toList[67]? = some 0x00 from (LBX9_itemr_4 3).trans (by decide +kernel)) (show cX9_item.data.toList[68]? = some 0x12 from (LBX9_itemr_4 4).trans (by decide +kernel)) (by decide)
theorem dX9_item_69 : decode cX9_item 69 = .ok (.aload_n 0, 1) := dk_42_ (show cX9_item.data.toList[69]? = some 0x2a from (LBX9_itemr_4 5).trans (by decide +kernel))
theorem dX9_item_70 : decode cX9_item 70 = .ok (.getfield 7, 3) := dk_180_ (show cX9_item.data.toList[70]? = some 0xb4 from (LBX9_itemr_4 6).trans (by decide +kernel)) (show cX9_item.data.toList[71]? = some 0x00 from (LBX9_itemr_4 7).trans (by decide +kernel)) (show cX9_item.data.toList[72]? = some 0x07 from (LBX9_itemr_4 8).trans (by decide +kernel)) (by decide)
theorem dX9_item_73 : decode cX9_item 73 = .ok (.iconst 0, 1) := dk_3_ (show cX9_item.data.toList[73]? = some 0x03 from (LBX9_itemr_4 9).trans (by decide +kernel))
theorem dX9_item_74 : decode cX9_item 74 = .ok (.iaload, 1) := dk_46_ (show cX9_item.data.toList[74]? = some 0x2e from (LBX9_itemr_4 10).trans (by decide +kernel))
theorem dX9_item_75 : decode cX9_item 75 = .ok (.bipush 10, 2) := dk_16_ (show cX9_item.data.toList[75]? = some 0x10 from (LBX9_itemr_4 11).trans (by decide +kernel)) (show cX9_item.data.toList[76]? = some 0x0a from (LBX9_itemr_4 12).trans (by decide +kernel)) (by decide)
theorem dX9_item_77 : decode cX9_item 77 = .ok (.if_icmp .ge 7, 3) := dk_162_ (show cX9_item.data.toList[77]? = some 0xa2 from (LBX9_itemr_4 13).trans (by decide +kernel)) (show cX9_item.data.toList[78]? = some 0x00 from (LBX9_itemr_4 14).trans (by decide +kernel)) (show cX9_item.data.toList[79]? = some 0x07 from (LBX9_itemr_4 15).trans (by decide +kernel)) (by decide)
theorem dX9_item_80 : decode cX9_item 80 = .ok (.iconst 1, 1) := dk_4_ (show cX9_item.data.toList[80]? = some 0x04 from (LBX9_itemr_5 0).trans (by decide +kernel))
theorem dX9_item_81 : decode cX9_item 81 = .ok (.goto 4, 3) := dk_167_ (show cX9_item.data.toList[81]? = some 0xa7 from (LBX9_itemr_5 1).trans (by decide +kernel)) (show cX9_item.data.toList[82]? = some 0x00 from (LBX9_itemr_5 2).trans (by decide +kernel)) (show cX9_item.data.toList[83]? = some 0x04 from (LBX9_itemr_5 3).trans (by decide +kernel)) (by decide)
theorem dX9_item_84 : decode cX9_item 84 = .ok (.iconst 0, 1) := dk_3_ (show cX9_item.data.toList[84]? = some 0x03 from (LBX9_itemr_5 4).trans (by decide +kernel))
theorem dX9_item_85 : decode cX9_item 85 = .ok (.invokevirtual 278, 3) := dk_182_ (show cX9_item.data.toList[85]? = some 0xb6 from (LBX9_itemr_5 5).trans (by decide +kernel)) (show cX9_item.data.toList[86]? = some 0x01 from (LBX9_itemr_5 6).trans (by decide +kernel)) (show cX9_item.data.toList[87]? = some 0x16 from (LBX9_itemr_5 7).trans (by decide +kernel)) (by decide)
theorem dX9_item_88 : decode cX9_item 88 = .ok (.aload_n 0, 1) := dk_42_ (show cX9_item.data.toList[88]? = some 0x2a from (LBX9_itemr_5 8).trans (by decide +kernel))
theorem dX9_item_89 : decode cX9_item 89 = .ok (.getfield 266, 3) := dk_180_ (show cX9_item.data.toList[89]? = some 0xb4 from (LBX9_itemr_5 9).trans (by decide +kernel)) (show cX9_item.data.toList[90]? = some 0x01 from (LBX9_itemr_5 10).trans (by decide +kernel)) (show cX9_item.data.toList[91]? = some 0x0a from (LBX9_itemr_5 11).trans (by decide +kernel)) (by decide)
theorem dX9_item_92 : decode cX9_item 92 = .ok (.ifCond .eq 7, 3) := dk_153_ (show cX9_item.data.toList[92]? = some 0x99 from (LBX9_itemr_5 12).trans (by decide +kernel)) (show cX9_item.data.toList[93]? = some 0x00 from (LBX9_itemr_5 13).trans (by decide +kernel)) (show cX9_item.data.toList[94]? = some 0x07 from (LBX9_itemr_5 14).trans (by decide +kernel)) (by decide)
theorem dX9_item_95 : decode cX9_item 95 = .ok (.iconst 0, 1) := dk_3_ (show cX9_item.data.toList[95]? = some 0x03 from (LBX9_itemr_5 15).trans (by decide +kernel))
theorem dX9_item_96 : decode cX9_item 96 = .ok (.goto 7, 3) := dk_167_ (show cX9_item.data.toList[96]? = some 0xa7 from (LBX9_itemr_6 0).trans (by decide +kernel)) (show cX9_item.data.toList[97]? = some 0x00 from (LBX9_itemr_6 1).trans (by decide +kernel)) (show cX9_item.data.toList[98]? = some 0x07 from (LBX9_itemr_6 2).trans (by decide +kernel)) (by decide)
theorem dX9_item_99 : decode cX9_item 99 = .ok (.aload_n 0, 1) := dk_42_ (show cX9_item.data.toList[99]? = some 0x2a from (LBX9_itemr_6 3).trans (by decide +kernel))
theorem dX9_item_100 : decode cX9_item 100 = .ok (.invokevirtual 74, 3) := dk_182_ (show cX9_item.data.toList[100]? = some 0xb6 from (LBX9_itemr_6 4).trans (by decide +kernel)) (show cX9_item.data.toList[101]? = some 0x00 from (LBX9_itemr_6 5).trans (by decide +kernel)) (show cX9_item.data.toList[102]? = some 0x4a from (LBX9_itemr_6 6).trans (by decide +kernel)) (by decide)
theorem dX9_item_103 : decode cX9_item 103 = .ok (.istore_n 1, 1) := dk_60_ (show cX9_item.data.toList[103]? = some 0x3c from (LBX9_itemr_6 7).trans (by decide +kernel))
theorem dX9_item_104 : decode cX9_item 104 = .ok (.aload_n 0, 1) := dk_42_ (show cX9_item.data.toList[104]? = some 0x2a from (LBX9_itemr_6 8).trans (by decide +kernel))
theorem dX9_item_105 : decode cX9_item 105 = .ok (.bipush 101, 2) := dk_16_ (show cX9_item.data.toList[105]? = some 0x10 from (LBX9_itemr_6 9).trans (by decide +kernel)) (show cX9_item.data.toList[106]? = some 0x65 from (LBX9_itemr_6 10).trans (by decide +kernel)) (by decide)
theorem dX9_item_107 : decode cX9_item 107 = .ok (.bipush 114, 2) := dk_16_ (show cX9_item.data.toList[107]? = some 0x10 from (LBX9_itemr_6 11).trans (by decide +kernel)) (show cX9_item.data.toList[108]? = some 0x72 from (LBX9_itemr_6 12).trans (by decide +kernel)) (by decide)
theorem dX9_item_109 : decode cX9_item 109 = .ok (.bipush 114, 2) := dk_16_ (show cX9_item.data.toList[109]? = some 0x10 from (LBX9_itemr_6 13).trans (by decide +kernel)) (show cX9_item.data.toList[110]? = some 0x72 from (LBX9_itemr_6 14).trans (by decide +kernel)) (by decide)
theorem dX9_item_111 : decode cX9_item 111 = .ok (.bipush 97, 2) := dk_16_ (show cX9_item.data.toList[111]? = some 0x10 from (LBX9_itemr_6 15).trans (by decide +kernel)) (show cX9_item.data.toList[112]? = some 0x61 from (LBX9_itemr_7 0).trans (by decide +kernel)) (by decide)
theorem dX9_item_113 : decode cX9_item 113 = .ok (.bipush 110, 2) := dk_16_ (show cX9_item.data.toList[113]? = some 0x10 from (LBX9_itemr_7 1).trans (by decide +kernel)) (show cX9_item.data.toList[114]? = some 0x6e from (LBX9_itemr_7 2).trans (by decide +kernel)) (by decide)
theorem dX9_item_115 : decode cX9_item 115 = .ok (.bipush 100, 2) := dk_16_ (show cX9_item.data.toList[115]? = some 0x10 from (LBX9_itemr_7 3).trans (by decide +kernel)) (show cX9_item.data.toList[116]? = some 0x64 from (LBX9_itemr_7 4).trans (by decide +kernel)) (by decide)
theorem dX9_item_117 : decode cX9_item 117 = .ok (.bipush 115, 2) := dk_16_ (show cX9_item.data.toList[117]? = some 0x10 from (LBX9_itemr_7 5).trans (by decide +kernel)) (show cX9_item.data.toList[118]? = some 0x73 from (LBX9_itemr_7 6).trans (by decide +kernel)) (by decide)
theorem dX9_item_119 : decode cX9_item 119 = .ok (.invokevirtual 290, 3) := dk_182_ (show cX9_item.data.toList[119]? = some 0xb6 from (LBX9_itemr_7 7).trans (by decide +kernel)) (show cX9_item.data.toList[120]? = some 0x01 from (LBX9_itemr_7 8).trans (by decide +kernel)) (show cX9_item.data.toList[121]? = some 0x22 from (LBX9_itemr_7 9).trans (by decide +kernel)) (by decide)
theorem dX9_item_122 : decode cX9_item 122 = .ok (.ifCond .eq 34, 3) := dk_153_ (show cX9_item.data.toList[122]? = some 0x99 from (LBX9_itemr_7 10).trans (by decide +kernel)) (show cX9_item.data.toList[123]? = some 0x00 from (LBX9_itemr_7 11).trans (by decide +kernel)) (show cX9_item.data.toList[124]? = some 0x22 from (LBX9_itemr_7 12).trans (by decide +kernel)) (by decide)
theorem dX9_item_125 : decode cX9_item 125 = .ok (.aload_n 0, 1) := dk_42_ (show cX9_item.data.toList[125]? = some 0x2a from (LBX9_itemr_7 13).trans (by decide +kernel))
theorem dX9_item_126 : decode cX9_item 126 = .ok (.iconst 1, 1) := dk_4_ (show cX9_item.data.toList[126]? = some 0x04 from (LBX9_itemr_7 14).trans (by decide +kernel))
theorem dX9_item_127 : decode cX9_item 127 = .ok (.invokevirtual 278, 3) := dk_182_ (show cX9_item.data.toList[127]? = some 0xb6 from (LBX9_itemr_7 15).trans (by decide +kernel)) (show cX9_item.data.toList[128]? = some 0x01 from (LBX9_itemr_8 0).trans (by decide +kernel)) (show cX9_item.data.toList[129]? = some 0x16 from (LBX9_itemr_8 1).trans (by decide +kernel)) (by decide)
theorem dX9_item_130 : decode cX9_item 130 = .ok (.aload_n 0, 1) := dk_42_ (show cX9_item.data.toList[130]? = some 0x2a from (LBX9_itemr_8 2).trans (by decide +kernel))
theorem dX9_item_131 : decode cX9_item 131 = .ok (.iconst 0, 1) := dk_3_ (show cX9_item.data.toList[131]? = some 0x03 from (LBX9_itemr_8 3).trans (by decide +kernel))
theorem dX9_item_132 : decode cX9_item 132 = .ok (.bipush 99, 2) := dk_16_ (show cX9_item.data.toList[132]? = some 0x10 from (LBX9_itemr_8 4).trans (by decide +kernel)) (show cX9_item.data.toList[133]? = some 0x63 from (LBX9_itemr_8 5).trans (by decide +kernel)) (by decide)
theorem dX9_item_134 : decode cX9_item 134 = .ok (.invokevirtual 282, 3) := dk_182_ (show cX9_item.data.toList[134]? = some 0xb6 from (LBX9_itemr_8 6).trans (by decide +kernel)) (show cX9_item.data.toList[135]? = some 0x01 from (LBX9_itemr_8 7).trans (by decide +kernel)) (show cX9_item.data.toList[136]? = some 0x1a from (LBX9_itemr_8 8).trans (by decide +kernel)) (by decide)
theorem dX9_item_137 : decode cX9_item 137 = .ok (.aload_n 0, 1) := dk_42_ (show cX9_item.data.toList[137]? = some 0x2a from (LBX9_itemr_8 9).trans (by decide +kernel))
theorem dX9_item_138 : decode cX9_item 138 = .ok (.getfield 266, 3) := dk_180_ (show cX9_item.data.toList[138]? = some 0xb4 from (LBX9_itemr_8 10).trans (by decide +kernel)) (show cX9_item.data.toList[139]? = some 0x01 from (LBX9_itemr_8 11).trans (by decide +kernel)) (show cX9_item.data.toList[140]? = some 0x0a from (LBX9_itemr_8 12).trans (by decide +kernel)) (by decide)
theorem dX9_item_141 : decode cX9_item 141 = .ok (.ifCond .ne 15, 3) := dk_154_ (show cX9_item.data.toList[141]? = some 0x9a from (LBX9_itemr_8 13).trans (by decide +kernel)) (show cX9_item.data.toList[142]? = some 0x00 from (LBX9_itemr_8 14).trans (by decide +kernel)) (show cX9_item.data.toList[143]? = some 0x0f from (LBX9_itemr_8 15).trans (by decide +kernel)) (by decide)
theorem dX9_item_144 : decode cX9_item 144 = .ok (.aload_n 0, 1) := dk_42_ (show cX9_item.data.toList[144]? = some 0x2a from (LBX9_itemr_9 0).trans (by decide +kernel))
theorem dX9_item_145 : decode cX9_item 145 = .ok (.getfield 7, 3) := dk_180_ (show cX9_item.data.toList[145]? = some 0xb4 from (LBX9_itemr_9 1).trans (by decide +kernel)) (show cX9_item.data.toList[146]? = some 0x00 from (LBX9_itemr_9 2).trans (by decide +kernel)) (show cX9_item.data.toList[147]? = some 0x07 from (LBX9_itemr_9 3).trans (by decide +kernel)) (by decide)
theorem dX9_item_148 : decode cX9_item 148 = .ok (.iconst 3, 1) := dk_6_ (show cX9_item.data.toList[148]? = some 0x06 from (LBX9_itemr_9 4).trans (by decide +kernel))
theorem dX9_item_149 : decode cX9_item 149 = .ok (.iload_n 1, 1) := dk_27_ (show cX9_item.data.toList[149]? = some 0x1b from (LBX9_itemr_9 5).trans (by decide +kernel))
theorem dX9_item_150 : decode cX9_item 150 = .ok (.iadd, 1) := dk_96_ (show cX9_item.data.toList[150]? = some 0x60 from (LBX9_itemr_9 6).trans (by decide +kernel))
theorem dX9_item_151 : decode cX9_item 151 = .ok (.aload_n 0, 1) := dk_42_ (show cX9_item.data.toList[151]? = some 0x2a from (LBX9_itemr_9 7).trans (by decide +kernel))
theorem dX9_item_152 : decode cX9_item 152 = .ok (.getfield 275, 3) := dk_180_ (show cX9_item.data.toList[152]? = some 0xb4 from (LBX9_itemr_9 8).trans (by decide +kernel)) (show cX9_item.data.toList[153]? = some 0x01 from (LBX9_itemr_9 9).trans (by decide +kernel)) (show cX9_item.data.toList[154]? = some 0x13 from (LBX9_itemr_9 10).trans (by decide +kernel)) (by decide)
theorem dX9_item_155 : decode cX9_item 155 = .ok (.iastore, 1) := dk_79_ (show cX9_item.data.toList[155]? = some 0x4f from (LBX9_itemr_9 11).trans (by decide +kernel))
theorem dX9_item_156 : decode cX9_item 156 = .ok (.return_, 1) := dk_177_ (show cX9_item.data.toList[156]? = some 0xb1 from (LBX9_itemr_9 12).trans (by decide +kernel))
def LRX9_land_7 : List UInt8 := []
def LBX9_land_6 : List UInt8 := [0xac, 0x1b, 0xac]
def LRX9_land_6 : List UInt8 := LBX9_land_6 ++ LRX9_land_7
def LBX9_land_5 : List UInt8 := [0xb4, 0x01, 0x0a, 0x99, 0x00, 0x0e, 0x2a, 0xb6, 0x00, 0xdc, 0x02, 0x2a, 0xb4, 0x00, 0xfe, 0x64]
def LRX9_land_5 : List UInt8 := LBX9_land_5 ++ LRX9_land_6
def LBX9_land_4 : List UInt8 := [0x2a, 0xb6, 0x01, 0x2c, 0x84, 0x01, 0x01, 0xa7, 0xff, 0xd1, 0x2a, 0x03, 0xb5, 0x00, 0xf0, 0x2a]
def LRX9_land_4 : List UInt8 := LBX9_land_4 ++ LRX9_land_5
def LBX9_land_3 : List UInt8 := [0xb6, 0x01, 0x01, 0x10, 0x3b, 0xa0, 0x00, 0x07, 0x04, 0xa7, 0x00, 0x04, 0x03, 0xb6, 0x01, 0x16]
def LRX9_land_3 : List UInt8 := LBX9_land_3 ++ LRX9_land_4
def LBX9_land_2 : List UInt8 := [0xb4, 0x00, 0xfe, 0x2a, 0xb4, 0x00, 0xf0, 0xa2, 0x00, 0x23, 0x2a, 0x2a, 0x2a, 0xb4, 0x00, 0xfe]
def LRX9_land_2 : List UInt8 := LBX9_land_2 ++ LRX9_land_3
def LBX9_land_1 : List UInt8 := [0x01, 0x0d, 0x04, 0x3c, 0x2a, 0xb6, 0x01, 0x2c, 0x2a, 0xb4, 0x01, 0x0a, 0x9a, 0x00, 0x2e, 0x2a]
def LRX9_land_1 : List UInt8 := LBX9_land_1 ++ LRX9_land_2
def LBX9_land_0 : List UInt8 := [0x2a, 0xb6, 0x00, 0xd9, 0x2a, 0x03, 0xb5, 0x00, 0xfb, 0x2a, 0x03, 0xb5, 0x01, 0x0a, 0x2a, 0xb6]
def LRX9_land_0 : List UInt8 := LBX9_land_0 ++ LRX9_land_1
set_option maxRecDepth 100000 in
theorem LBX9_land_eq : cX9_land.data.toList = LRX9_land_0 := by decide +kernel
theorem LBX9_landr_0 (k : Nat) : cX9_land.data.toList[0 + k]? = LRX9_land_0[k]? := by rw [LBX9_land_eq, Nat.zero_add]
theorem LBX9_landr_1 (k : Nat) : cX9_land.data.toList[16 + k]? = LRX9_land_1[k]? := by
  have h := LBX9_landr_0 (16 + k)
  rw [show 0 + (16 + k) = 16 + k by omega] at h
  rw [h]
  exact (List.getElem?_append_right (l₁ := LBX9_land_0) (l₂ := LRX9_land_1) (show 16 ≤ 16 + k by omega)).trans (congrArg (fun i => LRX9_land_1[i]?) (show 16 + k - 16 = k by omega))
theorem LBX9_landr_2 (k : Nat) : cX9_land.data.toList[32 + k]? = LRX9_land_2[k]? := by
  have h := LBX9_landr_1 (16 + k)
  rw [show 16 + (16 + k) = 32 + k by omega] at h
  rw [h]
  exact (List.getElem?_append_right (l₁ := LBX9_land_1) (l₂ := LRX9_land_2) (show 16 ≤ 16 + k by omega)).trans (congrArg (fun i => LRX9_land_2[i]?) (show 16 + k - 16 = k by omega))
theorem LBX9_landr_3 (k : Nat) : cX9_land.data.toList[48 + k]? = LRX9_land_3[k]? := by
  have h := LBX9_landr_2 (16 + k)
  rw [show 32 + (16 + k) = 48 + k by omega] at h
  rw [h]
  exact (List.getElem?_append_right (l₁ := LBX9_land_2) (l₂ := LRX9_land_3) (show 16 ≤ 16 + k by omega)).trans (congrArg (fun i => LRX9_land_3[i]?) (show 16 + k - 16 = k by omega))
theorem LBX9_landr_4 (k : Nat) : cX9_land.data.toList[64 + k]? = LRX9_land_4[k]? := by
  have h := LBX9_landr_3 (16 + k)
  rw [show 48 + (16 + k) = 64 + k by omega] at h
  rw [h]
  exact (List.getElem?_append_right (l₁ := LBX9_land_3) (l₂ := LRX9_land_4) (show 16 ≤ 16 + k by omega)).trans (congrArg (fun i => LRX9_land_4[i]?) (show 16 + k - 16 = k by omega))
theorem LBX9_landr_5 (k : Nat) : cX9_land.data.toList[80 + k]? = LRX9_land_5[k]? := by
  have h := LBX9_landr_4 (16 + k)
  rw [show 64 + (16 + k) = 80 + k by omega] at h
  rw [h]
  exact (List.getElem?_append_right (l₁ := LBX9_land_4) (l₂ := LRX9_land_5) (show 16 ≤ 16 + k by omega)).trans (congrArg (fun i => LRX9_land_5[i]?) (show 16 + k - 16 = k by omega))
theorem LBX9_landr_6 (k : Nat) : cX9_land.data.toList[96 + k]? = LRX9_land_6[k]? := by
  have h := LBX9_landr_5 (16 + k)
  rw [show 80 + (16 + k) = 96 + k by omega] at h
  rw [h]
  exact (List.getElem?_append_right (l₁ := LBX9_land_5) (l₂ := LRX9_land_6) (show 16 ≤ 16 + k by omega)).trans (congrArg (fun i => LRX9_land_6[i]?) (show 16 + k - 16 = k by omega))
theorem dX9_land_0 : decode cX9_land 0 = .ok (.aload_n 0, 1) := dk_42_ (show cX9_land.data.toList[0]? = some 0x2a from (LBX9_landr_0 0).trans (by decide +kernel))
theorem dX9_land_1 : decode cX9_land 1 = .ok (.invokevirtual 217, 3) := dk_182_ (show cX9_land.data.toList[1]? = some 0xb6 from (LBX9_landr_0 1).trans (by decide +kernel)) (show cX9_land.data.toList[2]? = some 0x00 from (LBX9_landr_0 2).trans (by decide +kernel)) (show cX9_land.data.toList[3]? = some 0xd9 from (LBX9_landr_0 3).trans (by decide +kernel)) (by decide)
theorem dX9_land_4 : decode cX9_land 4 = .ok (.aload_n 0, 1) := dk_42_ (show cX9_land.data.toList[4]? = some 0x2a from (LBX9_landr_0 4).trans (by decide +kernel))
theorem dX9_land_5 : decode cX9_land 5 = .ok (.iconst 0, 1) := dk_3_ (show cX9_land.data.toList[5]? = some 0x03 from (LBX9_landr_0 5).trans (by decide +kernel))
theorem dX9_land_6 : decode cX9_land 6 = .ok (.putfield 251, 3) := dk_181_ (show cX9_land.data.toList[6]? = some 0xb5 from (LBX9_landr_0 6).trans (by decide +kernel)) (show cX9_land.data.toList[7]? = some 0x00 from (LBX9_landr_0 7).trans (by decide +kernel)) (show cX9_land.data.toList[8]? = some 0xfb from (LBX9_landr_0 8).trans (by decide +kernel)) (by decide)
theorem dX9_land_9 : decode cX9_land 9 = .ok (.aload_n 0, 1) := dk_42_ (show cX9_land.data.toList[9]? = some 0x2a from (LBX9_landr_0 9).trans (by decide +kernel))
theorem dX9_land_10 : decode cX9_land 10 = .ok (.iconst 0, 1) := dk_3_ (show cX9_land.data.toList[10]? = some 0x03 from (LBX9_landr_0 10).trans (by decide +kernel))
theorem dX9_land_11 : decode cX9_land 11 = .ok (.putfield 266, 3) := dk_181_ (show cX9_land.data.toList[11]? = some 0xb5 from (LBX9_landr_0 11).trans (by decide +kernel)) (show cX9_land.data.toList[12]? = some 0x01 from (LBX9_landr_0 12).trans (by decide +kernel)) (show cX9_land.data.toList[13]? = some 0x0a from (LBX9_landr_0 13).trans (by decide +kernel)) (by decide)
theorem dX9_land_14 : decode cX9_land 14 = .ok (.aload_n 0, 1) := dk_42_ (show cX9_land.data.toList[14]? = some 0x2a from (LBX9_landr_0 14).trans (by decide +kernel))
theorem dX9_land_15 : decode cX9_land 15 = .ok (.invokevirtual 269, 3) := dk_182_ (show cX9_land.data.toList[15]? = some 0xb6 from (LBX9_landr_0 15).trans (by decide +kernel)) (show cX9_land.data.toList[16]? = some 0x01 from (LBX9_landr_1 0).trans (by decide +kernel)) (show cX9_land.data.toList[17]? = some 0x0d from (LBX9_landr_1 1).trans (by decide +kernel)) (by decide)
theorem dX9_land_18 : decode cX9_land 18 = .ok (.iconst 1, 1) := dk_4_ (show cX9_land.data.toList[18]? = some 0x04 from (LBX9_landr_1 2).trans (by decide +kernel))
theorem dX9_land_19 : decode cX9_land 19 = .ok (.istore_n 1, 1) := dk_60_ (show cX9_land.data.toList[19]? = some 0x3c from (LBX9_landr_1 3).trans (by decide +kernel))
theorem dX9_land_20 : decode cX9_land 20 = .ok (.aload_n 0, 1) := dk_42_ (show cX9_land.data.toList[20]? = some 0x2a from (LBX9_landr_1 4).trans (by decide +kernel))
theorem dX9_land_21 : decode cX9_land 21 = .ok (.invokevirtual 300, 3) := dk_182_ (show cX9_land.data.toList[21]? = some 0xb6 from (LBX9_landr_1 5).trans (by decide +kernel)) (show cX9_land.data.toList[22]? = some 0x01 from (LBX9_landr_1 6).trans (by decide +kernel)) (show cX9_land.data.toList[23]? = some 0x2c from (LBX9_landr_1 7).trans (by decide +kernel)) (by decide)
theorem dX9_land_24 : decode cX9_land 24 = .ok (.aload_n 0, 1) := dk_42_ (show cX9_land.data.toList[24]? = some 0x2a from (LBX9_landr_1 8).trans (by decide +kernel))
theorem dX9_land_25 : decode cX9_land 25 = .ok (.getfield 266, 3) := dk_180_ (show cX9_land.data.toList[25]? = some 0xb4 from (LBX9_landr_1 9).trans (by decide +kernel)) (show cX9_land.data.toList[26]? = some 0x01 from (LBX9_landr_1 10).trans (by decide +kernel)) (show cX9_land.data.toList[27]? = some 0x0a from (LBX9_landr_1 11).trans (by decide +kernel)) (by decide)
theorem dX9_land_28 : decode cX9_land 28 = .ok (.ifCond .ne 46, 3) := dk_154_ (show cX9_land.data.toList[28]? = some 0x9a from (LBX9_landr_1 12).trans (by decide +kernel)) (show cX9_land.data.toList[29]? = some 0x00 from (LBX9_landr_1 13).trans (by decide +kernel)) (show cX9_land.data.toList[30]? = some 0x2e from (LBX9_landr_1 14).trans (by decide +kernel)) (by decide)
theorem dX9_land_31 : decode cX9_land 31 = .ok (.aload_n 0, 1) := dk_42_ (show cX9_land.data.toList[31]? = some 0x2a from (LBX9_landr_1 15).trans (by decide +kernel))
theorem dX9_land_32 : decode cX9_land 32 = .ok (.getfield 254, 3) := dk_180_ (show cX9_land.data.toList[32]? = some 0xb4 from (LBX9_landr_2 0).trans (by decide +kernel)) (show cX9_land.data.toList[33]? = some 0x00 from (LBX9_landr_2 1).trans (by decide +kernel)) (show cX9_land.data.toList[34]? = some 0xfe from (LBX9_landr_2 2).trans (by decide +kernel)) (by decide)
theorem dX9_land_35 : decode cX9_land 35 = .ok (.aload_n 0, 1) := dk_42_ (show cX9_land.data.toList[35]? = some 0x2a from (LBX9_landr_2 3).trans (by decide +kernel))
theorem dX9_land_36 : decode cX9_land 36 = .ok (.getfield 240, 3) := dk_180_ (show cX9_land.data.toList[36]? = some 0xb4 from (LBX9_landr_2 4).trans (by decide +kernel)) (show cX9_land.data.toList[37]? = some 0x00 from (LBX9_landr_2 5).trans (by decide +kernel)) (show cX9_land.data.toList[38]? = some 0xf0 from (LBX9_landr_2 6).trans (by decide +kernel)) (by decide)
theorem dX9_land_39 : decode cX9_land 39 = .ok (.if_icmp .ge 35, 3) := dk_162_ (show cX9_land.data.toList[39]? = some 0xa2 from (LBX9_landr_2 7).trans (by decide +kernel)) (show cX9_land.data.toList[40]? = some 0x00 from (LBX9_landr_2 8).trans (by decide +kernel)) (show cX9_land.data.toList[41]? = some 0x23 from (LBX9_landr_2 9).trans (by decide +kernel)) (by decide)
theorem dX9_land_42 : decode cX9_land 42 = .ok (.aload_n 0, 1) := dk_42_ (show cX9_land.data.toList[42]? = some 0x2a from (LBX9_landr_2 10).trans (by decide +kernel))
theorem dX9_land_43 : decode cX9_land 43 = .ok (.aload_n 0, 1) := dk_42_ (show cX9_land.data.toList[43]? = some 0x2a from (LBX9_landr_2 11).trans (by decide +kernel))
theorem dX9_land_44 : decode cX9_land 44 = .ok (.aload_n 0, 1) := dk_42_ (show cX9_land.data.toList[44]? = some 0x2a from (LBX9_landr_2 12).trans (by decide +kernel))
theorem dX9_land_45 : decode cX9_land 45 = .ok (.getfield 254, 3) := dk_180_ (show cX9_land.data.toList[45]? = some 0xb4 from (LBX9_landr_2 13).trans (by decide +kernel)) (show cX9_land.data.toList[46]? = some 0x00 from (LBX9_landr_2 14).trans (by decide +kernel)) (show cX9_land.data.toList[47]? = some 0xfe from (LBX9_landr_2 15).trans (by decide +kernel)) (by decide)
theorem dX9_land_48 : decode cX9_land 48 = .ok (.invokevirtual 257, 3) := dk_182_ (show cX9_land.data.toList[48]? = some 0xb6 from (LBX9_landr_3 0).trans (by decide +kernel)) (show cX9_land.data.toList[49]? = some 0x01 from (LBX9_landr_3 1).trans (by decide +kernel)) (show cX9_land.data.toList[50]? = some 0x01 from (LBX9_landr_3 2).trans (by decide +kernel)) (by decide)
theorem dX9_land_51 : decode cX9_land 51 = .ok (.bipush 59, 2) := dk_16_ (show cX9_land.data.toList[51]? = some 0x10 from (LBX9_landr_3 3).trans (by decide +kernel)) (show cX9_land.data.toList[52]? = some 0x3b from (LBX9_landr_3 4).trans (by decide +kernel)) (by decide)
theorem dX9_land_53 : decode cX9_land 53 = .ok (.if_icmp .ne 7, 3) := dk_160_ (show cX9_land.data.toList[53]? = some 0xa0 from (LBX9_landr_3 5).trans (by decide +kernel)) (show cX9_land.data.toList[54]? = some 0x00 from (LBX9_landr_3 6).trans (by decide +kernel)) (show cX9_land.data.toList[55]? = some 0x07 from (LBX9_landr_3 7).trans (by decide +kernel)) (by decide)
theorem dX9_land_56 : decode cX9_land 56 = .ok (.iconst 1, 1) := dk_4_ (show cX9_land.data.toList[56]? = some 0x04 from (LBX9_landr_3 8).trans (by decide +kernel))
theorem dX9_land_57 : decode cX9_land 57 = .ok (.goto 4, 3) := dk_167_ (show cX9_land.data.toList[57]? = some 0xa7 from (LBX9_landr_3 9).trans (by decide +kernel)) (show cX9_land.data.toList[58]? = some 0x00 from (LBX9_landr_3 10).trans (by decide +kernel)) (show cX9_land.data.toList[59]? = some 0x04 from (LBX9_landr_3 11).trans (by decide +kernel)) (by decide)
theorem dX9_land_60 : decode cX9_land 60 = .ok (.iconst 0, 1) := dk_3_ (show cX9_land.data.toList[60]? = some 0x03 from (LBX9_landr_3 12).trans (by decide +kernel))
theorem dX9_land_61 : decode cX9_land 61 = .ok (.invokevirtual 278, 3) := dk_182_ (show cX9_land.data.toList[61]? = some 0xb6 from (LBX9_landr_3 13).trans (by decide +kernel)) (show cX9_land.data.toList[62]? = some 0x01 from (LBX9_landr_3 14).trans (by decide +kernel)) (show cX9_land.data.toList[63]? = some 0x16 from (LBX9_landr_3 15).trans (by decide +kernel)) (by decide)
theorem dX9_land_64 : decode cX9_land 64 = .ok (.aload_n 0, 1) := dk_42_ (show cX9_land.data.toList[64]? = some 0x2a from (LBX9_landr_4 0).trans (by decide +kernel))
theorem dX9_land_65 : decode cX9_land 65 = .ok (.invokevirtual 300, 3) := dk_182_ (show cX9_land.data.toList[65]? = some 0xb6 from (LBX9_landr_4 1).trans (by decide +kernel)) (show cX9_land.data.toList[66]? = some 0x01 from (LBX9_landr_4 2).trans (by decide +kernel)) (show cX9_land.data.toList[67]? = some 0x2c from (LBX9_landr_4 3).trans (by decide +kernel)) (by decide)
theorem dX9_land_68 : decode cX9_land 68 = .ok (.iinc 1 1, 3) := dk_132_ (show cX9_land.data.toList[68]? = some 0x84 from (LBX9_landr_4 4).trans (by decide +kernel)) (show cX9_land.data.toList[69]? = some 0x01 from (LBX9_landr_4 5).trans (by decide +kernel)) (show cX9_land.data.toList[70]? = some 0x01 from (LBX9_landr_4 6).trans (by decide +kernel)) (by decide) (by decide)
theorem dX9_land_71 : decode cX9_land 71 = .ok (.goto (-47), 3) := dk_167_ (show cX9_land.data.toList[71]? = some 0xa7 from (LBX9_landr_4 7).trans (by decide +kernel)) (show cX9_land.data.toList[72]? = some 0xff from (LBX9_landr_4 8).trans (by decide +kernel)) (show cX9_land.data.toList[73]? = some 0xd1 from (LBX9_landr_4 9).trans (by decide +kernel)) (by decide)
theorem dX9_land_74 : decode cX9_land 74 = .ok (.aload_n 0, 1) := dk_42_ (show cX9_land.data.toList[74]? = some 0x2a from (LBX9_landr_4 10).trans (by decide +kernel))
theorem dX9_land_75 : decode cX9_land 75 = .ok (.iconst 0, 1) := dk_3_ (show cX9_land.data.toList[75]? = some 0x03 from (LBX9_landr_4 11).trans (by decide +kernel))
theorem dX9_land_76 : decode cX9_land 76 = .ok (.putfield 240, 3) := dk_181_ (show cX9_land.data.toList[76]? = some 0xb5 from (LBX9_landr_4 12).trans (by decide +kernel)) (show cX9_land.data.toList[77]? = some 0x00 from (LBX9_landr_4 13).trans (by decide +kernel)) (show cX9_land.data.toList[78]? = some 0xf0 from (LBX9_landr_4 14).trans (by decide +kernel)) (by decide)
theorem dX9_land_79 : decode cX9_land 79 = .ok (.aload_n 0, 1) := dk_42_ (show cX9_land.data.toList[79]? = some 0x2a from (LBX9_landr_4 15).trans (by decide +kernel))
theorem dX9_land_80 : decode cX9_land 80 = .ok (.getfield 266, 3) := dk_180_ (show cX9_land.data.toList[80]? = some 0xb4 from (LBX9_landr_5 0).trans (by decide +kernel)) (show cX9_land.data.toList[81]? = some 0x01 from (LBX9_landr_5 1).trans (by decide +kernel)) (show cX9_land.data.toList[82]? = some 0x0a from (LBX9_landr_5 2).trans (by decide +kernel)) (by decide)
theorem dX9_land_83 : decode cX9_land 83 = .ok (.ifCond .eq 14, 3) := dk_153_ (show cX9_land.data.toList[83]? = some 0x99 from (LBX9_landr_5 3).trans (by decide +kernel)) (show cX9_land.data.toList[84]? = some 0x00 from (LBX9_landr_5 4).trans (by decide +kernel)) (show cX9_land.data.toList[85]? = some 0x0e from (LBX9_landr_5 5).trans (by decide +kernel)) (by decide)
theorem dX9_land_86 : decode cX9_land 86 = .ok (.aload_n 0, 1) := dk_42_ (show cX9_land.data.toList[86]? = some 0x2a from (LBX9_landr_5 6).trans (by decide +kernel))
theorem dX9_land_87 : decode cX9_land 87 = .ok (.invokevirtual 220, 3) := dk_182_ (show cX9_land.data.toList[87]? = some 0xb6 from (LBX9_landr_5 7).trans (by decide +kernel)) (show cX9_land.data.toList[88]? = some 0x00 from (LBX9_landr_5 8).trans (by decide +kernel)) (show cX9_land.data.toList[89]? = some 0xdc from (LBX9_landr_5 9).trans (by decide +kernel)) (by decide)
theorem dX9_land_90 : decode cX9_land 90 = .ok (.iconst (-1), 1) := dk_2_ (show cX9_land.data.toList[90]? = some 0x02 from (LBX9_landr_5 10).trans (by decide +kernel))
theorem dX9_land_91 : decode cX9_land 91 = .ok (.aload_n 0, 1) := dk_42_ (show cX9_land.data.toList[91]? = some 0x2a from (LBX9_landr_5 11).trans (by decide +kernel))
theorem dX9_land_92 : decode cX9_land 92 = .ok (.getfield 254, 3) := dk_180_ (show cX9_land.data.toList[92]? = some 0xb4 from (LBX9_landr_5 12).trans (by decide +kernel)) (show cX9_land.data.toList[93]? = some 0x00 from (LBX9_landr_5 13).trans (by decide +kernel)) (show cX9_land.data.toList[94]? = some 0xfe from (LBX9_landr_5 14).trans (by decide +kernel)) (by decide)
theorem dX9_land_95 : decode cX9_land 95 = .ok (.isub, 1) := dk_100_ (show cX9_land.data.toList[95]? = some 0x64 from (LBX9_landr_5 15).trans (by decide +kernel))
theorem dX9_land_96 : decode cX9_land 96 = .ok (.ireturn, 1) := dk_172_ (show cX9_land.data.toList[96]? = some 0xac from (LBX9_landr_6 0).trans (by decide +kernel))
theorem dX9_land_97 : decode cX9_land 97 = .ok (.iload_n 1, 1) := dk_27_ (show cX9_land.data.toList[97]? = some 0x1b from (LBX9_landr_6 1).trans (by decide +kernel))
theorem dX9_land_98 : decode cX9_land 98 = .ok (.ireturn, 1) := dk_172_ (show cX9_land.data.toList[98]? = some 0xac from (LBX9_landr_6 2).trans (by decide +kernel))
theorem uw880 : Cond.methodLink RX9 284 yX9_numberHere ∈ wsU := ut6 (List.mem_of_getElem? (i := 164) rfl) rfl
theorem uw881 : Cond.instanceMethod yX9_numberHere ∈ wsU := ut6 (List.mem_of_getElem? (i := 166) rfl) rfl
theorem uw882 : Cond.selects RX9 yX9_numberHere yX9_numberHere ∈ wsU := us_sel (q := (yX9_numberHere, 27)) (List.mem_of_getElem? (i := 74) (by decide +kernel)) rfl
theorem uw883 : Cond.code yX9_numberHere cX9_numberHere 3 (some .int) ∈ wsU := ut6 (List.mem_of_getElem? (i := 167) rfl) rfl
theorem uw884 : Cond.methodLink RX9 287 yX9_mile ∈ wsU := ut6 (List.mem_of_getElem? (i := 168) rfl) rfl
theorem uw885 : Cond.instanceMethod yX9_mile ∈ wsU := ut6 (List.mem_of_getElem? (i := 170) rfl) rfl
theorem uw886 : Cond.selects RX9 yX9_mile yX9_mile ∈ wsU := us_sel (q := (yX9_mile, 27)) (List.mem_of_getElem? (i := 75) (by decide +kernel)) rfl
theorem uw887 : Cond.code yX9_mile cX9_mile 4 none ∈ wsU := ut6 (List.mem_of_getElem? (i := 171) rfl) rfl
theorem uw888 : Cond.methodLink RX9 290 yX9_isWord ∈ wsU := ut6 (List.mem_of_getElem? (i := 144) rfl) rfl
theorem uw889 : Cond.instanceMethod yX9_isWord ∈ wsU := ut6 (List.mem_of_getElem? (i := 146) rfl) rfl
theorem uw890 : Cond.selects RX9 yX9_isWord yX9_isWord ∈ wsU := us_sel (q := (yX9_isWord, 27)) (List.mem_of_getElem? (i := 69) (by decide +kernel)) rfl
theorem uw891 : Cond.code yX9_isWord cX9_isWord 9 (some .boolean) ∈ wsU := ut6 (List.mem_of_getElem? (i := 147) rfl) rfl
theorem uw892 : Cond.fieldLink RX9 40 "LongerBackModel" "walked" "[I" ∈ wsU := ut4 (List.mem_of_getElem? (i := 230) rfl) rfl
theorem uw893 : Cond.methodLink RX9 294 yX9_wayItem ∈ wsU := ut6 (List.mem_of_getElem? (i := 152) rfl) rfl
theorem uw894 : Cond.instanceMethod yX9_wayItem ∈ wsU := ut6 (List.mem_of_getElem? (i := 154) rfl) rfl
theorem uw895 : Cond.selects RX9 yX9_wayItem yX9_wayItem ∈ wsU := us_sel (q := (yX9_wayItem, 27)) (List.mem_of_getElem? (i := 71) (by decide +kernel)) rfl
theorem uw896 : Cond.code yX9_wayItem cX9_wayItem 7 none ∈ wsU := ut6 (List.mem_of_getElem? (i := 155) rfl) rfl
theorem uw897 : Cond.methodLink RX9 297 yX9_walkItem ∈ wsU := ut6 (List.mem_of_getElem? (i := 172) rfl) rfl
theorem uw898 : Cond.instanceMethod yX9_walkItem ∈ wsU := ut6 (List.mem_of_getElem? (i := 174) rfl) rfl
theorem uw899 : Cond.selects RX9 yX9_walkItem yX9_walkItem ∈ wsU := us_sel (q := (yX9_walkItem, 27)) (List.mem_of_getElem? (i := 76) (by decide +kernel)) rfl
theorem uw900 : Cond.code yX9_walkItem cX9_walkItem 6 none ∈ wsU := ut6 (List.mem_of_getElem? (i := 175) rfl) rfl
theorem uw901 : Cond.methodLink RX9 300 yX9_item ∈ wsU := ut6 (List.mem_of_getElem? (i := 140) rfl) rfl
theorem uw902 : Cond.instanceMethod yX9_item ∈ wsU := ut6 (List.mem_of_getElem? (i := 142) rfl) rfl
theorem uw903 : Cond.selects RX9 yX9_item yX9_item ∈ wsU := us_sel (q := (yX9_item, 27)) (List.mem_of_getElem? (i := 68) (by decide +kernel)) rfl
theorem uw904 : Cond.code yX9_item cX9_item 2 none ∈ wsU := ut6 (List.mem_of_getElem? (i := 143) rfl) rfl
theorem kv_X9_284 : xWV RX9 284 RX9 yX9_numberHere cX9_numberHere 3 (some .int) 0 := ⟨⟨uw880, uw881, uw882, uw657, uw883⟩, by decide +kernel⟩
theorem kv_X9_287 : xWV RX9 287 RX9 yX9_mile cX9_mile 4 none 2 := ⟨⟨uw884, uw885, uw886, uw657, uw887⟩, by decide +kernel⟩
theorem kv_X9_290 : xWV RX9 290 RX9 yX9_isWord cX9_isWord 9 (some .boolean) 7 := ⟨⟨uw888, uw889, uw890, uw657, uw891⟩, by decide +kernel⟩
theorem kf_X9_40 : xWF RX9 40 9 22 RX9 TX9 27 := ⟨inUX9, rfl, by decide, uw892⟩
theorem kv_X9_294 : xWV RX9 294 RX9 yX9_wayItem cX9_wayItem 7 none 0 := ⟨⟨uw893, uw894, uw895, uw657, uw896⟩, by decide +kernel⟩
theorem kv_X9_297 : xWV RX9 297 RX9 yX9_walkItem cX9_walkItem 6 none 0 := ⟨⟨uw897, uw898, uw899, uw657, uw900⟩, by decide +kernel⟩
theorem kv_X9_300 : xWV RX9 300 RX9 yX9_item cX9_item 2 none 0 := ⟨⟨uw901, uw902, uw903, uw657, uw904⟩, by decide +kernel⟩
set_option maxHeartbeats 4000000 in
set_option maxRecDepth 100000 in
theorem c_X9_wayItem (l : Launch) (D : va_G) (cI cJ cZ cS : ClassId) (ta : Nat) (sa sv : Nat → Nat) (sz : Nat) (h0 : Nat) (ys : Nat) (yk : Nat) (yo : Nat) (yt : Nat) (mk0 : Int32) (yfa : Nat) (yfe : Nat) (mL : Int32) (mS : Int32) (mM : Int32) (yro : Nat) (yhe : Nat) (ygr : Nat) (mF : Int32) (mC : Int32) (mY : Int32) (yta : Nat) (mz : Nat) (mf : Nat) (mt : Nat) (mv : Int32) (mw : Int32) (ywa : Nat) (ybi : Nat) (ysi : Nat) (ynu : Nat) (ymo : Nat) (ms : Nat → Int32) (tp : Nat → Int32) (P : Nat) (Rn : Nat) (Wn : Nat) (hz : mz ≤ 120) (k1 : mf ≤ mz) (k2 : mt ≤ mz) (k3 : mf ≤ mt) (k4 : mf < mt ∨ mf = mz) (hs0 : ms 0 = nI P) (hs1 : ms 1 = nI Rn) (hs2 : ms 2 = nI Wn) (hsS : SI ms) (hsM : MI ms) (hsp : P ≤ 10) (hsr : Rn ≤ 8) (hsw : Wn ≤ 8) (hsR : RI Rn ms) : Met l yX9_wayItem (Cond.code yX9_wayItem cX9_wayItem 7 none :: wsU) ({ frames := 6, cells := 0, slots := 0, locals := 136 }) (va_Pc [.ref h0] (XW D (xT cI cJ cZ cS) ta sa sv [(h0, .inr (9, [.ref ys, .ref yk, .ref yo, .ref yt, .int mk0, .ref yfa, .ref yfe, .int mL, .int mS, .int mM, .ref yro, .ref yhe, .ref ygr, .int mF, .int mC, .int mY, .ref yta, .int (nI (mz)), .int (nI (mf)), .int (nI (mt)), .int mv, .int mw, .ref ywa, .ref ybi, .ref ysi, .ref ynu, .ref ymo])), (ys, .inl (cI, 449, .inl ms)), (yta, .inl (cI, 120, .inl tp))] sz)) (XQv (fun (u : Nat × Nat × Int32 × Int32 × (Nat → Int32)) => match u with | (f2, t2, v2, w2, ms2) => (f2 ≤ mz) ∧ (t2 ≤ mz) ∧ (f2 ≤ t2) ∧ (f2 < t2 ∨ f2 = mz) ∧ (mf ≤ f2) ∧ (w2 = 0 → mw = 0 ∧ True) ∧ (ms2 0 = nI P) ∧ (ms2 1 = nI Rn) ∧ (ms2 2 = nI Wn) ∧ (SI ms2) ∧ (MI ms2) ∧ (P ≤ 10) ∧ (Rn ≤ 8) ∧ (Wn ≤ 8) ∧ (RI Rn ms2)) D (fun (u : Nat × Nat × Int32 × Int32 × (Nat → Int32)) => match u with | (f2, t2, v2, w2, ms2) => [(h0, .inr (9, [.ref ys, .ref yk, .ref yo, .ref yt, .int mk0, .ref yfa, .ref yfe, .int mL, .int mS, .int mM, .ref yro, .ref yhe, .ref ygr, .int mF, .int mC, .int mY, .ref yta, .int (nI (mz)), .int (nI (f2)), .int (nI (t2)), .int v2, .int w2, .ref ywa, .ref ybi, .ref ysi, .ref ynu, .ref ymo])), (ys, .inl (cI, 449, .inl ms2)), (yta, .inl (cI, 120, .inl tp))]) (va_A [(h0, .inr (9, [.ref ys, .ref yk, .ref yo, .ref yt, .int mk0, .ref yfa, .ref yfe, .int mL, .int mS, .int mM, .ref yro, .ref yhe, .ref ygr, .int mF, .int mC, .int mY, .ref yta, .int (nI (mz)), .int (nI (mf)), .int (nI (mt)), .int mv, .int mw, .ref ywa, .ref ybi, .ref ysi, .ref ynu, .ref ymo])), (ys, .inl (cI, 449, .inl ms)), (yta, .inl (cI, 120, .inl tp))] sz)) 0 0 (va_A [(h0, .inr (9, [.ref ys, .ref yk, .ref yo, .ref yt, .int mk0, .ref yfa, .ref yfe, .int mL, .int mS, .int mM, .ref yro, .ref yhe, .ref ygr, .int mF, .int mC, .int mY, .ref yta, .int (nI (mz)), .int (nI (mf)), .int (nI (mt)), .int mv, .int mw, .ref ywa, .ref ybi, .ref ysi, .ref ynu, .ref ymo])), (ys, .inl (cI, 449, .inl ms)), (yta, .inl (cI, 120, .inl tp))] sz) := by
  refine xh (QA := fun A => XQv (fun (u : Nat × Nat × Int32 × Int32 × (Nat → Int32)) => match u with | (f2, t2, v2, w2, ms2) => (f2 ≤ mz) ∧ (t2 ≤ mz) ∧ (f2 ≤ t2) ∧ (f2 < t2 ∨ f2 = mz) ∧ (mf ≤ f2) ∧ (w2 = 0 → mw = 0 ∧ True) ∧ (ms2 0 = nI P) ∧ (ms2 1 = nI Rn) ∧ (ms2 2 = nI Wn) ∧ (SI ms2) ∧ (MI ms2) ∧ (P ≤ 10) ∧ (Rn ≤ 8) ∧ (Wn ≤ 8) ∧ (RI Rn ms2)) D (fun (u : Nat × Nat × Int32 × Int32 × (Nat → Int32)) => match u with | (f2, t2, v2, w2, ms2) => [(h0, .inr (9, [.ref ys, .ref yk, .ref yo, .ref yt, .int mk0, .ref yfa, .ref yfe, .int mL, .int mS, .int mM, .ref yro, .ref yhe, .ref ygr, .int mF, .int mC, .int mY, .ref yta, .int (nI (mz)), .int (nI (f2)), .int (nI (t2)), .int v2, .int w2, .ref ywa, .ref ybi, .ref ysi, .ref ynu, .ref ymo])), (ys, .inl (cI, 449, .inl ms2)), (yta, .inl (cI, 120, .inl tp))]) A) (fr := fun A => A) (by decide) (Nat.le_of_ble_eq_true rfl) ?_
  intro p e s m below meth c ls A hF hr hlk hin hsz hP hK hD hN hZ hA hS hl
  have hF : CallFix p m c cX9_wayItem 7 s _ _ RX9 := hF
  have hx := hF.1
  have hb := hF.2.1
  have hml := hF.2.2.1
  have hown := hF.2.2.2.1
  have hu : ∀ w ∈ wsU, w.before _ s = true := fun w h => hF.2.2.2.2 w (List.mem_cons_of_mem _ h)
  have hl : lv_has ls 7 [(0, .ref h0)] := hl
  refine lv_aload_n hx hb dX9_wayItem_0 rfl (lv_at hl 0 rfl) ?_
  refine lv_iconst (v := 1) hx hb dX9_wayItem_1 (by decide) ?_
  refine xc_Vv (wr := [(ys, .inl (cI, 449, .inl ms))]) hF (c_X9_needs l D cI cJ cZ cS ta sa sv s.heap.size h0 ys yk yo yt mk0 yfa yfe mL mS mM yro yhe ygr mF mC mY yta mz mf mt mv mw ywa ybi ysi ynu ymo tp 1 (by omega) (by omega) (by omega) (by omega) (by omega)) kv_X9_278 ⟨rfl, rfl, Nat.le_of_ble_eq_true rfl, Nat.le_of_ble_eq_true rfl⟩ ⟨Nat.le_of_ble_eq_true rfl, Nat.le_of_ble_eq_true rfl⟩ hK hN hZ hP hD hS hA [0, 2] [1] rfl rfl rfl rfl (by decide) 0 rfl rfl rfl rfl hl.1 rfl (Nat.le_of_ble_eq_true rfl) dX9_wayItem_2 (fun u_r_1 H locs hw_r_1 hP hD hS => ?_)
  obtain ⟨f2_2, t2_3, w2_4⟩ := u_r_1
  try dsimp only at hw_r_1
  obtain ⟨i_5, i_6, i_7, i_8, i_9, i_10⟩ := hw_r_1
  have hP : va_P D vwCl [(ys, .inl (cI, 449, .inl ms)), (h0, .inr (9, [.ref ys, .ref yk, .ref yo, .ref yt, .int mk0, .ref yfa, .ref yfe, .int mL, .int mS, .int mM, .ref yro, .ref yhe, .ref ygr, .int mF, .int mC, .int mY, .ref yta, .int (nI (mz)), .int (nI (f2_2)), .int (nI (t2_3)), .int mv, .int w2_4, .ref ywa, .ref ybi, .ref ysi, .ref ynu, .ref ymo])), (yta, .inl (cI, 120, .inl tp))] H := hP
  have hD : va_D A [(ys, .inl (cI, 449, .inl ms)), (h0, .inr (9, [.ref ys, .ref yk, .ref yo, .ref yt, .int mk0, .ref yfa, .ref yfe, .int mL, .int mS, .int mM, .ref yro, .ref yhe, .ref ygr, .int mF, .int mC, .int mY, .ref yta, .int (nI (mz)), .int (nI (f2_2)), .int (nI (t2_3)), .int mv, .int w2_4, .ref ywa, .ref ybi, .ref ysi, .ref ynu, .ref ymo])), (yta, .inl (cI, 120, .inl tp))] := hD
  refine lv_aload_n hx hb dX9_wayItem_5 rfl (lv_at hl 0 rfl) ?_
  refine lv_iconst (v := 0) hx hb dX9_wayItem_6 (by decide) ?_
  refine lv_aload_n hx hb dX9_wayItem_7 rfl (lv_at hl 0 rfl) ?_
  refine xg hF kf_X9_7 hK hP 1 rfl rfl dX9_wayItem_8 ?_
  refine lv_iconst (v := 0) hx hb dX9_wayItem_11 (by decide) ?_
  refine va_iald hx hb hK hP 0 0 rfl rfl (xin 0 449 (by decide) (by decide)) dX9_wayItem_12 ?_
  refine xl_i (y := nI (P)) hs0 ?_
  refine lv_iconst (v := 1) hx hb dX9_wayItem_13 (by decide) ?_
  refine lv_isub hx hb dX9_wayItem_14 ?_
  refine lv_topi (fun x_11 ex_11 => ?_)
  refine xc_Vv (wr := [(ys, .inl (cI, 449, .inl ms))]) hF (c_X9_number l D cI cJ cZ cS ta sa sv H.size h0 ys yk yo yt mk0 yfa yfe mL mS mM yro yhe ygr mF mC mY yta mz f2_2 t2_3 mv w2_4 ywa ybi ysi ynu ymo tp 0 x_11 (by omega) (by omega) (by omega) (by omega) (by omega)) kv_X9_282 ⟨rfl, rfl, Nat.le_of_ble_eq_true rfl, Nat.le_of_ble_eq_true rfl⟩ ⟨Nat.le_of_ble_eq_true rfl, Nat.le_of_ble_eq_true rfl⟩ hK hN hZ hP hD hS hA [1, 2] [0] rfl rfl rfl rfl (by decide) 0 rfl rfl rfl rfl hl.1 rfl (Nat.le_of_ble_eq_true rfl) dX9_wayItem_15 (fun u_r_12 H locs hw_r_12 hP hD hS => ?_)
  obtain ⟨f2_13, t2_14, v2_15, w2_16⟩ := u_r_12
  try dsimp only at hw_r_12
  obtain ⟨i_17, i_18, i_19, i_20, i_21, i_22⟩ := hw_r_12
  have hP : va_P D vwCl [(ys, .inl (cI, 449, .inl ms)), (h0, .inr (9, [.ref ys, .ref yk, .ref yo, .ref yt, .int mk0, .ref yfa, .ref yfe, .int mL, .int mS, .int mM, .ref yro, .ref yhe, .ref ygr, .int mF, .int mC, .int mY, .ref yta, .int (nI (mz)), .int (nI (f2_13)), .int (nI (t2_14)), .int v2_15, .int w2_16, .ref ywa, .ref ybi, .ref ysi, .ref ynu, .ref ymo])), (yta, .inl (cI, 120, .inl tp))] H := hP
  have hD : va_D A [(ys, .inl (cI, 449, .inl ms)), (h0, .inr (9, [.ref ys, .ref yk, .ref yo, .ref yt, .int mk0, .ref yfa, .ref yfe, .int mL, .int mS, .int mM, .ref yro, .ref yhe, .ref ygr, .int mF, .int mC, .int mY, .ref yta, .int (nI (mz)), .int (nI (f2_13)), .int (nI (t2_14)), .int v2_15, .int w2_16, .ref ywa, .ref ybi, .ref ysi, .ref ynu, .ref ymo])), (yta, .inl (cI, 120, .inl tp))] := hD
  refine lv_aload_n hx hb dX9_wayItem_18 rfl (lv_at hl 0 rfl) ?_
  refine xg hF kf_X9_275 hK hP 1 rfl rfl dX9_wayItem_19 ?_
  refine lv_istore_n (lv' := [(1, .int v2_15), (0, .ref h0)]) hx hb dX9_wayItem_22 rfl hl (by decide) rfl (fun ls hl => ?_)
  refine lv_aload_n hx hb dX9_wayItem_23 rfl (lv_at hl 1 rfl) ?_
  refine xc_Vr hF (c_X9_numberHere l D cI cJ cZ cS ta sa sv H.size h0 ys yk yo yt mk0 yfa yfe mL mS mM yro yhe ygr mF mC mY yta mz f2_13 t2_14 v2_15 w2_16 ywa ybi ysi ynu ymo tp (by omega) (by omega) (by omega) (by omega) (by omega)) kv_X9_284 ⟨rfl, rfl, Nat.le_of_ble_eq_true rfl, Nat.le_of_ble_eq_true rfl⟩ ⟨Nat.le_of_ble_eq_true rfl, Nat.le_of_ble_eq_true rfl⟩ hK hN hZ hP hD hS hA [1, 2] rfl rfl 0 rfl rfl rfl rfl hl.1 rfl (Nat.le_of_ble_eq_true rfl) dX9_wayItem_24 (fun r_23 hw_r_23 => ?_)
  refine lv_istore_n (lv' := [(2, .int r_23), (1, .int v2_15), (0, .ref h0)]) hx hb dX9_wayItem_27 rfl hl (by decide) rfl (fun ls hl => ?_)
  refine lv_aload_n hx hb dX9_wayItem_28 rfl (lv_at hl 2 rfl) ?_
  refine lv_aload_n hx hb dX9_wayItem_29 rfl (lv_at hl 2 rfl) ?_
  refine lv_iload_n hx hb dX9_wayItem_30 rfl (lv_at hl 0 rfl) ?_
  refine xc_Vr hF (c_X9_isPlace l D cI cJ cZ cS ta sa sv H.size h0 ys yk yo yt mk0 yfa yfe mL mS mM yro yhe ygr mF mC mY yta mz f2_13 t2_14 v2_15 w2_16 ywa ybi ysi ynu ymo ms P Rn Wn r_23 hs0 hs1 hs2 hsS hsM hsp hsr hsw hsR) kv_X9_61 ⟨rfl, rfl, Nat.le_of_ble_eq_true rfl, Nat.le_of_ble_eq_true rfl⟩ ⟨Nat.le_of_ble_eq_true rfl, Nat.le_of_ble_eq_true rfl⟩ hK hN hZ hP hD hS hA [1, 0] rfl rfl 0 rfl rfl rfl rfl hl.1 rfl (Nat.le_of_ble_eq_true rfl) dX9_wayItem_31 (fun r_24 hw_r_24 => ?_)
  rcases hw_r_24 with ⟨k_25, rfl, rfl, h_27⟩ | rfl
  · skip
    refine lv_if_eq (tgt := 46) hx hb dX9_wayItem_34 (by decide) (fun c_28 => absurd c_28 (by decide)) (fun c_28 => ?_)
    refine lv_iload_n hx hb dX9_wayItem_37 rfl (lv_at hl 0 rfl) ?_
    refine lv_iload_n hx hb dX9_wayItem_38 rfl (lv_at hl 1 rfl) ?_
    refine lv_icmp_eq (tgt := 46) hx hb dX9_wayItem_39 (by decide) (fun c_29 => ?_) (fun c_29 => ?_)
    · skip
      refine lv_iconst (v := 0) hx hb dX9_wayItem_46 (by decide) ?_
      refine xc_Vv (wr := [(ys, .inl (cI, 449, .inl ms))]) hF (c_X9_needs l D cI cJ cZ cS ta sa sv H.size h0 ys yk yo yt mk0 yfa yfe mL mS mM yro yhe ygr mF mC mY yta mz f2_13 t2_14 v2_15 w2_16 ywa ybi ysi ynu ymo tp 0 (by omega) (by omega) (by omega) (by omega) (by omega)) kv_X9_278 ⟨rfl, rfl, Nat.le_of_ble_eq_true rfl, Nat.le_of_ble_eq_true rfl⟩ ⟨Nat.le_of_ble_eq_true rfl, Nat.le_of_ble_eq_true rfl⟩ hK hN hZ hP hD hS hA [1, 2] [0] rfl rfl rfl rfl (by decide) 0 rfl rfl rfl rfl hl.1 rfl (Nat.le_of_ble_eq_true rfl) dX9_wayItem_47 (fun u_r_30 H locs hw_r_30 hP hD hS => ?_)
      obtain ⟨f2_31, t2_32, w2_33⟩ := u_r_30
      try dsimp only at hw_r_30
      obtain ⟨i_34, i_35, i_36, i_37, i_38, i_39⟩ := hw_r_30
      have hP : va_P D vwCl [(ys, .inl (cI, 449, .inl ms)), (h0, .inr (9, [.ref ys, .ref yk, .ref yo, .ref yt, .int mk0, .ref yfa, .ref yfe, .int mL, .int mS, .int mM, .ref yro, .ref yhe, .ref ygr, .int mF, .int mC, .int mY, .ref yta, .int (nI (mz)), .int (nI (f2_31)), .int (nI (t2_32)), .int v2_15, .int w2_33, .ref ywa, .ref ybi, .ref ysi, .ref ynu, .ref ymo])), (yta, .inl (cI, 120, .inl tp))] H := hP
      have hD : va_D A [(ys, .inl (cI, 449, .inl ms)), (h0, .inr (9, [.ref ys, .ref yk, .ref yo, .ref yt, .int mk0, .ref yfa, .ref yfe, .int mL, .int mS, .int mM, .ref yro, .ref yhe, .ref ygr, .int mF, .int mC, .int mY, .ref yta, .int (nI (mz)), .int (nI (f2_31)), .int (nI (t2_32)), .int v2_15, .int w2_33, .ref ywa, .ref ybi, .ref ysi, .ref ynu, .ref ymo])), (yta, .inl (cI, 120, .inl tp))] := hD
      refine lv_aload_n hx hb dX9_wayItem_50 rfl (lv_at hl 2 rfl) ?_
      refine lv_bipush (v := (-99)) hx hb dX9_wayItem_51 (by decide) ?_
      refine lv_sipush (v := 999) hx hb dX9_wayItem_53 (by decide) ?_
      refine xc_Vv (wr := [(ys, .inl (cI, 449, .inl ms))]) hF (c_X9_mileE l D cI cJ cZ cS ta sa sv H.size h0 ys yk yo yt mk0 yfa yfe mL mS mM yro yhe ygr mF mC mY yta mz f2_31 t2_32 v2_15 w2_33 ywa ybi ysi ynu ymo tp (by omega) (by omega) (by omega) (by omega) (by omega)) kv_X9_287 ⟨rfl, rfl, Nat.le_of_ble_eq_true rfl, Nat.le_of_ble_eq_true rfl⟩ ⟨Nat.le_of_ble_eq_true rfl, Nat.le_of_ble_eq_true rfl⟩ hK hN hZ hP hD hS hA [1, 2] [0] rfl rfl rfl rfl (by decide) 0 rfl rfl rfl rfl hl.1 rfl (Nat.le_of_ble_eq_true rfl) dX9_wayItem_56 (fun u_r_40 H locs hw_r_40 hP hD hS => ?_)
      obtain ⟨f2_41, t2_42, v2_43, w2_44⟩ := u_r_40
      try dsimp only at hw_r_40
      obtain ⟨i_45, i_46, i_47, i_48, i_49, i_50⟩ := hw_r_40
      have hP : va_P D vwCl [(ys, .inl (cI, 449, .inl ms)), (h0, .inr (9, [.ref ys, .ref yk, .ref yo, .ref yt, .int mk0, .ref yfa, .ref yfe, .int mL, .int mS, .int mM, .ref yro, .ref yhe, .ref ygr, .int mF, .int mC, .int mY, .ref yta, .int (nI (mz)), .int (nI (f2_41)), .int (nI (t2_42)), .int v2_43, .int w2_44, .ref ywa, .ref ybi, .ref ysi, .ref ynu, .ref ymo])), (yta, .inl (cI, 120, .inl tp))] H := hP
      have hD : va_D A [(ys, .inl (cI, 449, .inl ms)), (h0, .inr (9, [.ref ys, .ref yk, .ref yo, .ref yt, .int mk0, .ref yfa, .ref yfe, .int mL, .int mS, .int mM, .ref yro, .ref yhe, .ref ygr, .int mF, .int mC, .int mY, .ref yta, .int (nI (mz)), .int (nI (f2_41)), .int (nI (t2_42)), .int v2_43, .int w2_44, .ref ywa, .ref ybi, .ref ysi, .ref ynu, .ref ymo])), (yta, .inl (cI, 120, .inl tp))] := hD
      refine lv_aload_n hx hb dX9_wayItem_59 rfl (lv_at hl 2 rfl) ?_
      refine xg hF kf_X9_275 hK hP 1 rfl rfl dX9_wayItem_60 ?_
      refine lv_istore_n (lv' := [(3, .int v2_43), (2, .int (nI (k_25))), (1, .int v2_15), (0, .ref h0)]) hx hb dX9_wayItem_63 rfl hl (by decide) rfl (fun ls hl => ?_)
      refine lv_aload_n hx hb dX9_wayItem_64 rfl (lv_at hl 3 rfl) ?_
      refine xg hF kf_X9_275 hK hP 1 rfl rfl dX9_wayItem_65 ?_
      refine lv_istore (lv' := [(4, .int v2_43), (3, .int v2_43), (2, .int (nI (k_25))), (1, .int v2_15), (0, .ref h0)]) hx hb dX9_wayItem_68 hl (by decide) rfl (fun ls hl => ?_)
      refine lv_aload_n hx hb dX9_wayItem_70 rfl (lv_at hl 4 rfl) ?_
      refine lv_bipush (v := 116) hx hb dX9_wayItem_71 (by decide) ?_
      refine lv_bipush (v := 111) hx hb dX9_wayItem_73 (by decide) ?_
      refine lv_iconst (v := 0) hx hb dX9_wayItem_75 (by decide) ?_
      refine lv_iconst (v := 0) hx hb dX9_wayItem_76 (by decide) ?_
      refine lv_iconst (v := 0) hx hb dX9_wayItem_77 (by decide) ?_
      refine lv_iconst (v := 0) hx hb dX9_wayItem_78 (by decide) ?_
      refine lv_iconst (v := 0) hx hb dX9_wayItem_79 (by decide) ?_
      refine xc_Vr hF (c_X9_isWord l D cI cJ cZ cS ta sa sv H.size h0 ys yk yo yt mk0 yfa yfe mL mS mM yro yhe ygr mF mC mY yta mz f2_41 t2_42 v2_43 w2_44 ywa ybi ysi ynu ymo tp 116 111 0 0 0 0 0 (by omega) (by omega)) kv_X9_290 ⟨rfl, rfl, Nat.le_of_ble_eq_true rfl, Nat.le_of_ble_eq_true rfl⟩ ⟨Nat.le_of_ble_eq_true rfl, Nat.le_of_ble_eq_true rfl⟩ hK hN hZ hP hD hS hA [1, 2] rfl rfl 0 rfl rfl rfl rfl hl.1 rfl (Nat.le_of_ble_eq_true rfl) dX9_wayItem_80 (fun r_51 hw_r_51 => ?_)
      rcases hw_r_51 with rfl | rfl
      · skip
        refine lv_if_eq (tgt := 105) hx hb dX9_wayItem_83 (by decide) (fun c_52 => absurd c_52 (by decide)) (fun c_52 => ?_)
        refine lv_aload_n hx hb dX9_wayItem_86 rfl (lv_at hl 4 rfl) ?_
        refine lv_iconst (v := 1) hx hb dX9_wayItem_87 (by decide) ?_
        refine xc_Vv (wr := [(ys, .inl (cI, 449, .inl ms))]) hF (c_X9_needs l D cI cJ cZ cS ta sa sv H.size h0 ys yk yo yt mk0 yfa yfe mL mS mM yro yhe ygr mF mC mY yta mz f2_41 t2_42 v2_43 w2_44 ywa ybi ysi ynu ymo tp 1 (by omega) (by omega) (by omega) (by omega) (by omega)) kv_X9_278 ⟨rfl, rfl, Nat.le_of_ble_eq_true rfl, Nat.le_of_ble_eq_true rfl⟩ ⟨Nat.le_of_ble_eq_true rfl, Nat.le_of_ble_eq_true rfl⟩ hK hN hZ hP hD hS hA [1, 2] [0] rfl rfl rfl rfl (by decide) 0 rfl rfl rfl rfl hl.1 rfl (Nat.le_of_ble_eq_true rfl) dX9_wayItem_88 (fun u_r_53 H locs hw_r_53 hP hD hS => ?_)
        obtain ⟨f2_54, t2_55, w2_56⟩ := u_r_53
        try dsimp only at hw_r_53
        obtain ⟨i_57, i_58, i_59, i_60, i_61, i_62⟩ := hw_r_53
        have hP : va_P D vwCl [(ys, .inl (cI, 449, .inl ms)), (h0, .inr (9, [.ref ys, .ref yk, .ref yo, .ref yt, .int mk0, .ref yfa, .ref yfe, .int mL, .int mS, .int mM, .ref yro, .ref yhe, .ref ygr, .int mF, .int mC, .int mY, .ref yta, .int (nI (mz)), .int (nI (f2_54)), .int (nI (t2_55)), .int v2_43, .int w2_56, .ref ywa, .ref ybi, .ref ysi, .ref ynu, .ref ymo])), (yta, .inl (cI, 120, .inl tp))] H := hP
        have hD : va_D A [(ys, .inl (cI, 449, .inl ms)), (h0, .inr (9, [.ref ys, .ref yk, .ref yo, .ref yt, .int mk0, .ref yfa, .ref yfe, .int mL, .int mS, .int mM, .ref yro, .ref yhe, .ref ygr, .int mF, .int mC, .int mY, .ref yta, .int (nI (mz)), .int (nI (f2_54)), .int (nI (t2_55)), .int v2_43, .int w2_56, .ref ywa, .ref ybi, .ref ysi, .ref ynu, .ref ymo])), (yta, .inl (cI, 120, .inl tp))] := hD
        refine lv_aload_n hx hb dX9_wayItem_91 rfl (lv_at hl 4 rfl) ?_
        refine lv_iload_n hx hb dX9_wayItem_92 rfl (lv_at hl 1 rfl) ?_
        refine lv_sipush (v := 999) hx hb dX9_wayItem_93 (by decide) ?_
        refine xc_Vv (wr := [(ys, .inl (cI, 449, .inl ms))]) hF (c_X9_mile l D cI cJ cZ cS ta sa sv H.size h0 ys yk yo yt mk0 yfa yfe mL mS mM yro yhe ygr mF mC mY yta mz f2_54 t2_55 v2_43 w2_56 ywa ybi ysi ynu ymo tp v2_43 999 (by omega) (by omega) (by omega) (by omega) (by omega)) kv_X9_287 ⟨rfl, rfl, Nat.le_of_ble_eq_true rfl, Nat.le_of_ble_eq_true rfl⟩ ⟨Nat.le_of_ble_eq_true rfl, Nat.le_of_ble_eq_true rfl⟩ hK hN hZ hP hD hS hA [1, 2] [0] rfl rfl rfl rfl (by decide) 0 rfl rfl rfl rfl hl.1 rfl (Nat.le_of_ble_eq_true rfl) dX9_wayItem_96 (fun u_r_63 H locs hw_r_63 hP hD hS => ?_)
        obtain ⟨f2_64, t2_65, v2_66, w2_67⟩ := u_r_63
        try dsimp only at hw_r_63
        obtain ⟨i_68, i_69, i_70, i_71, i_72, i_73⟩ := hw_r_63
        have hP : va_P D vwCl [(ys, .inl (cI, 449, .inl ms)), (h0, .inr (9, [.ref ys, .ref yk, .ref yo, .ref yt, .int mk0, .ref yfa, .ref yfe, .int mL, .int mS, .int mM, .ref yro, .ref yhe, .ref ygr, .int mF, .int mC, .int mY, .ref yta, .int (nI (mz)), .int (nI (f2_64)), .int (nI (t2_65)), .int v2_66, .int w2_67, .ref ywa, .ref ybi, .ref ysi, .ref ynu, .ref ymo])), (yta, .inl (cI, 120, .inl tp))] H := hP
        have hD : va_D A [(ys, .inl (cI, 449, .inl ms)), (h0, .inr (9, [.ref ys, .ref yk, .ref yo, .ref yt, .int mk0, .ref yfa, .ref yfe, .int mL, .int mS, .int mM, .ref yro, .ref yhe, .ref ygr, .int mF, .int mC, .int mY, .ref yta, .int (nI (mz)), .int (nI (f2_64)), .int (nI (t2_65)), .int v2_66, .int w2_67, .ref ywa, .ref ybi, .ref ysi, .ref ynu, .ref ymo])), (yta, .inl (cI, 120, .inl tp))] := hD
        refine lv_aload_n hx hb dX9_wayItem_99 rfl (lv_at hl 4 rfl) ?_
        refine xg hF kf_X9_275 hK hP 1 rfl rfl dX9_wayItem_100 ?_
        refine lv_istore (lv' := [(4, .int v2_66), (3, .int v2_43), (2, .int (nI (k_25))), (1, .int v2_15), (0, .ref h0)]) hx hb dX9_wayItem_103 hl (by decide) rfl (fun ls hl => ?_)
        refine lv_aload_n hx hb dX9_wayItem_105 rfl (lv_at hl 4 rfl) ?_
        refine lv_bipush (v := 98) hx hb dX9_wayItem_106 (by decide) ?_
        refine lv_bipush (v := 97) hx hb dX9_wayItem_108 (by decide) ?_
        refine lv_bipush (v := 99) hx hb dX9_wayItem_110 (by decide) ?_
        refine lv_bipush (v := 107) hx hb dX9_wayItem_112 (by decide) ?_
        refine lv_iconst (v := 0) hx hb dX9_wayItem_114 (by decide) ?_
        refine lv_iconst (v := 0) hx hb dX9_wayItem_115 (by decide) ?_
        refine lv_iconst (v := 0) hx hb dX9_wayItem_116 (by decide) ?_
        refine xc_Vr hF (c_X9_isWord l D cI cJ cZ cS ta sa sv H.size h0 ys yk yo yt mk0 yfa yfe mL mS mM yro yhe ygr mF mC mY yta mz f2_64 t2_65 v2_66 w2_67 ywa ybi ysi ynu ymo tp 98 97 99 107 0 0 0 (by omega) (by omega)) kv_X9_290 ⟨rfl, rfl, Nat.le_of_ble_eq_true rfl, Nat.le_of_ble_eq_true rfl⟩ ⟨Nat.le_of_ble_eq_true rfl, Nat.le_of_ble_eq_true rfl⟩ hK hN hZ hP hD hS hA [1, 2] rfl rfl 0 rfl rfl rfl rfl hl.1 rfl (Nat.le_of_ble_eq_true rfl) dX9_wayItem_117 (fun r_74 hw_r_74 => ?_)
        rcases hw_r_74 with rfl | rfl
        · skip
          refine lv_istore (lv' := [(5, .int 1), (4, .int v2_66), (3, .int v2_43), (2, .int (nI (k_25))), (1, .int v2_15), (0, .ref h0)]) hx hb dX9_wayItem_120 hl (by decide) rfl (fun ls hl => ?_)
          refine lv_iload hx hb dX9_wayItem_122 (lv_at hl 0 rfl) ?_
          refine lv_if_eq (tgt := 141) hx hb dX9_wayItem_124 (by decide) (fun c_75 => absurd c_75 (by decide)) (fun c_75 => ?_)
          refine lv_aload_n hx hb dX9_wayItem_127 rfl (lv_at hl 5 rfl) ?_
          refine lv_iconst (v := 1) hx hb dX9_wayItem_128 (by decide) ?_
          refine xc_Vv (wr := [(ys, .inl (cI, 449, .inl ms))]) hF (c_X9_needs l D cI cJ cZ cS ta sa sv H.size h0 ys yk yo yt mk0 yfa yfe mL mS mM yro yhe ygr mF mC mY yta mz f2_64 t2_65 v2_66 w2_67 ywa ybi ysi ynu ymo tp 1 (by omega) (by omega) (by omega) (by omega) (by omega)) kv_X9_278 ⟨rfl, rfl, Nat.le_of_ble_eq_true rfl, Nat.le_of_ble_eq_true rfl⟩ ⟨Nat.le_of_ble_eq_true rfl, Nat.le_of_ble_eq_true rfl⟩ hK hN hZ hP hD hS hA [1, 2] [0] rfl rfl rfl rfl (by decide) 0 rfl rfl rfl rfl hl.1 rfl (Nat.le_of_ble_eq_true rfl) dX9_wayItem_129 (fun u_r_76 H locs hw_r_76 hP hD hS => ?_)
          obtain ⟨f2_77, t2_78, w2_79⟩ := u_r_76
          try dsimp only at hw_r_76
          obtain ⟨i_80, i_81, i_82, i_83, i_84, i_85⟩ := hw_r_76
          have hP : va_P D vwCl [(ys, .inl (cI, 449, .inl ms)), (h0, .inr (9, [.ref ys, .ref yk, .ref yo, .ref yt, .int mk0, .ref yfa, .ref yfe, .int mL, .int mS, .int mM, .ref yro, .ref yhe, .ref ygr, .int mF, .int mC, .int mY, .ref yta, .int (nI (mz)), .int (nI (f2_77)), .int (nI (t2_78)), .int v2_66, .int w2_79, .ref ywa, .ref ybi, .ref ysi, .ref ynu, .ref ymo])), (yta, .inl (cI, 120, .inl tp))] H := hP
          have hD : va_D A [(ys, .inl (cI, 449, .inl ms)), (h0, .inr (9, [.ref ys, .ref yk, .ref yo, .ref yt, .int mk0, .ref yfa, .ref yfe, .int mL, .int mS, .int mM, .ref yro, .ref yhe, .ref ygr, .int mF, .int mC, .int mY, .ref yta, .int (nI (mz)), .int (nI (f2_77)), .int (nI (t2_78)), .int v2_66, .int w2_79, .ref ywa, .ref ybi, .ref ysi, .ref ynu, .ref ymo])), (yta, .inl (cI, 120, .inl tp))] := hD
          refine lv_aload_n hx hb dX9_wayItem_132 rfl (lv_at hl 5 rfl) ?_
          refine lv_bipush (v := (-99)) hx hb dX9_wayItem_133 (by decide) ?_
          refine lv_sipush (v := 999) hx hb dX9_wayItem_135 (by decide) ?_
          refine xc_Vv (wr := [(ys, .inl (cI, 449, .inl ms))]) hF (c_X9_mileE l D cI cJ cZ cS ta sa sv H.size h0 ys yk yo yt mk0 yfa yfe mL mS mM yro yhe ygr mF mC mY yta mz f2_77 t2_78 v2_66 w2_79 ywa ybi ysi ynu ymo tp (by omega) (by omega) (by omega) (by omega) (by omega)) kv_X9_287 ⟨rfl, rfl, Nat.le_of_ble_eq_true rfl, Nat.le_of_ble_eq_true rfl⟩ ⟨Nat.le_of_ble_eq_true rfl, Nat.le_of_ble_eq_true rfl⟩ hK hN hZ hP hD hS hA [1, 2] [0] rfl rfl rfl rfl (by decide) 0 rfl rfl rfl rfl hl.1 rfl (Nat.le_of_ble_eq_true rfl) dX9_wayItem_138 (fun u_r_86 H locs hw_r_86 hP hD hS => ?_)
          obtain ⟨f2_87, t2_88, v2_89, w2_90⟩ := u_r_86
          try dsimp only at hw_r_86
          obtain ⟨i_91, i_92, i_93, i_94, i_95, i_96⟩ := hw_r_86
          have hP : va_P D vwCl [(ys, .inl (cI, 449, .inl ms)), (h0, .inr (9, [.ref ys, .ref yk, .ref yo, .ref yt, .int mk0, .ref yfa, .ref yfe, .int mL, .int mS, .int mM, .ref yro, .ref yhe, .ref ygr, .int mF, .int mC, .int mY, .ref yta, .int (nI (mz)), .int (nI (f2_87)), .int (nI (t2_88)), .int v2_89, .int w2_90, .ref ywa, .ref ybi, .ref ysi, .ref ynu, .ref ymo])), (yta, .inl (cI, 120, .inl tp))] H := hP
          have hD : va_D A [(ys, .inl (cI, 449, .inl ms)), (h0, .inr (9, [.ref ys, .ref yk, .ref yo, .ref yt, .int mk0, .ref yfa, .ref yfe, .int mL, .int mS, .int mM, .ref yro, .ref yhe, .ref ygr, .int mF, .int mC, .int mY, .ref yta, .int (nI (mz)), .int (nI (f2_87)), .int (nI (t2_88)), .int v2_89, .int w2_90, .ref ywa, .ref ybi, .ref ysi, .ref ynu, .ref ymo])), (yta, .inl (cI, 120, .inl tp))] := hD
          refine lv_aload_n hx hb dX9_wayItem_141 rfl (lv_at hl 5 rfl) ?_
          refine xg hF kf_X9_266 hK hP 1 rfl rfl dX9_wayItem_142 ?_
          refine lv_if_ne (tgt := 187) hx hb dX9_wayItem_145 (by decide) (fun c_97 => ?_) (fun c_97 => absurd rfl (i_39 (i_50 (i_62 (i_73 (i_85 (i_96 c_97).1).1).1).1).1).2.1)
          exact W.vret hx hb hr (fun t ht hW => ⟨⟨(f2_87, t2_88, v2_89, w2_90, ms), rfl, ⟨(by first | assumption | omega), (by first | assumption | omega), (by first | assumption | omega), (by first | assumption | omega), (by first | assumption | omega), (fun h => ⟨(i_10 (i_22 (i_39 (i_50 (i_62 (i_73 (i_85 (i_96 h).1).1).1).1).1).1).1).1, trivial⟩), hs0, hs1, hs2, hsS, hsM, hsp, hsr, hsw, hsR⟩, by rw [ht]; exact hP.sub [1, 0, 2] rfl, hD.sub [1, 0, 2] (by decide) rfl⟩, hS.F ht⟩) hS.2.2 dX9_wayItem_187 hlk
        · skip
          refine lv_istore (lv' := [(5, .int 0), (4, .int v2_66), (3, .int v2_43), (2, .int (nI (k_25))), (1, .int v2_15), (0, .ref h0)]) hx hb dX9_wayItem_120 hl (by decide) rfl (fun ls hl => ?_)
          refine lv_iload hx hb dX9_wayItem_122 (lv_at hl 0 rfl) ?_
          refine lv_if_eq (tgt := 141) hx hb dX9_wayItem_124 (by decide) (fun c_98 => ?_) (fun c_98 => absurd (by decide) c_98)
          refine lv_aload_n hx hb dX9_wayItem_141 rfl (lv_at hl 5 rfl) ?_
          refine xg hF kf_X9_266 hK hP 1 rfl rfl dX9_wayItem_142 ?_
          refine lv_if_ne (tgt := 187) hx hb dX9_wayItem_145 (by decide) (fun c_99 => ?_) (fun c_99 => absurd rfl (i_39 (i_50 (i_62 (i_73 c_99).1).1).1).2.1)
          exact W.vret hx hb hr (fun t ht hW => ⟨⟨(f2_64, t2_65, v2_66, w2_67, ms), rfl, ⟨(by first | assumption | omega), (by first | assumption | omega), (by first | assumption | omega), (by first | assumption | omega), (by first | assumption | omega), (fun h => ⟨(i_10 (i_22 (i_39 (i_50 (i_62 (i_73 h).1).1).1).1).1).1, trivial⟩), hs0, hs1, hs2, hsS, hsM, hsp, hsr, hsw, hsR⟩, by rw [ht]; exact hP.sub [1, 0, 2] rfl, hD.sub [1, 0, 2] (by decide) rfl⟩, hS.F ht⟩) hS.2.2 dX9_wayItem_187 hlk
      · skip
        refine lv_if_eq (tgt := 105) hx hb dX9_wayItem_83 (by decide) (fun c_100 => ?_) (fun c_100 => absurd (by decide) c_100)
        refine lv_aload_n hx hb dX9_wayItem_105 rfl (lv_at hl 4 rfl) ?_
        refine lv_bipush (v := 98) hx hb dX9_wayItem_106 (by decide) ?_
        refine lv_bipush (v := 97) hx hb dX9_wayItem_108 (by decide) ?_
        refine lv_bipush (v := 99) hx hb dX9_wayItem_110 (by decide) ?_
        refine lv_bipush (v := 107) hx hb dX9_wayItem_112 (by decide) ?_
        refine lv_iconst (v := 0) hx hb dX9_wayItem_114 (by decide) ?_
        refine lv_iconst (v := 0) hx hb dX9_wayItem_115 (by decide) ?_
        refine lv_iconst (v := 0) hx hb dX9_wayItem_116 (by decide) ?_
        refine xc_Vr hF (c_X9_isWord l D cI cJ cZ cS ta sa sv H.size h0 ys yk yo yt mk0 yfa yfe mL mS mM yro yhe ygr mF mC mY yta mz f2_41 t2_42 v2_43 w2_44 ywa ybi ysi ynu ymo tp 98 97 99 107 0 0 0 (by omega) (by omega)) kv_X9_290 ⟨rfl, rfl, Nat.le_of_ble_eq_true rfl, Nat.le_of_ble_eq_true rfl⟩ ⟨Nat.le_of_ble_eq_true rfl, Nat.le_of_ble_eq_true rfl⟩ hK hN hZ hP hD hS hA [1, 2] rfl rfl 0 rfl rfl rfl rfl hl.1 rfl (Nat.le_of_ble_eq_true rfl) dX9_wayItem_117 (fun r_101 hw_r_101 => ?_)
        rcases hw_r_101 with rfl | rfl
        · skip
          refine lv_istore (lv' := [(5, .int 1), (4, .int v2_43), (3, .int v2_43), (2, .int (nI (k_25))), (1, .int v2_15), (0, .ref h0)]) hx hb dX9_wayItem_120 hl (by decide) rfl (fun ls hl => ?_)
          refine lv_iload hx hb dX9_wayItem_122 (lv_at hl 0 rfl) ?_
          refine lv_if_eq (tgt := 141) hx hb dX9_wayItem_124 (by decide) (fun c_102 => absurd c_102 (by decide)) (fun c_102 => ?_)
          refine lv_aload_n hx hb dX9_wayItem_127 rfl (lv_at hl 5 rfl) ?_
          refine lv_iconst (v := 1) hx hb dX9_wayItem_128 (by decide) ?_
          refine xc_Vv (wr := [(ys, .inl (cI, 449, .inl ms))]) hF (c_X9_needs l D cI cJ cZ cS ta sa sv H.size h0 ys yk yo yt mk0 yfa yfe mL mS mM yro yhe ygr mF mC mY yta mz f2_41 t2_42 v2_43 w2_44 ywa ybi ysi ynu ymo tp 1 (by omega) (by omega) (by omega) (by omega) (by omega)) kv_X9_278 ⟨rfl, rfl, Nat.le_of_ble_eq_true rfl, Nat.le_of_ble_eq_true rfl⟩ ⟨Nat.le_of_ble_eq_true rfl, Nat.le_of_ble_eq_true rfl⟩ hK hN hZ hP hD hS hA [1, 2] [0] rfl rfl rfl rfl (by decide) 0 rfl rfl rfl rfl hl.1 rfl (Nat.le_of_ble_eq_true rfl) dX9_wayItem_129 (fun u_r_103 H locs hw_r_103 hP hD hS => ?_)
          obtain ⟨f2_104, t2_105, w2_106⟩ := u_r_103
          try dsimp only at hw_r_103
          obtain ⟨i_107, i_108, i_109, i_110, i_111, i_112⟩ := hw_r_103
          have hP : va_P D vwCl [(ys, .inl (cI, 449, .inl ms)), (h0, .inr (9, [.ref ys, .ref yk, .ref yo, .ref yt, .int mk0, .ref yfa, .ref yfe, .int mL, .int mS, .int mM, .ref yro, .ref yhe, .ref ygr, .int mF, .int mC, .int mY, .ref yta, .int (nI (mz)), .int (nI (f2_104)), .int (nI (t2_105)), .int v2_43, .int w2_106, .ref ywa, .ref ybi, .ref ysi, .ref ynu, .ref ymo])), (yta, .inl (cI, 120, .inl tp))] H := hP
          have hD : va_D A [(ys, .inl (cI, 449, .inl ms)), (h0, .inr (9, [.ref ys, .ref yk, .ref yo, .ref yt, .int mk0, .ref yfa, .ref yfe, .int mL, .int mS, .int mM, .ref yro, .ref yhe, .ref ygr, .int mF, .int mC, .int mY, .ref yta, .int (nI (mz)), .int (nI (f2_104)), .int (nI (t2_105)), .int v2_43, .int w2_106, .ref ywa, .ref ybi, .ref ysi, .ref ynu, .ref ymo])), (yta, .inl (cI, 120, .inl tp))] := hD
          refine lv_aload_n hx hb dX9_wayItem_132 rfl (lv_at hl 5 rfl) ?_
          refine lv_bipush (v := (-99)) hx hb dX9_wayItem_133 (by decide) ?_
          refine lv_sipush (v := 999) hx hb dX9_wayItem_135 (by decide) ?_
          refine xc_Vv (wr := [(ys, .inl (cI, 449, .inl ms))]) hF (c_X9_mileE l D cI cJ cZ cS ta sa sv H.size h0 ys yk yo yt mk0 yfa yfe mL mS mM yro yhe ygr mF mC mY yta mz f2_104 t2_105 v2_43 w2_106 ywa ybi ysi ynu ymo tp (by omega) (by omega) (by omega) (by omega) (by omega)) kv_X9_287 ⟨rfl, rfl, Nat.le_of_ble_eq_true rfl, Nat.le_of_ble_eq_true rfl⟩ ⟨Nat.le_of_ble_eq_true rfl, Nat.le_of_ble_eq_true rfl⟩ hK hN hZ hP hD hS hA [1, 2] [0] rfl rfl rfl rfl (by decide) 0 rfl rfl rfl rfl hl.1 rfl (Nat.le_of_ble_eq_true rfl) dX9_wayItem_138 (fun u_r_113 H locs hw_r_113 hP hD hS => ?_)
          obtain ⟨f2_114, t2_115, v2_116, w2_117⟩ := u_r_113
          try dsimp only at hw_r_113
          obtain ⟨i_118, i_119, i_120, i_121, i_122, i_123⟩ := hw_r_113
          have hP : va_P D vwCl [(ys, .inl (cI, 449, .inl ms)), (h0, .inr (9, [.ref ys, .ref yk, .ref yo, .ref yt, .int mk0, .ref yfa, .ref yfe, .int mL, .int mS, .int mM, .ref yro, .ref yhe, .ref ygr, .int mF, .int mC, .int mY, .ref yta, .int (nI (mz)), .int (nI (f2_114)), .int (nI (t2_115)), .int v2_116, .int w2_117, .ref ywa, .ref ybi, .ref ysi, .ref ynu, .ref ymo])), (yta, .inl (cI, 120, .inl tp))] H := hP
          have hD : va_D A [(ys, .inl (cI, 449, .inl ms)), (h0, .inr (9, [.ref ys, .ref yk, .ref yo, .ref yt, .int mk0, .ref yfa, .ref yfe, .int mL, .int mS, .int mM, .ref yro, .ref yhe, .ref ygr, .int mF, .int mC, .int mY, .ref yta, .int (nI (mz)), .int (nI (f2_114)), .int (nI (t2_115)), .int v2_116, .int w2_117, .ref ywa, .ref ybi, .ref ysi, .ref ynu, .ref ymo])), (yta, .inl (cI, 120, .inl tp))] := hD
          refine lv_aload_n hx hb dX9_wayItem_141 rfl (lv_at hl 5 rfl) ?_
          refine xg hF kf_X9_266 hK hP 1 rfl rfl dX9_wayItem_142 ?_
          refine lv_if_ne (tgt := 187) hx hb dX9_wayItem_145 (by decide) (fun c_124 => ?_) (fun c_124 => absurd rfl (i_39 (i_50 (i_112 (i_123 c_124).1).1).1).2.1)
          exact W.vret hx hb hr (fun t ht hW => ⟨⟨(f2_114, t2_115, v2_116, w2_117, ms), rfl, ⟨(by first | assumption | omega), (by first | assumption | omega), (by first | assumption | omega), (by first | assumption | omega), (by first | assumption | omega), (fun h => ⟨(i_10 (i_22 (i_39 (i_50 (i_112 (i_123 h).1).1).1).1).1).1, trivial⟩), hs0, hs1, hs2, hsS, hsM, hsp, hsr, hsw, hsR⟩, by rw [ht]; exact hP.sub [1, 0, 2] rfl, hD.sub [1, 0, 2] (by decide) rfl⟩, hS.F ht⟩) hS.2.2 dX9_wayItem_187 hlk
        · skip
          refine lv_istore (lv' := [(5, .int 0), (4, .int v2_43), (3, .int v2_43), (2, .int (nI (k_25))), (1, .int v2_15), (0, .ref h0)]) hx hb dX9_wayItem_120 hl (by decide) rfl (fun ls hl => ?_)
          refine lv_iload hx hb dX9_wayItem_122 (lv_at hl 0 rfl) ?_
          refine lv_if_eq (tgt := 141) hx hb dX9_wayItem_124 (by decide) (fun c_125 => ?_) (fun c_125 => absurd (by decide) c_125)
          refine lv_aload_n hx hb dX9_wayItem_141 rfl (lv_at hl 5 rfl) ?_
          refine xg hF kf_X9_266 hK hP 1 rfl rfl dX9_wayItem_142 ?_
          refine lv_if_ne (tgt := 187) hx hb dX9_wayItem_145 (by decide) (fun c_126 => ?_) (fun c_126 => absurd rfl (i_39 (i_50 c_126).1).2.1)
          exact W.vret hx hb hr (fun t ht hW => ⟨⟨(f2_41, t2_42, v2_43, w2_44, ms), rfl, ⟨(by first | assumption | omega), (by first | assumption | omega), (by first | assumption | omega), (by first | assumption | omega), (by first | assumption | omega), (fun h => ⟨(i_10 (i_22 (i_39 (i_50 h).1).1).1).1, trivial⟩), hs0, hs1, hs2, hsS, hsM, hsp, hsr, hsw, hsR⟩, by rw [ht]; exact hP.sub [1, 0, 2] rfl, hD.sub [1, 0, 2] (by decide) rfl⟩, hS.F ht⟩) hS.2.2 dX9_wayItem_187 hlk
    · skip
      refine lv_iconst (v := 1) hx hb dX9_wayItem_42 (by decide) ?_
      refine lv_goto (tgt := 47) hx hb dX9_wayItem_43 (by decide) ?_
      refine xc_Vv (wr := [(ys, .inl (cI, 449, .inl ms))]) hF (c_X9_needs l D cI cJ cZ cS ta sa sv H.size h0 ys yk yo yt mk0 yfa yfe mL mS mM yro yhe ygr mF mC mY yta mz f2_13 t2_14 v2_15 w2_16 ywa ybi ysi ynu ymo tp 1 (by omega) (by omega) (by omega) (by omega) (by omega)) kv_X9_278 ⟨rfl, rfl, Nat.le_of_ble_eq_true rfl, Nat.le_of_ble_eq_true rfl⟩ ⟨Nat.le_of_ble_eq_true rfl, Nat.le_of_ble_eq_true rfl⟩ hK hN hZ hP hD hS hA [1, 2] [0] rfl rfl rfl rfl (by decide) 0 rfl rfl rfl rfl hl.1 rfl (Nat.le_of_ble_eq_true rfl) dX9_wayItem_47 (fun u_r_127 H locs hw_r_127 hP hD hS => ?_)
      obtain ⟨f2_128, t2_129, w2_130⟩ := u_r_127
      try dsimp only at hw_r_127
      obtain ⟨i_131, i_132, i_133, i_134, i_135, i_136⟩ := hw_r_127
      have hP : va_P D vwCl [(ys, .inl (cI, 449, .inl ms)), (h0, .inr (9, [.ref ys, .ref yk, .ref yo, .ref yt, .int mk0, .ref yfa, .ref yfe, .int mL, .int mS, .int mM, .ref yro, .ref yhe, .ref ygr, .int mF, .int mC, .int mY, .ref yta, .int (nI (mz)), .int (nI (f2_128)), .int (nI (t2_129)), .int v2_15, .int w2_130, .ref ywa, .ref ybi, .ref ysi, .ref ynu, .ref ymo])), (yta, .inl (cI, 120, .inl tp))] H := hP
      have hD : va_D A [(ys, .inl (cI, 449, .inl ms)), (h0, .inr (9, [.ref ys, .ref yk, .ref yo, .ref yt, .int mk0, .ref yfa, .ref yfe, .int mL, .int mS, .int mM, .ref yro, .ref yhe, .ref ygr, .int mF, .int mC, .int mY, .ref yta, .int (nI (mz)), .int (nI (f2_128)), .int (nI (t2_129)), .int v2_15, .int w2_130, .ref ywa, .ref ybi, .ref ysi, .ref ynu, .ref ymo])), (yta, .inl (cI, 120, .inl tp))] := hD
      refine lv_aload_n hx hb dX9_wayItem_50 rfl (lv_at hl 2 rfl) ?_
      refine lv_bipush (v := (-99)) hx hb dX9_wayItem_51 (by decide) ?_
      refine lv_sipush (v := 999) hx hb dX9_wayItem_53 (by decide) ?_
      refine xc_Vv (wr := [(ys, .inl (cI, 449, .inl ms))]) hF (c_X9_mileE l D cI cJ cZ cS ta sa sv H.size h0 ys yk yo yt mk0 yfa yfe mL mS mM yro yhe ygr mF mC mY yta mz f2_128 t2_129 v2_15 w2_130 ywa ybi ysi ynu ymo tp (by omega) (by omega) (by omega) (by omega) (by omega)) kv_X9_287 ⟨rfl, rfl, Nat.le_of_ble_eq_true rfl, Nat.le_of_ble_eq_true rfl⟩ ⟨Nat.le_of_ble_eq_true rfl, Nat.le_of_ble_eq_true rfl⟩ hK hN hZ hP hD hS hA [1, 2] [0] rfl rfl rfl rfl (by decide) 0 rfl rfl rfl rfl hl.1 rfl (Nat.le_of_ble_eq_true rfl) dX9_wayItem_56 (fun u_r_137 H locs hw_r_137 hP hD hS => ?_)
      obtain ⟨f2_138, t2_139, v2_140, w2_141⟩ := u_r_137
      try dsimp only at hw_r_137
      obtain ⟨i_142, i_143, i_144, i_145, i_146, i_147⟩ := hw_r_137
      have hP : va_P D vwCl [(ys, .inl (cI, 449, .inl ms)), (h0, .inr (9, [.ref ys, .ref yk, .ref yo, .ref yt, .int mk0, .ref yfa, .ref yfe, .int mL, .int mS, .int mM, .ref yro, .ref yhe, .ref ygr, .int mF, .int mC, .int mY, .ref yta, .int (nI (mz)), .int (nI (f2_138)), .int (nI (t2_139)), .int v2_140, .int w2_141, .ref ywa, .ref ybi, .ref ysi, .ref ynu, .ref ymo])), (yta, .inl (cI, 120, .inl tp))] H := hP
      have hD : va_D A [(ys, .inl (cI, 449, .inl ms)), (h0, .inr (9, [.ref ys, .ref yk, .ref yo, .ref yt, .int mk0, .ref yfa, .ref yfe, .int mL, .int mS, .int mM, .ref yro, .ref yhe, .ref ygr, .int mF, .int mC, .int mY, .ref yta, .int (nI (mz)), .int (nI (f2_138)), .int (nI (t2_139)), .int v2_140, .int w2_141, .ref ywa, .ref ybi, .ref ysi, .ref ynu, .ref ymo])), (yta, .inl (cI, 120, .inl tp))] := hD
      refine lv_aload_n hx hb dX9_wayItem_59 rfl (lv_at hl 2 rfl) ?_
      refine xg hF kf_X9_275 hK hP 1 rfl rfl dX9_wayItem_60 ?_
      refine lv_istore_n (lv' := [(3, .int v2_140), (2, .int (nI (k_25))), (1, .int v2_15), (0, .ref h0)]) hx hb dX9_wayItem_63 rfl hl (by decide) rfl (fun ls hl => ?_)
      refine lv_aload_n hx hb dX9_wayItem_64 rfl (lv_at hl 3 rfl) ?_
      refine xg hF kf_X9_275 hK hP 1 rfl rfl dX9_wayItem_65 ?_
      refine lv_istore (lv' := [(4, .int v2_140), (3, .int v2_140), (2, .int (nI (k_25))), (1, .int v2_15), (0, .ref h0)]) hx hb dX9_wayItem_68 hl (by decide) rfl (fun ls hl => ?_)
      refine lv_aload_n hx hb dX9_wayItem_70 rfl (lv_at hl 4 rfl) ?_
      refine lv_bipush (v := 116) hx hb dX9_wayItem_71 (by decide) ?_
      refine lv_bipush (v := 111) hx hb dX9_wayItem_73 (by decide) ?_
      refine lv_iconst (v := 0) hx hb dX9_wayItem_75 (by decide) ?_
      refine lv_iconst (v := 0) hx hb dX9_wayItem_76 (by decide) ?_
      refine lv_iconst (v := 0) hx hb dX9_wayItem_77 (by decide) ?_
      refine lv_iconst (v := 0) hx hb dX9_wayItem_78 (by decide) ?_
      refine lv_iconst (v := 0) hx hb dX9_wayItem_79 (by decide) ?_
      refine xc_Vr hF (c_X9_isWord l D cI cJ cZ cS ta sa sv H.size h0 ys yk yo yt mk0 yfa yfe mL mS mM yro yhe ygr mF mC mY yta mz f2_138 t2_139 v2_140 w2_141 ywa ybi ysi ynu ymo tp 116 111 0 0 0 0 0 (by omega) (by omega)) kv_X9_290 ⟨rfl, rfl, Nat.le_of_ble_eq_true rfl, Nat.le_of_ble_eq_true rfl⟩ ⟨Nat.le_of_ble_eq_true rfl, Nat.le_of_ble_eq_true rfl⟩ hK hN hZ hP hD hS hA [1, 2] rfl rfl 0 rfl rfl rfl rfl hl.1 rfl (Nat.le_of_ble_eq_true rfl) dX9_wayItem_80 (fun r_148 hw_r_148 => ?_)
      rcases hw_r_148 with rfl | rfl
      · skip
        refine lv_if_eq (tgt := 105) hx hb dX9_wayItem_83 (by decide) (fun c_149 => absurd c_149 (by decide)) (fun c_149 => ?_)
        refine lv_aload_n hx hb dX9_wayItem_86 rfl (lv_at hl 4 rfl) ?_
        refine lv_iconst (v := 1) hx hb dX9_wayItem_87 (by decide) ?_
        refine xc_Vv (wr := [(ys, .inl (cI, 449, .inl ms))]) hF (c_X9_needs l D cI cJ cZ cS ta sa sv H.size h0 ys yk yo yt mk0 yfa yfe mL mS mM yro yhe ygr mF mC mY yta mz f2_138 t2_139 v2_140 w2_141 ywa ybi ysi ynu ymo tp 1 (by omega) (by omega) (by omega) (by omega) (by omega)) kv_X9_278 ⟨rfl, rfl, Nat.le_of_ble_eq_true rfl, Nat.le_of_ble_eq_true rfl⟩ ⟨Nat.le_of_ble_eq_true rfl, Nat.le_of_ble_eq_true rfl⟩ hK hN hZ hP hD hS hA [1, 2] [0] rfl rfl rfl rfl (by decide) 0 rfl rfl rfl rfl hl.1 rfl (Nat.le_of_ble_eq_true rfl) dX9_wayItem_88 (fun u_r_150 H locs hw_r_150 hP hD hS => ?_)
        obtain ⟨f2_151, t2_152, w2_153⟩ := u_r_150
        try dsimp only at hw_r_150
        obtain ⟨i_154, i_155, i_156, i_157, i_158, i_159⟩ := hw_r_150
        have hP : va_P D vwCl [(ys, .inl (cI, 449, .inl ms)), (h0, .inr (9, [.ref ys, .ref yk, .ref yo, .ref yt, .int mk0, .ref yfa, .ref yfe, .int mL, .int mS, .int mM, .ref yro, .ref yhe, .ref ygr, .int mF, .int mC, .int mY, .ref yta, .int (nI (mz)), .int (nI (f2_151)), .int (nI (t2_152)), .int v2_140, .int w2_153, .ref ywa, .ref ybi, .ref ysi, .ref ynu, .ref ymo])), (yta, .inl (cI, 120, .inl tp))] H := hP
        have hD : va_D A [(ys, .inl (cI, 449, .inl ms)), (h0, .inr (9, [.ref ys, .ref yk, .ref yo, .ref yt, .int mk0, .ref yfa, .ref yfe, .int mL, .int mS, .int mM, .ref yro, .ref yhe, .ref ygr, .int mF, .int mC, .int mY, .ref yta, .int (nI (mz)), .int (nI (f2_151)), .int (nI (t2_152)), .int v2_140, .int w2_153, .ref ywa, .ref ybi, .ref ysi, .ref ynu, .ref ymo])), (yta, .inl (cI, 120, .inl tp))] := hD
        refine lv_aload_n hx hb dX9_wayItem_91 rfl (lv_at hl 4 rfl) ?_
        refine lv_iload_n hx hb dX9_wayItem_92 rfl (lv_at hl 1 rfl) ?_
        refine lv_sipush (v := 999) hx hb dX9_wayItem_93 (by decide) ?_
        refine xc_Vv (wr := [(ys, .inl (cI, 449, .inl ms))]) hF (c_X9_mile l D cI cJ cZ cS ta sa sv H.size h0 ys yk yo yt mk0 yfa yfe mL mS mM yro yhe ygr mF mC mY yta mz f2_151 t2_152 v2_140 w2_153 ywa ybi ysi ynu ymo tp v2_140 999 (by omega) (by omega) (by omega) (by omega) (by omega)) kv_X9_287 ⟨rfl, rfl, Nat.le_of_ble_eq_true rfl, Nat.le_of_ble_eq_true rfl⟩ ⟨Nat.le_of_ble_eq_true rfl, Nat.le_of_ble_eq_true rfl⟩ hK hN hZ hP hD hS hA [1, 2] [0] rfl rfl rfl rfl (by decide) 0 rfl rfl rfl rfl hl.1 rfl (Nat.le_of_ble_eq_true rfl) dX9_wayItem_96 (fun u_r_160 H locs hw_r_160 hP hD hS => ?_)
        obtain ⟨f2_161, t2_162, v2_163, w2_164⟩ := u_r_160
        try dsimp only at hw_r_160
        obtain ⟨i_165, i_166, i_167, i_168, i_169, i_170⟩ := hw_r_160
        have hP : va_P D vwCl [(ys, .inl (cI, 449, .inl ms)), (h0, .inr (9, [.ref ys, .ref yk, .ref yo, .ref yt, .int mk0, .ref yfa, .ref yfe, .int mL, .int mS, .int mM, .ref yro, .ref yhe, .ref ygr, .int mF, .int mC, .int mY, .ref yta, .int (nI (mz)), .int (nI (f2_161)), .int (nI (t2_162)), .int v2_163, .int w2_164, .ref ywa, .ref ybi, .ref ysi, .ref ynu, .ref ymo])), (yta, .inl (cI, 120, .inl tp))] H := hP
        have hD : va_D A [(ys, .inl (cI, 449, .inl ms)), (h0, .inr (9, [.ref ys, .ref yk, .ref yo, .ref yt, .int mk0, .ref yfa, .ref yfe, .int mL, .int mS, .int mM, .ref yro, .ref yhe, .ref ygr, .int mF, .int mC, .int mY, .ref yta, .int (nI (mz)), .int (nI (f2_161)), .int (nI (t2_162)), .int v2_163, .int w2_164, .ref ywa, .ref ybi, .ref ysi, .ref ynu, .ref ymo])), (yta, .inl (cI, 120, .inl tp))] := hD
        refine lv_aload_n hx hb dX9_wayItem_99 rfl (lv_at hl 4 rfl) ?_
        refine xg hF kf_X9_275 hK hP 1 rfl rfl dX9_wayItem_100 ?_
        refine lv_istore (lv' := [(4, .int v2_163), (3, .int v2_140), (2, .int (nI (k_25))), (1, .int v2_15), (0, .ref h0)]) hx hb dX9_wayItem_103 hl (by decide) rfl (fun ls hl => ?_)
        refine lv_aload_n hx hb dX9_wayItem_105 rfl (lv_at hl 4 rfl) ?_
        refine lv_bipush (v := 98) hx hb dX9_wayItem_106 (by decide) ?_
        refine lv_bipush (v := 97) hx hb dX9_wayItem_108 (by decide) ?_
        refine lv_bipush (v := 99) hx hb dX9_wayItem_110 (by decide) ?_
        refine lv_bipush (v := 107) hx hb dX9_wayItem_112 (by decide) ?_
        refine lv_iconst (v := 0) hx hb dX9_wayItem_114 (by decide) ?_
        refine lv_iconst (v := 0) hx hb dX9_wayItem_115 (by decide) ?_
        refine lv_iconst (v := 0) hx hb dX9_wayItem_116 (by decide) ?_
        refine xc_Vr hF (c_X9_isWord l D cI cJ cZ cS ta sa sv H.size h0 ys yk yo yt mk0 yfa yfe mL mS mM yro yhe ygr mF mC mY yta mz f2_161 t2_162 v2_163 w2_164 ywa ybi ysi ynu ymo tp 98 97 99 107 0 0 0 (by omega) (by omega)) kv_X9_290 ⟨rfl, rfl, Nat.le_of_ble_eq_true rfl, Nat.le_of_ble_eq_true rfl⟩ ⟨Nat.le_of_ble_eq_true rfl, Nat.le_of_ble_eq_true rfl⟩ hK hN hZ hP hD hS hA [1, 2] rfl rfl 0 rfl rfl rfl rfl hl.1 rfl (Nat.le_of_ble_eq_true rfl) dX9_wayItem_117 (fun r_171 hw_r_171 => ?_)
        rcases hw_r_171 with rfl | rfl
        · skip
          refine lv_istore (lv' := [(5, .int 1), (4, .int v2_163), (3, .int v2_140), (2, .int (nI (k_25))), (1, .int v2_15), (0, .ref h0)]) hx hb dX9_wayItem_120 hl (by decide) rfl (fun ls hl => ?_)
          refine lv_iload hx hb dX9_wayItem_122 (lv_at hl 0 rfl) ?_
          refine lv_if_eq (tgt := 141) hx hb dX9_wayItem_124 (by decide) (fun c_172 => absurd c_172 (by decide)) (fun c_172 => ?_)
          refine lv_aload_n hx hb dX9_wayItem_127 rfl (lv_at hl 5 rfl) ?_
          refine lv_iconst (v := 1) hx hb dX9_wayItem_128 (by decide) ?_
          refine xc_Vv (wr := [(ys, .inl (cI, 449, .inl ms))]) hF (c_X9_needs l D cI cJ cZ cS ta sa sv H.size h0 ys yk yo yt mk0 yfa yfe mL mS mM yro yhe ygr mF mC mY yta mz f2_161 t2_162 v2_163 w2_164 ywa ybi ysi ynu ymo tp 1 (by omega) (by omega) (by omega) (by omega) (by omega)) kv_X9_278 ⟨rfl, rfl, Nat.le_of_ble_eq_true rfl, Nat.le_of_ble_eq_true rfl⟩ ⟨Nat.le_of_ble_eq_true rfl, Nat.le_of_ble_eq_true rfl⟩ hK hN hZ hP hD hS hA [1, 2] [0] rfl rfl rfl rfl (by decide) 0 rfl rfl rfl rfl hl.1 rfl (Nat.le_of_ble_eq_true rfl) dX9_wayItem_129 (fun u_r_173 H locs hw_r_173 hP hD hS => ?_)
          obtain ⟨f2_174, t2_175, w2_176⟩ := u_r_173
          try dsimp only at hw_r_173
          obtain ⟨i_177, i_178, i_179, i_180, i_181, i_182⟩ := hw_r_173
          have hP : va_P D vwCl [(ys, .inl (cI, 449, .inl ms)), (h0, .inr (9, [.ref ys, .ref yk, .ref yo, .ref yt, .int mk0, .ref yfa, .ref yfe, .int mL, .int mS, .int mM, .ref yro, .ref yhe, .ref ygr, .int mF, .int mC, .int mY, .ref yta, .int (nI (mz)), .int (nI (f2_174)), .int (nI (t2_175)), .int v2_163, .int w2_176, .ref ywa, .ref ybi, .ref ysi, .ref ynu, .ref ymo])), (yta, .inl (cI, 120, .inl tp))] H := hP
          have hD : va_D A [(ys, .inl (cI, 449, .inl ms)), (h0, .inr (9, [.ref ys, .ref yk, .ref yo, .ref yt, .int mk0, .ref yfa, .ref yfe, .int mL, .int mS, .int mM, .ref yro, .ref yhe, .ref ygr, .int mF, .int mC, .int mY, .ref yta, .int (nI (mz)), .int (nI (f2_174)), .int (nI (t2_175)), .int v2_163, .int w2_176, .ref ywa, .ref ybi, .ref ysi, .ref ynu, .ref ymo])), (yta, .inl (cI, 120, .inl tp))] := hD
          refine lv_aload_n hx hb dX9_wayItem_132 rfl (lv_at hl 5 rfl) ?_
          refine lv_bipush (v := (-99)) hx hb dX9_wayItem_133 (by decide) ?_
          refine lv_sipush (v := 999) hx hb dX9_wayItem_135 (by decide) ?_
          refine xc_Vv (wr := [(ys, .inl (cI, 449, .inl ms))]) hF (c_X9_mileE l D cI cJ cZ cS ta sa sv H.size h0 ys yk yo yt mk0 yfa yfe mL mS mM yro yhe ygr mF mC mY yta mz f2_174 t2_175 v2_163 w2_176 ywa ybi ysi ynu ymo tp (by omega) (by omega) (by omega) (by omega) (by omega)) kv_X9_287 ⟨rfl, rfl, Nat.le_of_ble_eq_true rfl, Nat.le_of_ble_eq_true rfl⟩ ⟨Nat.le_of_ble_eq_true rfl, Nat.le_of_ble_eq_true rfl⟩ hK hN hZ hP hD hS hA [1, 2] [0] rfl rfl rfl rfl (by decide) 0 rfl rfl rfl rfl hl.1 rfl (Nat.le_of_ble_eq_true rfl) dX9_wayItem_138 (fun u_r_183 H locs hw_r_183 hP hD hS => ?_)
          obtain ⟨f2_184, t2_185, v2_186, w2_187⟩ := u_r_183
          try dsimp only at hw_r_183
          obtain ⟨i_188, i_189, i_190, i_191, i_192, i_193⟩ := hw_r_183
          have hP : va_P D vwCl [(ys, .inl (cI, 449, .inl ms)), (h0, .inr (9, [.ref ys, .ref yk, .ref yo, .ref yt, .int mk0, .ref yfa, .ref yfe, .int mL, .int mS, .int mM, .ref yro, .ref yhe, .ref ygr, .int mF, .int mC, .int mY, .ref yta, .int (nI (mz)), .int (nI (f2_184)), .int (nI (t2_185)), .int v2_186, .int w2_187, .ref ywa, .ref ybi, .ref ysi, .ref ynu, .ref ymo])), (yta, .inl (cI, 120, .inl tp))] H := hP
          have hD : va_D A [(ys, .inl (cI, 449, .inl ms)), (h0, .inr (9, [.ref ys, .ref yk, .ref yo, .ref yt, .int mk0, .ref yfa, .ref yfe, .int mL, .int mS, .int mM, .ref yro, .ref yhe, .ref ygr, .int mF, .int mC, .int mY, .ref yta, .int (nI (mz)), .int (nI (f2_184)), .int (nI (t2_185)), .int v2_186, .int w2_187, .ref ywa, .ref ybi, .ref ysi, .ref ynu, .ref ymo])), (yta, .inl (cI, 120, .inl tp))] := hD
          refine lv_aload_n hx hb dX9_wayItem_141 rfl (lv_at hl 5 rfl) ?_
          refine xg hF kf_X9_266 hK hP 1 rfl rfl dX9_wayItem_142 ?_
          refine lv_if_ne (tgt := 187) hx hb dX9_wayItem_145 (by decide) (fun c_194 => ?_) (fun c_194 => ?_)
          · skip
            exact W.vret hx hb hr (fun t ht hW => ⟨⟨(f2_184, t2_185, v2_186, w2_187, ms), rfl, ⟨(by first | assumption | omega), (by first | assumption | omega), (by first | assumption | omega), (by first | assumption | omega), (by first | assumption | omega), (fun h => ⟨(i_10 (i_22 (i_136 (i_147 (i_159 (i_170 (i_182 (i_193 h).1).1).1).1).1).1).1).1, trivial⟩), hs0, hs1, hs2, hsS, hsM, hsp, hsr, hsw, hsR⟩, by rw [ht]; exact hP.sub [1, 0, 2] rfl, hD.sub [1, 0, 2] (by decide) rfl⟩, hS.F ht⟩) hS.2.2 dX9_wayItem_187 hlk
          · skip
            obtain ⟨y_195, hy_195, rfl⟩ := x_pl3 (by omega) ex_11 (i_22 (i_136 (i_147 (i_159 (i_170 (i_182 (i_193 c_194).1).1).1).1).1).1).2.1 (i_22 (i_136 (i_147 (i_159 (i_170 (i_182 (i_193 c_194).1).1).1).1).1).1).2.2
            have hP : va_P D vwCl [(ys, .inl (cI, 449, .inl ms)), (h0, .inr (9, [.ref ys, .ref yk, .ref yo, .ref yt, .int mk0, .ref yfa, .ref yfe, .int mL, .int mS, .int mM, .ref yro, .ref yhe, .ref ygr, .int mF, .int mC, .int mY, .ref yta, .int (nI (mz)), .int (nI (f2_184)), .int (nI (t2_185)), .int v2_186, .int w2_187, .ref ywa, .ref ybi, .ref ysi, .ref ynu, .ref ymo])), (yta, .inl (cI, 120, .inl tp))] H := by assumption
            have hD : va_D A [(ys, .inl (cI, 449, .inl ms)), (h0, .inr (9, [.ref ys, .ref yk, .ref yo, .ref yt, .int mk0, .ref yfa, .ref yfe, .int mL, .int mS, .int mM, .ref yro, .ref yhe, .ref ygr, .int mF, .int mC, .int mY, .ref yta, .int (nI (mz)), .int (nI (f2_184)), .int (nI (t2_185)), .int v2_186, .int w2_187, .ref ywa, .ref ybi, .ref ysi, .ref ynu, .ref ymo])), (yta, .inl (cI, 120, .inl tp))] := by assumption
            refine lv_aload_n hx hb dX9_wayItem_148 rfl (lv_at hl 5 rfl) ?_
            refine lv_iload_n hx hb dX9_wayItem_149 rfl (lv_at hl 4 rfl) ?_
            refine lv_iload_n hx hb dX9_wayItem_150 rfl (lv_at hl 3 rfl) ?_
            refine lv_iload_n hx hb dX9_wayItem_151 rfl (lv_at hl 2 rfl) ?_
            refine lv_iload hx hb dX9_wayItem_152 (lv_at hl 1 rfl) ?_
            refine xc_Vi (wr := [(yta, .inl (cI, 120, .inl tp))]) hF (c_X9_makes l D cI cJ cZ cS ta sa sv H.size h0 ys yk yo yt mk0 yfa yfe mL mS mM yro yhe ygr mF mC mY yta mz f2_184 t2_185 v2_186 w2_187 ywa ybi ysi ynu ymo ms P Rn Wn y_195 k_25 v2_140 v2_163 (by omega) (by omega) (i_147 (i_159 (i_170 (i_182 (i_193 c_194).1).1).1).1).2 hs0 hs1 hs2 hsS hsM hsp hsr hsw hsR) kv_X9_87 ⟨rfl, rfl, Nat.le_of_ble_eq_true rfl, Nat.le_of_ble_eq_true rfl⟩ ⟨Nat.le_of_ble_eq_true rfl, Nat.le_of_ble_eq_true rfl⟩ hK hN hZ hP hD hS hA [1, 0] [2] rfl rfl rfl rfl (by decide) 0 rfl rfl rfl rfl hl.1 rfl (Nat.le_of_ble_eq_true rfl) dX9_wayItem_154 (fun r_196 u_r_196 H locs hw_r_196 hP hD hS => ?_)
            obtain ⟨ms2_197, rfl⟩ : ∃ z, z = u_r_196 := ⟨_, rfl⟩
            try dsimp only at hw_r_196
            obtain ⟨hw_r_196, i_198, i_199, i_200, i_201, i_202, i_203, i_204, i_205, i_206⟩ := hw_r_196
            have hP : va_P D vwCl [(yta, .inl (cI, 120, .inl tp)), (h0, .inr (9, [.ref ys, .ref yk, .ref yo, .ref yt, .int mk0, .ref yfa, .ref yfe, .int mL, .int mS, .int mM, .ref yro, .ref yhe, .ref ygr, .int mF, .int mC, .int mY, .ref yta, .int (nI (mz)), .int (nI (f2_184)), .int (nI (t2_185)), .int v2_186, .int w2_187, .ref ywa, .ref ybi, .ref ysi, .ref ynu, .ref ymo])), (ys, .inl (cI, 449, .inl ms2_197))] H := hP
            have hD : va_D A [(yta, .inl (cI, 120, .inl tp)), (h0, .inr (9, [.ref ys, .ref yk, .ref yo, .ref yt, .int mk0, .ref yfa, .ref yfe, .int mL, .int mS, .int mM, .ref yro, .ref yhe, .ref ygr, .int mF, .int mC, .int mY, .ref yta, .int (nI (mz)), .int (nI (f2_184)), .int (nI (t2_185)), .int v2_186, .int w2_187, .ref ywa, .ref ybi, .ref ysi, .ref ynu, .ref ymo])), (ys, .inl (cI, 449, .inl ms2_197))] := hD
            refine lv_istore (lv' := [(6, .int r_196), (5, .int 1), (4, .int v2_163), (3, .int v2_140), (2, .int (nI (k_25))), (1, .int (nI (y_195))), (0, .ref h0)]) hx hb dX9_wayItem_157 hl (by decide) rfl (fun ls hl => ?_)
            refine lv_iload hx hb dX9_wayItem_159 (lv_at hl 0 rfl) ?_
            refine lv_iload hx hb dX9_wayItem_161 (lv_at hl 1 rfl) ?_
            refine lv_if_eq (tgt := 183) hx hb dX9_wayItem_163 (by decide) (fun c_207 => absurd c_207 (by decide)) (fun c_207 => ?_)
            refine lv_aload_n hx hb dX9_wayItem_166 rfl (lv_at hl 6 rfl) ?_
            refine lv_iload_n hx hb dX9_wayItem_167 rfl (lv_at hl 4 rfl) ?_
            refine lv_iload_n hx hb dX9_wayItem_168 rfl (lv_at hl 5 rfl) ?_
            refine lv_aload_n hx hb dX9_wayItem_169 rfl (lv_at hl 6 rfl) ?_
            refine xg hF kf_X9_275 hK hP 1 rfl rfl dX9_wayItem_170 ?_
            refine lv_aload_n hx hb dX9_wayItem_173 rfl (lv_at hl 6 rfl) ?_
            refine xg hF kf_X9_275 hK hP 1 rfl rfl dX9_wayItem_174 ?_
            refine xc_Vi (wr := [(yta, .inl (cI, 120, .inl tp))]) hF (c_X9_makes l D cI cJ cZ cS ta sa sv H.size h0 ys yk yo yt mk0 yfa yfe mL mS mM yro yhe ygr mF mC mY yta mz f2_184 t2_185 v2_186 w2_187 ywa ybi ysi ynu ymo ms2_197 P Rn Wn k_25 y_195 v2_186 v2_186 (by omega) (by omega) (i_193 c_194).2 i_198 i_199 i_200 i_201 i_202 i_203 i_204 i_205 i_206) kv_X9_87 ⟨rfl, rfl, Nat.le_of_ble_eq_true rfl, Nat.le_of_ble_eq_true rfl⟩ ⟨Nat.le_of_ble_eq_true rfl, Nat.le_of_ble_eq_true rfl⟩ hK hN hZ hP hD hS hA [1, 2] [0] rfl rfl rfl rfl (by decide) 0 rfl rfl rfl rfl hl.1 rfl (Nat.le_of_ble_eq_true rfl) dX9_wayItem_177 (fun r_208 u_r_208 H locs hw_r_208 hP hD hS => ?_)
            obtain ⟨ms2_209, rfl⟩ : ∃ z, z = u_r_208 := ⟨_, rfl⟩
            try dsimp only at hw_r_208
            obtain ⟨hw_r_208, i_210, i_211, i_212, i_213, i_214, i_215, i_216, i_217, i_218⟩ := hw_r_208
            have hP : va_P D vwCl [(yta, .inl (cI, 120, .inl tp)), (h0, .inr (9, [.ref ys, .ref yk, .ref yo, .ref yt, .int mk0, .ref yfa, .ref yfe, .int mL, .int mS, .int mM, .ref yro, .ref yhe, .ref ygr, .int mF, .int mC, .int mY, .ref yta, .int (nI (mz)), .int (nI (f2_184)), .int (nI (t2_185)), .int v2_186, .int w2_187, .ref ywa, .ref ybi, .ref ysi, .ref ynu, .ref ymo])), (ys, .inl (cI, 449, .inl ms2_209))] H := hP
            have hD : va_D A [(yta, .inl (cI, 120, .inl tp)), (h0, .inr (9, [.ref ys, .ref yk, .ref yo, .ref yt, .int mk0, .ref yfa, .ref yfe, .int mL, .int mS, .int mM, .ref yro, .ref yhe, .ref ygr, .int mF, .int mC, .int mY, .ref yta, .int (nI (mz)), .int (nI (f2_184)), .int (nI (t2_185)), .int v2_186, .int w2_187, .ref ywa, .ref ybi, .ref ysi, .ref ynu, .ref ymo])), (ys, .inl (cI, 449, .inl ms2_209))] := hD
            refine lv_goto (tgt := 184) hx hb dX9_wayItem_180 (by decide) ?_
            refine lv_iadd hx hb dX9_wayItem_184 ?_
            refine lv_topi (fun x_219 ex_219 => ?_)
            refine lv_istore (lv' := [(6, .int x_219), (5, .int 1), (4, .int v2_163), (3, .int v2_140), (2, .int (nI (k_25))), (1, .int (nI (y_195))), (0, .ref h0)]) hx hb dX9_wayItem_185 hl (by decide) rfl (fun ls hl => ?_)
            exact W.vret hx hb hr (fun t ht hW => ⟨⟨(f2_184, t2_185, v2_186, w2_187, ms2_209), rfl, ⟨(by first | assumption | omega), (by first | assumption | omega), (by first | assumption | omega), (by first | assumption | omega), (by first | assumption | omega), (fun h => ⟨(i_10 (i_22 (i_136 (i_147 (i_159 (i_170 (i_182 (i_193 h).1).1).1).1).1).1).1).1, trivial⟩), i_210, i_211, i_212, i_213, i_214, i_215, i_216, i_217, i_218⟩, by rw [ht]; exact hP.sub [1, 2, 0] rfl, hD.sub [1, 2, 0] (by decide) rfl⟩, hS.F ht⟩) hS.2.2 dX9_wayItem_187 hlk
        · skip
          refine lv_istore (lv' := [(5, .int 0), (4, .int v2_163), (3, .int v2_140), (2, .int (nI (k_25))), (1, .int v2_15), (0, .ref h0)]) hx hb dX9_wayItem_120 hl (by decide) rfl (fun ls hl => ?_)
          refine lv_iload hx hb dX9_wayItem_122 (lv_at hl 0 rfl) ?_
          refine lv_if_eq (tgt := 141) hx hb dX9_wayItem_124 (by decide) (fun c_220 => ?_) (fun c_220 => absurd (by decide) c_220)
          refine lv_aload_n hx hb dX9_wayItem_141 rfl (lv_at hl 5 rfl) ?_
          refine xg hF kf_X9_266 hK hP 1 rfl rfl dX9_wayItem_142 ?_
          refine lv_if_ne (tgt := 187) hx hb dX9_wayItem_145 (by decide) (fun c_221 => ?_) (fun c_221 => ?_)
          · skip
            exact W.vret hx hb hr (fun t ht hW => ⟨⟨(f2_161, t2_162, v2_163, w2_164, ms), rfl, ⟨(by first | assumption | omega), (by first | assumption | omega), (by first | assumption | omega), (by first | assumption | omega), (by first | assumption | omega), (fun h => ⟨(i_10 (i_22 (i_136 (i_147 (i_159 (i_170 h).1).1).1).1).1).1, trivial⟩), hs0, hs1, hs2, hsS, hsM, hsp, hsr, hsw, hsR⟩, by rw [ht]; exact hP.sub [1, 0, 2] rfl, hD.sub [1, 0, 2] (by decide) rfl⟩, hS.F ht⟩) hS.2.2 dX9_wayItem_187 hlk
          · skip
            obtain ⟨y_222, hy_222, rfl⟩ := x_pl3 (by omega) ex_11 (i_22 (i_136 (i_147 (i_159 (i_170 c_221).1).1).1).1).2.1 (i_22 (i_136 (i_147 (i_159 (i_170 c_221).1).1).1).1).2.2
            have hP : va_P D vwCl [(ys, .inl (cI, 449, .inl ms)), (h0, .inr (9, [.ref ys, .ref yk, .ref yo, .ref yt, .int mk0, .ref yfa, .ref yfe, .int mL, .int mS, .int mM, .ref yro, .ref yhe, .ref ygr, .int mF, .int mC, .int mY, .ref yta, .int (nI (mz)), .int (nI (f2_161)), .int (nI (t2_162)), .int v2_163, .int w2_164, .ref ywa, .ref ybi, .ref ysi, .ref ynu, .ref ymo])), (yta, .inl (cI, 120, .inl tp))] H := by assumption
            have hD : va_D A [(ys, .inl (cI, 449, .inl ms)), (h0, .inr (9, [.ref ys, .ref yk, .ref yo, .ref yt, .int mk0, .ref yfa, .ref yfe, .int mL, .int mS, .int mM, .ref yro, .ref yhe, .ref ygr, .int mF, .int mC, .int mY, .ref yta, .int (nI (mz)), .int (nI (f2_161)), .int (nI (t2_162)), .int v2_163, .int w2_164, .ref ywa, .ref ybi, .ref ysi, .ref ynu, .ref ymo])), (yta, .inl (cI, 120, .inl tp))] := by assumption
            refine lv_aload_n hx hb dX9_wayItem_148 rfl (lv_at hl 5 rfl) ?_
            refine lv_iload_n hx hb dX9_wayItem_149 rfl (lv_at hl 4 rfl) ?_
            refine lv_iload_n hx hb dX9_wayItem_150 rfl (lv_at hl 3 rfl) ?_
            refine lv_iload_n hx hb dX9_wayItem_151 rfl (lv_at hl 2 rfl) ?_
            refine lv_iload hx hb dX9_wayItem_152 (lv_at hl 1 rfl) ?_
            refine xc_Vi (wr := [(yta, .inl (cI, 120, .inl tp))]) hF (c_X9_makes l D cI cJ cZ cS ta sa sv H.size h0 ys yk yo yt mk0 yfa yfe mL mS mM yro yhe ygr mF mC mY yta mz f2_161 t2_162 v2_163 w2_164 ywa ybi ysi ynu ymo ms P Rn Wn y_222 k_25 v2_140 v2_163 (by omega) (by omega) (i_147 (i_159 (i_170 c_221).1).1).2 hs0 hs1 hs2 hsS hsM hsp hsr hsw hsR) kv_X9_87 ⟨rfl, rfl, Nat.le_of_ble_eq_true rfl, Nat.le_of_ble_eq_true rfl⟩ ⟨Nat.le_of_ble_eq_true rfl, Nat.le_of_ble_eq_true rfl⟩ hK hN hZ hP hD hS hA [1, 0] [2] rfl rfl rfl rfl (by decide) 0 rfl rfl rfl rfl hl.1 rfl (Nat.le_of_ble_eq_true rfl) dX9_wayItem_154 (fun r_223 u_r_223 H locs hw_r_223 hP hD hS => ?_)
            obtain ⟨ms2_224, rfl⟩ : ∃ z, z = u_r_223 := ⟨_, rfl⟩
            try dsimp only at hw_r_223
            obtain ⟨hw_r_223, i_225, i_226, i_227, i_228, i_229, i_230, i_231, i_232, i_233⟩ := hw_r_223
            have hP : va_P D vwCl [(yta, .inl (cI, 120, .inl tp)), (h0, .inr (9, [.ref ys, .ref yk, .ref yo, .ref yt, .int mk0, .ref yfa, .ref yfe, .int mL, .int mS, .int mM, .ref yro, .ref yhe, .ref ygr, .int mF, .int mC, .int mY, .ref yta, .int (nI (mz)), .int (nI (f2_161)), .int (nI (t2_162)), .int v2_163, .int w2_164, .ref ywa, .ref ybi, .ref ysi, .ref ynu, .ref ymo])), (ys, .inl (cI, 449, .inl ms2_224))] H := hP
            have hD : va_D A [(yta, .inl (cI, 120, .inl tp)), (h0, .inr (9, [.ref ys, .ref yk, .ref yo, .ref yt, .int mk0, .ref yfa, .ref yfe, .int mL, .int mS, .int mM, .ref yro, .ref yhe, .ref ygr, .int mF, .int mC, .int mY, .ref yta, .int (nI (mz)), .int (nI (f2_161)), .int (nI (t2_162)), .int v2_163, .int w2_164, .ref ywa, .ref ybi, .ref ysi, .ref ynu, .ref ymo])), (ys, .inl (cI, 449, .inl ms2_224))] := hD
            refine lv_istore (lv' := [(6, .int r_223), (5, .int 0), (4, .int v2_163), (3, .int v2_140), (2, .int (nI (k_25))), (1, .int (nI (y_222))), (0, .ref h0)]) hx hb dX9_wayItem_157 hl (by decide) rfl (fun ls hl => ?_)
            refine lv_iload hx hb dX9_wayItem_159 (lv_at hl 0 rfl) ?_
            refine lv_iload hx hb dX9_wayItem_161 (lv_at hl 1 rfl) ?_
            refine lv_if_eq (tgt := 183) hx hb dX9_wayItem_163 (by decide) (fun c_234 => ?_) (fun c_234 => absurd (by decide) c_234)
            refine lv_iconst (v := 0) hx hb dX9_wayItem_183 (by decide) ?_
            refine lv_iadd hx hb dX9_wayItem_184 ?_
            refine lv_topi (fun x_235 ex_235 => ?_)
            refine lv_istore (lv' := [(6, .int x_235), (5, .int 0), (4, .int v2_163), (3, .int v2_140), (2, .int (nI (k_25))), (1, .int (nI (y_222))), (0, .ref h0)]) hx hb dX9_wayItem_185 hl (by decide) rfl (fun ls hl => ?_)
            exact W.vret hx hb hr (fun t ht hW => ⟨⟨(f2_161, t2_162, v2_163, w2_164, ms2_224), rfl, ⟨(by first | assumption | omega), (by first | assumption | omega), (by first | assumption | omega), (by first | assumption | omega), (by first | assumption | omega), (fun h => ⟨(i_10 (i_22 (i_136 (i_147 (i_159 (i_170 h).1).1).1).1).1).1, trivial⟩), i_225, i_226, i_227, i_228, i_229, i_230, i_231, i_232, i_233⟩, by rw [ht]; exact hP.sub [1, 2, 0] rfl, hD.sub [1, 2, 0] (by decide) rfl⟩, hS.F ht⟩) hS.2.2 dX9_wayItem_187 hlk
      · skip
        refine lv_if_eq (tgt := 105) hx hb dX9_wayItem_83 (by decide) (fun c_236 => ?_) (fun c_236 => absurd (by decide) c_236)
        refine lv_aload_n hx hb dX9_wayItem_105 rfl (lv_at hl 4 rfl) ?_
        refine lv_bipush (v := 98) hx hb dX9_wayItem_106 (by decide) ?_
        refine lv_bipush (v := 97) hx hb dX9_wayItem_108 (by decide) ?_
        refine lv_bipush (v := 99) hx hb dX9_wayItem_110 (by decide) ?_
        refine lv_bipush (v := 107) hx hb dX9_wayItem_112 (by decide) ?_
        refine lv_iconst (v := 0) hx hb dX9_wayItem_114 (by decide) ?_
        refine lv_iconst (v := 0) hx hb dX9_wayItem_115 (by decide) ?_
        refine lv_iconst (v := 0) hx hb dX9_wayItem_116 (by decide) ?_
        refine xc_Vr hF (c_X9_isWord l D cI cJ cZ cS ta sa sv H.size h0 ys yk yo yt mk0 yfa yfe mL mS mM yro yhe ygr mF mC mY yta mz f2_138 t2_139 v2_140 w2_141 ywa ybi ysi ynu ymo tp 98 97 99 107 0 0 0 (by omega) (by omega)) kv_X9_290 ⟨rfl, rfl, Nat.le_of_ble_eq_true rfl, Nat.le_of_ble_eq_true rfl⟩ ⟨Nat.le_of_ble_eq_true rfl, Nat.le_of_ble_eq_true rfl⟩ hK hN hZ hP hD hS hA [1, 2] rfl rfl 0 rfl rfl rfl rfl hl.1 rfl (Nat.le_of_ble_eq_true rfl) dX9_wayItem_117 (fun r_237 hw_r_237 => ?_)
        rcases hw_r_237 with rfl | rfl
        · skip
          refine lv_istore (lv' := [(5, .int 1), (4, .int v2_140), (3, .int v2_140), (2, .int (nI (k_25))), (1, .int v2_15), (0, .ref h0)]) hx hb dX9_wayItem_120 hl (by decide) rfl (fun ls hl => ?_)
          refine lv_iload hx hb dX9_wayItem_122 (lv_at hl 0 rfl) ?_
          refine lv_if_eq (tgt := 141) hx hb dX9_wayItem_124 (by decide) (fun c_238 => absurd c_238 (by decide)) (fun c_238 => ?_)
          refine lv_aload_n hx hb dX9_wayItem_127 rfl (lv_at hl 5 rfl) ?_
          refine lv_iconst (v := 1) hx hb dX9_wayItem_128 (by decide) ?_
          refine xc_Vv (wr := [(ys, .inl (cI, 449, .inl ms))]) hF (c_X9_needs l D cI cJ cZ cS ta sa sv H.size h0 ys yk yo yt mk0 yfa yfe mL mS mM yro yhe ygr mF mC mY yta mz f2_138 t2_139 v2_140 w2_141 ywa ybi ysi ynu ymo tp 1 (by omega) (by omega) (by omega) (by omega) (by omega)) kv_X9_278 ⟨rfl, rfl, Nat.le_of_ble_eq_true rfl, Nat.le_of_ble_eq_true rfl⟩ ⟨Nat.le_of_ble_eq_true rfl, Nat.le_of_ble_eq_true rfl⟩ hK hN hZ hP hD hS hA [1, 2] [0] rfl rfl rfl rfl (by decide) 0 rfl rfl rfl rfl hl.1 rfl (Nat.le_of_ble_eq_true rfl) dX9_wayItem_129 (fun u_r_239 H locs hw_r_239 hP hD hS => ?_)
          obtain ⟨f2_240, t2_241, w2_242⟩ := u_r_239
          try dsimp only at hw_r_239
          obtain ⟨i_243, i_244, i_245, i_246, i_247, i_248⟩ := hw_r_239
          have hP : va_P D vwCl [(ys, .inl (cI, 449, .inl ms)), (h0, .inr (9, [.ref ys, .ref yk, .ref yo, .ref yt, .int mk0, .ref yfa, .ref yfe, .int mL, .int mS, .int mM, .ref yro, .ref yhe, .ref ygr, .int mF, .int mC, .int mY, .ref yta, .int (nI (mz)), .int (nI (f2_240)), .int (nI (t2_241)), .int v2_140, .int w2_242, .ref ywa, .ref ybi, .ref ysi, .ref ynu, .ref ymo])), (yta, .inl (cI, 120, .inl tp))] H := hP
          have hD : va_D A [(ys, .inl (cI, 449, .inl ms)), (h0, .inr (9, [.ref ys, .ref yk, .ref yo, .ref yt, .int mk0, .ref yfa, .ref yfe, .int mL, .int mS, .int mM, .ref yro, .ref yhe, .ref ygr, .int mF, .int mC, .int mY, .ref yta, .int (nI (mz)), .int (nI (f2_240)), .int (nI (t2_241)), .int v2_140, .int w2_242, .ref ywa, .ref ybi, .ref ysi, .ref ynu, .ref ymo])), (yta, .inl (cI, 120, .inl tp))] := hD
          refine lv_aload_n hx hb dX9_wayItem_132 rfl (lv_at hl 5 rfl) ?_
          refine lv_bipush (v := (-99)) hx hb dX9_wayItem_133 (by decide) ?_
          refine lv_sipush (v := 999) hx hb dX9_wayItem_135 (by decide) ?_
          refine xc_Vv (wr := [(ys, .inl (cI, 449, .inl ms))]) hF (c_X9_mileE l D cI cJ cZ cS ta sa sv H.size h0 ys yk yo yt mk0 yfa yfe mL mS mM yro yhe ygr mF mC mY yta mz f2_240 t2_241 v2_140 w2_242 ywa ybi ysi ynu ymo tp (by omega) (by omega) (by omega) (by omega) (by omega)) kv_X9_287 ⟨rfl, rfl, Nat.le_of_ble_eq_true rfl, Nat.le_of_ble_eq_true rfl⟩ ⟨Nat.le_of_ble_eq_true rfl, Nat.le_of_ble_eq_true rfl⟩ hK hN hZ hP hD hS hA [1, 2] [0] rfl rfl rfl rfl (by decide) 0 rfl rfl rfl rfl hl.1 rfl (Nat.le_of_ble_eq_true rfl) dX9_wayItem_138 (fun u_r_249 H locs hw_r_249 hP hD hS => ?_)
          obtain ⟨f2_250, t2_251, v2_252, w2_253⟩ := u_r_249
          try dsimp only at hw_r_249
          obtain ⟨i_254, i_255, i_256, i_257, i_258, i_259⟩ := hw_r_249
          have hP : va_P D vwCl [(ys, .inl (cI, 449, .inl ms)), (h0, .inr (9, [.ref ys, .ref yk, .ref yo, .ref yt, .int mk0, .ref yfa, .ref yfe, .int mL, .int mS, .int mM, .ref yro, .ref yhe, .ref ygr, .int mF, .int mC, .int mY, .ref yta, .int (nI (mz)), .int (nI (f2_250)), .int (nI (t2_251)), .int v2_252, .int w2_253, .ref ywa, .ref ybi, .ref ysi, .ref ynu, .ref ymo])), (yta, .inl (cI, 120, .inl tp))] H := hP
          have hD : va_D A [(ys, .inl (cI, 449, .inl ms)), (h0, .inr (9, [.ref ys, .ref yk, .ref yo, .ref yt, .int mk0, .ref yfa, .ref yfe, .int mL, .int mS, .int mM, .ref yro, .ref yhe, .ref ygr, .int mF, .int mC, .int mY, .ref yta, .int (nI (mz)), .int (nI (f2_250)), .int (nI (t2_251)), .int v2_252, .int w2_253, .ref ywa, .ref ybi, .ref ysi, .ref ynu, .ref ymo])), (yta, .inl (cI, 120, .inl tp))] := hD
          refine lv_aload_n hx hb dX9_wayItem_141 rfl (lv_at hl 5 rfl) ?_
          refine xg hF kf_X9_266 hK hP 1 rfl rfl dX9_wayItem_142 ?_
          refine lv_if_ne (tgt := 187) hx hb dX9_wayItem_145 (by decide) (fun c_260 => ?_) (fun c_260 => ?_)
          · skip
            exact W.vret hx hb hr (fun t ht hW => ⟨⟨(f2_250, t2_251, v2_252, w2_253, ms), rfl, ⟨(by first | assumption | omega), (by first | assumption | omega), (by first | assumption | omega), (by first | assumption | omega), (by first | assumption | omega), (fun h => ⟨(i_10 (i_22 (i_136 (i_147 (i_248 (i_259 h).1).1).1).1).1).1, trivial⟩), hs0, hs1, hs2, hsS, hsM, hsp, hsr, hsw, hsR⟩, by rw [ht]; exact hP.sub [1, 0, 2] rfl, hD.sub [1, 0, 2] (by decide) rfl⟩, hS.F ht⟩) hS.2.2 dX9_wayItem_187 hlk
          · skip
            obtain ⟨y_261, hy_261, rfl⟩ := x_pl3 (by omega) ex_11 (i_22 (i_136 (i_147 (i_248 (i_259 c_260).1).1).1).1).2.1 (i_22 (i_136 (i_147 (i_248 (i_259 c_260).1).1).1).1).2.2
            have hP : va_P D vwCl [(ys, .inl (cI, 449, .inl ms)), (h0, .inr (9, [.ref ys, .ref yk, .ref yo, .ref yt, .int mk0, .ref yfa, .ref yfe, .int mL, .int mS, .int mM, .ref yro, .ref yhe, .ref ygr, .int mF, .int mC, .int mY, .ref yta, .int (nI (mz)), .int (nI (f2_250)), .int (nI (t2_251)), .int v2_252, .int w2_253, .ref ywa, .ref ybi, .ref ysi, .ref ynu, .ref ymo])), (yta, .inl (cI, 120, .inl tp))] H := by assumption
            have hD : va_D A [(ys, .inl (cI, 449, .inl ms)), (h0, .inr (9, [.ref ys, .ref yk, .ref yo, .ref yt, .int mk0, .ref yfa, .ref yfe, .int mL, .int mS, .int mM, .ref yro, .ref yhe, .ref ygr, .int mF, .int mC, .int mY, .ref yta, .int (nI (mz)), .int (nI (f2_250)), .int (nI (t2_251)), .int v2_252, .int w2_253, .ref ywa, .ref ybi, .ref ysi, .ref ynu, .ref ymo])), (yta, .inl (cI, 120, .inl tp))] := by assumption
            refine lv_aload_n hx hb dX9_wayItem_148 rfl (lv_at hl 5 rfl) ?_
            refine lv_iload_n hx hb dX9_wayItem_149 rfl (lv_at hl 4 rfl) ?_
            refine lv_iload_n hx hb dX9_wayItem_150 rfl (lv_at hl 3 rfl) ?_
            refine lv_iload_n hx hb dX9_wayItem_151 rfl (lv_at hl 2 rfl) ?_
            refine lv_iload hx hb dX9_wayItem_152 (lv_at hl 1 rfl) ?_
            refine xc_Vi (wr := [(yta, .inl (cI, 120, .inl tp))]) hF (c_X9_makes l D cI cJ cZ cS ta sa sv H.size h0 ys yk yo yt mk0 yfa yfe mL mS mM yro yhe ygr mF mC mY yta mz f2_250 t2_251 v2_252 w2_253 ywa ybi ysi ynu ymo ms P Rn Wn y_261 k_25 v2_140 v2_140 (by omega) (by omega) (i_147 (i_248 (i_259 c_260).1).1).2 hs0 hs1 hs2 hsS hsM hsp hsr hsw hsR) kv_X9_87 ⟨rfl, rfl, Nat.le_of_ble_eq_true rfl, Nat.le_of_ble_eq_true rfl⟩ ⟨Nat.le_of_ble_eq_true rfl, Nat.le_of_ble_eq_true rfl⟩ hK hN hZ hP hD hS hA [1, 0] [2] rfl rfl rfl rfl (by decide) 0 rfl rfl rfl rfl hl.1 rfl (Nat.le_of_ble_eq_true rfl) dX9_wayItem_154 (fun r_262 u_r_262 H locs hw_r_262 hP hD hS => ?_)
            obtain ⟨ms2_263, rfl⟩ : ∃ z, z = u_r_262 := ⟨_, rfl⟩
            try dsimp only at hw_r_262
            obtain ⟨hw_r_262, i_264, i_265, i_266, i_267, i_268, i_269, i_270, i_271, i_272⟩ := hw_r_262
            have hP : va_P D vwCl [(yta, .inl (cI, 120, .inl tp)), (h0, .inr (9, [.ref ys, .ref yk, .ref yo, .ref yt, .int mk0, .ref yfa, .ref yfe, .int mL, .int mS, .int mM, .ref yro, .ref yhe, .ref ygr, .int mF, .int mC, .int mY, .ref yta, .int (nI (mz)), .int (nI (f2_250)), .int (nI (t2_251)), .int v2_252, .int w2_253, .ref ywa, .ref ybi, .ref ysi, .ref ynu, .ref ymo])), (ys, .inl (cI, 449, .inl ms2_263))] H := hP
            have hD : va_D A [(yta, .inl (cI, 120, .inl tp)), (h0, .inr (9, [.ref ys, .ref yk, .ref yo, .ref yt, .int mk0, .ref yfa, .ref yfe, .int mL, .int mS, .int mM, .ref yro, .ref yhe, .ref ygr, .int mF, .int mC, .int mY, .ref yta, .int (nI (mz)), .int (nI (f2_250)), .int (nI (t2_251)), .int v2_252, .int w2_253, .ref ywa, .ref ybi, .ref ysi, .ref ynu, .ref ymo])), (ys, .inl (cI, 449, .inl ms2_263))] := hD
            refine lv_istore (lv' := [(6, .int r_262), (5, .int 1), (4, .int v2_140), (3, .int v2_140), (2, .int (nI (k_25))), (1, .int (nI (y_261))), (0, .ref h0)]) hx hb dX9_wayItem_157 hl (by decide) rfl (fun ls hl => ?_)
            refine lv_iload hx hb dX9_wayItem_159 (lv_at hl 0 rfl) ?_
            refine lv_iload hx hb dX9_wayItem_161 (lv_at hl 1 rfl) ?_
            refine lv_if_eq (tgt := 183) hx hb dX9_wayItem_163 (by decide) (fun c_273 => absurd c_273 (by decide)) (fun c_273 => ?_)
            refine lv_aload_n hx hb dX9_wayItem_166 rfl (lv_at hl 6 rfl) ?_
            refine lv_iload_n hx hb dX9_wayItem_167 rfl (lv_at hl 4 rfl) ?_
            refine lv_iload_n hx hb dX9_wayItem_168 rfl (lv_at hl 5 rfl) ?_
            refine lv_aload_n hx hb dX9_wayItem_169 rfl (lv_at hl 6 rfl) ?_
            refine xg hF kf_X9_275 hK hP 1 rfl rfl dX9_wayItem_170 ?_
            refine lv_aload_n hx hb dX9_wayItem_173 rfl (lv_at hl 6 rfl) ?_
            refine xg hF kf_X9_275 hK hP 1 rfl rfl dX9_wayItem_174 ?_
            refine xc_Vi (wr := [(yta, .inl (cI, 120, .inl tp))]) hF (c_X9_makes l D cI cJ cZ cS ta sa sv H.size h0 ys yk yo yt mk0 yfa yfe mL mS mM yro yhe ygr mF mC mY yta mz f2_250 t2_251 v2_252 w2_253 ywa ybi ysi ynu ymo ms2_263 P Rn Wn k_25 y_261 v2_252 v2_252 (by omega) (by omega) (i_259 c_260).2 i_264 i_265 i_266 i_267 i_268 i_269 i_270 i_271 i_272) kv_X9_87 ⟨rfl, rfl, Nat.le_of_ble_eq_true rfl, Nat.le_of_ble_eq_true rfl⟩ ⟨Nat.le_of_ble_eq_true rfl, Nat.le_of_ble_eq_true rfl⟩ hK hN hZ hP hD hS hA [1, 2] [0] rfl rfl rfl rfl (by decide) 0 rfl rfl rfl rfl hl.1 rfl (Nat.le_of_ble_eq_true rfl) dX9_wayItem_177 (fun r_274 u_r_274 H locs hw_r_274 hP hD hS => ?_)
            obtain ⟨ms2_275, rfl⟩ : ∃ z, z = u_r_274 := ⟨_, rfl⟩
            try dsimp only at hw_r_274
            obtain ⟨hw_r_274, i_276, i_277, i_278, i_279, i_280, i_281, i_282, i_283, i_284⟩ := hw_r_274
            have hP : va_P D vwCl [(yta, .inl (cI, 120, .inl tp)), (h0, .inr (9, [.ref ys, .ref yk, .ref yo, .ref yt, .int mk0, .ref yfa, .ref yfe, .int mL, .int mS, .int mM, .ref yro, .ref yhe, .ref ygr, .int mF, .int mC, .int mY, .ref yta, .int (nI (mz)), .int (nI (f2_250)), .int (nI (t2_251)), .int v2_252, .int w2_253, .ref ywa, .ref ybi, .ref ysi, .ref ynu, .ref ymo])), (ys, .inl (cI, 449, .inl ms2_275))] H := hP
            have hD : va_D A [(yta, .inl (cI, 120, .inl tp)), (h0, .inr (9, [.ref ys, .ref yk, .ref yo, .ref yt, .int mk0, .ref yfa, .ref yfe, .int mL, .int mS, .int mM, .ref yro, .ref yhe, .ref ygr, .int mF, .int mC, .int mY, .ref yta, .int (nI (mz)), .int (nI (f2_250)), .int (nI (t2_251)), .int v2_252, .int w2_253, .ref ywa, .ref ybi, .ref ysi, .ref ynu, .ref ymo])), (ys, .inl (cI, 449, .inl ms2_275))] := hD
            refine lv_goto (tgt := 184) hx hb dX9_wayItem_180 (by decide) ?_
            refine lv_iadd hx hb dX9_wayItem_184 ?_
            refine lv_topi (fun x_285 ex_285 => ?_)
            refine lv_istore (lv' := [(6, .int x_285), (5, .int 1), (4, .int v2_140), (3, .int v2_140), (2, .int (nI (k_25))), (1, .int (nI (y_261))), (0, .ref h0)]) hx hb dX9_wayItem_185 hl (by decide) rfl (fun ls hl => ?_)
            exact W.vret hx hb hr (fun t ht hW => ⟨⟨(f2_250, t2_251, v2_252, w2_253, ms2_275), rfl, ⟨(by first | assumption | omega), (by first | assumption | omega), (by first | assumption | omega), (by first | assumption | omega), (by first | assumption | omega), (fun h => ⟨(i_10 (i_22 (i_136 (i_147 (i_248 (i_259 h).1).1).1).1).1).1, trivial⟩), i_276, i_277, i_278, i_279, i_280, i_281, i_282, i_283, i_284⟩, by rw [ht]; exact hP.sub [1, 2, 0] rfl, hD.sub [1, 2, 0] (by decide) rfl⟩, hS.F ht⟩) hS.2.2 dX9_wayItem_187 hlk
        · skip
          refine lv_istore (lv' := [(5, .int 0), (4, .int v2_140), (3, .int v2_140), (2, .int (nI (k_25))), (1, .int v2_15), (0, .ref h0)]) hx hb dX9_wayItem_120 hl (by decide) rfl (fun ls hl => ?_)
          refine lv_iload hx hb dX9_wayItem_122 (lv_at hl 0 rfl) ?_
          refine lv_if_eq (tgt := 141) hx hb dX9_wayItem_124 (by decide) (fun c_286 => ?_) (fun c_286 => absurd (by decide) c_286)
          refine lv_aload_n hx hb dX9_wayItem_141 rfl (lv_at hl 5 rfl) ?_
          refine xg hF kf_X9_266 hK hP 1 rfl rfl dX9_wayItem_142 ?_
          refine lv_if_ne (tgt := 187) hx hb dX9_wayItem_145 (by decide) (fun c_287 => ?_) (fun c_287 => ?_)
          · skip
            exact W.vret hx hb hr (fun t ht hW => ⟨⟨(f2_138, t2_139, v2_140, w2_141, ms), rfl, ⟨(by first | assumption | omega), (by first | assumption | omega), (by first | assumption | omega), (by first | assumption | omega), (by first | assumption | omega), (fun h => ⟨(i_10 (i_22 (i_136 (i_147 h).1).1).1).1, trivial⟩), hs0, hs1, hs2, hsS, hsM, hsp, hsr, hsw, hsR⟩, by rw [ht]; exact hP.sub [1, 0, 2] rfl, hD.sub [1, 0, 2] (by decide) rfl⟩, hS.F ht⟩) hS.2.2 dX9_wayItem_187 hlk
          · skip
            obtain ⟨y_288, hy_288, rfl⟩ := x_pl3 (by omega) ex_11 (i_22 (i_136 (i_147 c_287).1).1).2.1 (i_22 (i_136 (i_147 c_287).1).1).2.2
            have hP : va_P D vwCl [(ys, .inl (cI, 449, .inl ms)), (h0, .inr (9, [.ref ys, .ref yk, .ref yo, .ref yt, .int mk0, .ref yfa, .ref yfe, .int mL, .int mS, .int mM, .ref yro, .ref yhe, .ref ygr, .int mF, .int mC, .int mY, .ref yta, .int (nI (mz)), .int (nI (f2_138)), .int (nI (t2_139)), .int v2_140, .int w2_141, .ref ywa, .ref ybi, .ref ysi, .ref ynu, .ref ymo])), (yta, .inl (cI, 120, .inl tp))] H := by assumption
            have hD : va_D A [(ys, .inl (cI, 449, .inl ms)), (h0, .inr (9, [.ref ys, .ref yk, .ref yo, .ref yt, .int mk0, .ref yfa, .ref yfe, .int mL, .int mS, .int mM, .ref yro, .ref yhe, .ref ygr, .int mF, .int mC, .int mY, .ref yta, .int (nI (mz)), .int (nI (f2_138)), .int (nI (t2_139)), .int v2_140, .int w2_141, .ref ywa, .ref ybi, .ref ysi, .ref ynu, .ref ymo])), (yta, .inl (cI, 120, .inl tp))] := by assumption
            refine lv_aload_n hx hb dX9_wayItem_148 rfl (lv_at hl 5 rfl) ?_
            refine lv_iload_n hx hb dX9_wayItem_149 rfl (lv_at hl 4 rfl) ?_
            refine lv_iload_n hx hb dX9_wayItem_150 rfl (lv_at hl 3 rfl) ?_
            refine lv_iload_n hx hb dX9_wayItem_151 rfl (lv_at hl 2 rfl) ?_
            refine lv_iload hx hb dX9_wayItem_152 (lv_at hl 1 rfl) ?_
            refine xc_Vi (wr := [(yta, .inl (cI, 120, .inl tp))]) hF (c_X9_makes l D cI cJ cZ cS ta sa sv H.size h0 ys yk yo yt mk0 yfa yfe mL mS mM yro yhe ygr mF mC mY yta mz f2_138 t2_139 v2_140 w2_141 ywa ybi ysi ynu ymo ms P Rn Wn y_288 k_25 v2_140 v2_140 (by omega) (by omega) (i_147 c_287).2 hs0 hs1 hs2 hsS hsM hsp hsr hsw hsR) kv_X9_87 ⟨rfl, rfl, Nat.le_of_ble_eq_true rfl, Nat.le_of_ble_eq_true rfl⟩ ⟨Nat.le_of_ble_eq_true rfl, Nat.le_of_ble_eq_true rfl⟩ hK hN hZ hP hD hS hA [1, 0] [2] rfl rfl rfl rfl (by decide) 0 rfl rfl rfl rfl hl.1 rfl (Nat.le_of_ble_eq_true rfl) dX9_wayItem_154 (fun r_289 u_r_289 H locs hw_r_289 hP hD hS => ?_)
            obtain ⟨ms2_290, rfl⟩ : ∃ z, z = u_r_289 := ⟨_, rfl⟩
            try dsimp only at hw_r_289
            obtain ⟨hw_r_289, i_291, i_292, i_293, i_294, i_295, i_296, i_297, i_298, i_299⟩ := hw_r_289
            have hP : va_P D vwCl [(yta, .inl (cI, 120, .inl tp)), (h0, .inr (9, [.ref ys, .ref yk, .ref yo, .ref yt, .int mk0, .ref yfa, .ref yfe, .int mL, .int mS, .int mM, .ref yro, .ref yhe, .ref ygr, .int mF, .int mC, .int mY, .ref yta, .int (nI (mz)), .int (nI (f2_138)), .int (nI (t2_139)), .int v2_140, .int w2_141, .ref ywa, .ref ybi, .ref ysi, .ref ynu, .ref ymo])), (ys, .inl (cI, 449, .inl ms2_290))] H := hP
            have hD : va_D A [(yta, .inl (cI, 120, .inl tp)), (h0, .inr (9, [.ref ys, .ref yk, .ref yo, .ref yt, .int mk0, .ref yfa, .ref yfe, .int mL, .int mS, .int mM, .ref yro, .ref yhe, .ref ygr, .int mF, .int mC, .int mY, .ref yta, .int (nI (mz)), .int (nI (f2_138)), .int (nI (t2_139)), .int v2_140, .int w2_141, .ref ywa, .ref ybi, .ref ysi, .ref ynu, .ref ymo])), (ys, .inl (cI, 449, .inl ms2_290))] := hD
            refine lv_istore (lv' := [(6, .int r_289), (5, .int 0), (4, .int v2_140), (3, .int v2_140), (2, .int (nI (k_25))), (1, .int (nI (y_288))), (0, .ref h0)]) hx hb dX9_wayItem_157 hl (by decide) rfl (fun ls hl => ?_)
            refine lv_iload hx hb dX9_wayItem_159 (lv_at hl 0 rfl) ?_
            refine lv_iload hx hb dX9_wayItem_161 (lv_at hl 1 rfl) ?_
            refine lv_if_eq (tgt := 183) hx hb dX9_wayItem_163 (by decide) (fun c_300 => ?_) (fun c_300 => absurd (by decide) c_300)
            refine lv_iconst (v := 0) hx hb dX9_wayItem_183 (by decide) ?_
            refine lv_iadd hx hb dX9_wayItem_184 ?_
            refine lv_topi (fun x_301 ex_301 => ?_)
            refine lv_istore (lv' := [(6, .int x_301), (5, .int 0), (4, .int v2_140), (3, .int v2_140), (2, .int (nI (k_25))), (1, .int (nI (y_288))), (0, .ref h0)]) hx hb dX9_wayItem_185 hl (by decide) rfl (fun ls hl => ?_)
            exact W.vret hx hb hr (fun t ht hW => ⟨⟨(f2_138, t2_139, v2_140, w2_141, ms2_290), rfl, ⟨(by first | assumption | omega), (by first | assumption | omega), (by first | assumption | omega), (by first | assumption | omega), (by first | assumption | omega), (fun h => ⟨(i_10 (i_22 (i_136 (i_147 h).1).1).1).1, trivial⟩), i_291, i_292, i_293, i_294, i_295, i_296, i_297, i_298, i_299⟩, by rw [ht]; exact hP.sub [1, 2, 0] rfl, hD.sub [1, 2, 0] (by decide) rfl⟩, hS.F ht⟩) hS.2.2 dX9_wayItem_187 hlk
  · skip
    refine lv_if_eq (tgt := 46) hx hb dX9_wayItem_34 (by decide) (fun c_302 => ?_) (fun c_302 => absurd (by decide) c_302)
    refine lv_iconst (v := 0) hx hb dX9_wayItem_46 (by decide) ?_
    refine xc_Vv (wr := [(ys, .inl (cI, 449, .inl ms))]) hF (c_X9_needs l D cI cJ cZ cS ta sa sv H.size h0 ys yk yo yt mk0 yfa yfe mL mS mM yro yhe ygr mF mC mY yta mz f2_13 t2_14 v2_15 w2_16 ywa ybi ysi ynu ymo tp 0 (by omega) (by omega) (by omega) (by omega) (by omega)) kv_X9_278 ⟨rfl, rfl, Nat.le_of_ble_eq_true rfl, Nat.le_of_ble_eq_true rfl⟩ ⟨Nat.le_of_ble_eq_true rfl, Nat.le_of_ble_eq_true rfl⟩ hK hN hZ hP hD hS hA [1, 2] [0] rfl rfl rfl rfl (by decide) 0 rfl rfl rfl rfl hl.1 rfl (Nat.le_of_ble_eq_true rfl) dX9_wayItem_47 (fun u_r_303 H locs hw_r_303 hP hD hS => ?_)
    obtain ⟨f2_304, t2_305, w2_306⟩ := u_r_303
    try dsimp only at hw_r_303
    obtain ⟨i_307, i_308, i_309, i_310, i_311, i_312⟩ := hw_r_303
    have hP : va_P D vwCl [(ys, .inl (cI, 449, .inl ms)), (h0, .inr (9, [.ref ys, .ref yk, .ref yo, .ref yt, .int mk0, .ref yfa, .ref yfe, .int mL, .int mS, .int mM, .ref yro, .ref yhe, .ref ygr, .int mF, .int mC, .int mY, .ref yta, .int (nI (mz)), .int (nI (f2_304)), .int (nI (t2_305)), .int v2_15, .int w2_306, .ref ywa, .ref ybi, .ref ysi, .ref ynu, .ref ymo])), (yta, .inl (cI, 120, .inl tp))] H := hP
    have hD : va_D A [(ys, .inl (cI, 449, .inl ms)), (h0, .inr (9, [.ref ys, .ref yk, .ref yo, .ref yt, .int mk0, .ref yfa, .ref yfe, .int mL, .int mS, .int mM, .ref yro, .ref yhe, .ref ygr, .int mF, .int mC, .int mY, .ref yta, .int (nI (mz)), .int (nI (f2_304)), .int (nI (t2_305)), .int v2_15, .int w2_306, .ref ywa, .ref ybi, .ref ysi, .ref ynu, .ref ymo])), (yta, .inl (cI, 120, .inl tp))] := hD
    refine lv_aload_n hx hb dX9_wayItem_50 rfl (lv_at hl 2 rfl) ?_
    refine lv_bipush (v := (-99)) hx hb dX9_wayItem_51 (by decide) ?_
    refine lv_sipush (v := 999) hx hb dX9_wayItem_53 (by decide) ?_
    refine xc_Vv (wr := [(ys, .inl (cI, 449, .inl ms))]) hF (c_X9_mileE l D cI cJ cZ cS ta sa sv H.size h0 ys yk yo yt mk0 yfa yfe mL mS mM yro yhe ygr mF mC mY yta mz f2_304 t2_305 v2_15 w2_306 ywa ybi ysi ynu ymo tp (by omega) (by omega) (by omega) (by omega) (by omega)) kv_X9_287 ⟨rfl, rfl, Nat.le_of_ble_eq_true rfl, Nat.le_of_ble_eq_true rfl⟩ ⟨Nat.le_of_ble_eq_true rfl, Nat.le_of_ble_eq_true rfl⟩ hK hN hZ hP hD hS hA [1, 2] [0] rfl rfl rfl rfl (by decide) 0 rfl rfl rfl rfl hl.1 rfl (Nat.le_of_ble_eq_true rfl) dX9_wayItem_56 (fun u_r_313 H locs hw_r_313 hP hD hS => ?_)
    obtain ⟨f2_314, t2_315, v2_316, w2_317⟩ := u_r_313
    try dsimp only at hw_r_313
    obtain ⟨i_318, i_319, i_320, i_321, i_322, i_323⟩ := hw_r_313
    have hP : va_P D vwCl [(ys, .inl (cI, 449, .inl ms)), (h0, .inr (9, [.ref ys, .ref yk, .ref yo, .ref yt, .int mk0, .ref yfa, .ref yfe, .int mL, .int mS, .int mM, .ref yro, .ref yhe, .ref ygr, .int mF, .int mC, .int mY, .ref yta, .int (nI (mz)), .int (nI (f2_314)), .int (nI (t2_315)), .int v2_316, .int w2_317, .ref ywa, .ref ybi, .ref ysi, .ref ynu, .ref ymo])), (yta, .inl (cI, 120, .inl tp))] H := hP
    have hD : va_D A [(ys, .inl (cI, 449, .inl ms)), (h0, .inr (9, [.ref ys, .ref yk, .ref yo, .ref yt, .int mk0, .ref yfa, .ref yfe, .int mL, .int mS, .int mM, .ref yro, .ref yhe, .ref ygr, .int mF, .int mC, .int mY, .ref yta, .int (nI (mz)), .int (nI (f2_314)), .int (nI (t2_315)), .int v2_316, .int w2_317, .ref ywa, .ref ybi, .ref ysi, .ref ynu, .ref ymo])), (yta, .inl (cI, 120, .inl tp))] := hD
    refine lv_aload_n hx hb dX9_wayItem_59 rfl (lv_at hl 2 rfl) ?_
    refine xg hF kf_X9_275 hK hP 1 rfl rfl dX9_wayItem_60 ?_
    refine lv_istore_n (lv' := [(3, .int v2_316), (2, .int r_23), (1, .int v2_15), (0, .ref h0)]) hx hb dX9_wayItem_63 rfl hl (by decide) rfl (fun ls hl => ?_)
    refine lv_aload_n hx hb dX9_wayItem_64 rfl (lv_at hl 3 rfl) ?_
    refine xg hF kf_X9_275 hK hP 1 rfl rfl dX9_wayItem_65 ?_
    refine lv_istore (lv' := [(4, .int v2_316), (3, .int v2_316), (2, .int r_23), (1, .int v2_15), (0, .ref h0)]) hx hb dX9_wayItem_68 hl (by decide) rfl (fun ls hl => ?_)
    refine lv_aload_n hx hb dX9_wayItem_70 rfl (lv_at hl 4 rfl) ?_
    refine lv_bipush (v := 116) hx hb dX9_wayItem_71 (by decide) ?_
    refine lv_bipush (v := 111) hx hb dX9_wayItem_73 (by decide) ?_
    refine lv_iconst (v := 0) hx hb dX9_wayItem_75 (by decide) ?_
    refine lv_iconst (v := 0) hx hb dX9_wayItem_76 (by decide) ?_
    refine lv_iconst (v := 0) hx hb dX9_wayItem_77 (by decide) ?_
    refine lv_iconst (v := 0) hx hb dX9_wayItem_78 (by decide) ?_
    refine lv_iconst (v := 0) hx hb dX9_wayItem_79 (by decide) ?_
    refine xc_Vr hF (c_X9_isWord l D cI cJ cZ cS ta sa sv H.size h0 ys yk yo yt mk0 yfa yfe mL mS mM yro yhe ygr mF mC mY yta mz f2_314 t2_315 v2_316 w2_317 ywa ybi ysi ynu ymo tp 116 111 0 0 0 0 0 (by omega) (by omega)) kv_X9_290 ⟨rfl, rfl, Nat.le_of_ble_eq_true rfl, Nat.le_of_ble_eq_true rfl⟩ ⟨Nat.le_of_ble_eq_true rfl, Nat.le_of_ble_eq_true rfl⟩ hK hN hZ hP hD hS hA [1, 2] rfl rfl 0 rfl rfl rfl rfl hl.1 rfl (Nat.le_of_ble_eq_true rfl) dX9_wayItem_80 (fun r_324 hw_r_324 => ?_)
    rcases hw_r_324 with rfl | rfl
    · skip
      refine lv_if_eq (tgt := 105) hx hb dX9_wayItem_83 (by decide) (fun c_325 => absurd c_325 (by decide)) (fun c_325 => ?_)
      refine lv_aload_n hx hb dX9_wayItem_86 rfl (lv_at hl 4 rfl) ?_
      refine lv_iconst (v := 1) hx hb dX9_wayItem_87 (by decide) ?_
      refine xc_Vv (wr := [(ys, .inl (cI, 449, .inl ms))]) hF (c_X9_needs l D cI cJ cZ cS ta sa sv H.size h0 ys yk yo yt mk0 yfa yfe mL mS mM yro yhe ygr mF mC mY yta mz f2_314 t2_315 v2_316 w2_317 ywa ybi ysi ynu ymo tp 1 (by omega) (by omega) (by omega) (by omega) (by omega)) kv_X9_278 ⟨rfl, rfl, Nat.le_of_ble_eq_true rfl, Nat.le_of_ble_eq_true rfl⟩ ⟨Nat.le_of_ble_eq_true rfl, Nat.le_of_ble_eq_true rfl⟩ hK hN hZ hP hD hS hA [1, 2] [0] rfl rfl rfl rfl (by decide) 0 rfl rfl rfl rfl hl.1 rfl (Nat.le_of_ble_eq_true rfl) dX9_wayItem_88 (fun u_r_326 H locs hw_r_326 hP hD hS => ?_)
      obtain ⟨f2_327, t2_328, w2_329⟩ := u_r_326
      try dsimp only at hw_r_326
      obtain ⟨i_330, i_331, i_332, i_333, i_334, i_335⟩ := hw_r_326
      have hP : va_P D vwCl [(ys, .inl (cI, 449, .inl ms)), (h0, .inr (9, [.ref ys, .ref yk, .ref yo, .ref yt, .int mk0, .ref yfa, .ref yfe, .int mL, .int mS, .int mM, .ref yro, .ref yhe, .ref ygr, .int mF, .int mC, .int mY, .ref yta, .int (nI (mz)), .int (nI (f2_327)), .int (nI (t2_328)), .int v2_316, .int w2_329, .ref ywa, .ref ybi, .ref ysi, .ref ynu, .ref ymo])), (yta, .inl (cI, 120, .inl tp))] H := hP
      have hD : va_D A [(ys, .inl (cI, 449, .inl ms)), (h0, .inr (9, [.ref ys, .ref yk, .ref yo, .ref yt, .int mk0, .ref yfa, .ref yfe, .int mL, .int mS, .int mM, .ref yro, .ref yhe, .ref ygr, .int mF, .int mC, .int mY, .ref yta, .int (nI (mz)), .int (nI (f2_327)), .int (nI (t2_328)), .int v2_316, .int w2_329, .ref ywa, .ref ybi, .ref ysi, .ref ynu, .ref ymo])), (yta, .inl (cI, 120, .inl tp))] := hD
      refine lv_aload_n hx hb dX9_wayItem_91 rfl (lv_at hl 4 rfl) ?_
      refine lv_iload_n hx hb dX9_wayItem_92 rfl (lv_at hl 1 rfl) ?_
      refine lv_sipush (v := 999) hx hb dX9_wayItem_93 (by decide) ?_
      refine xc_Vv (wr := [(ys, .inl (cI, 449, .inl ms))]) hF (c_X9_mile l D cI cJ cZ cS ta sa sv H.size h0 ys yk yo yt mk0 yfa yfe mL mS mM yro yhe ygr mF mC mY yta mz f2_327 t2_328 v2_316 w2_329 ywa ybi ysi ynu ymo tp v2_316 999 (by omega) (by omega) (by omega) (by omega) (by omega)) kv_X9_287 ⟨rfl, rfl, Nat.le_of_ble_eq_true rfl, Nat.le_of_ble_eq_true rfl⟩ ⟨Nat.le_of_ble_eq_true rfl, Nat.le_of_ble_eq_true rfl⟩ hK hN hZ hP hD hS hA [1, 2] [0] rfl rfl rfl rfl (by decide) 0 rfl rfl rfl rfl hl.1 rfl (Nat.le_of_ble_eq_true rfl) dX9_wayItem_96 (fun u_r_336 H locs hw_r_336 hP hD hS => ?_)
      obtain ⟨f2_337, t2_338, v2_339, w2_340⟩ := u_r_336
      try dsimp only at hw_r_336
      obtain ⟨i_341, i_342, i_343, i_344, i_345, i_346⟩ := hw_r_336
      have hP : va_P D vwCl [(ys, .inl (cI, 449, .inl ms)), (h0, .inr (9, [.ref ys, .ref yk, .ref yo, .ref yt, .int mk0, .ref yfa, .ref yfe, .int mL, .int mS, .int mM, .ref yro, .ref yhe, .ref ygr, .int mF, .int mC, .int mY, .ref yta, .int (nI (mz)), .int (nI (f2_337)), .int (nI (t2_338)), .int v2_339, .int w2_340, .ref ywa, .ref ybi, .ref ysi, .ref ynu, .ref ymo])), (yta, .inl (cI, 120, .inl tp))] H := hP
      have hD : va_D A [(ys, .inl (cI, 449, .inl ms)), (h0, .inr (9, [.ref ys, .ref yk, .ref yo, .ref yt, .int mk0, .ref yfa, .ref yfe, .int mL, .int mS, .int mM, .ref yro, .ref yhe, .ref ygr, .int mF, .int mC, .int mY, .ref yta, .int (nI (mz)), .int (nI (f2_337)), .int (nI (t2_338)), .int v2_339, .int w2_340, .ref ywa, .ref ybi, .ref ysi, .ref ynu, .ref ymo])), (yta, .inl (cI, 120, .inl tp))] := hD
      refine lv_aload_n hx hb dX9_wayItem_99 rfl (lv_at hl 4 rfl) ?_
      refine xg hF kf_X9_275 hK hP 1 rfl rfl dX9_wayItem_100 ?_
      refine lv_istore (lv' := [(4, .int v2_339), (3, .int v2_316), (2, .int r_23), (1, .int v2_15), (0, .ref h0)]) hx hb dX9_wayItem_103 hl (by decide) rfl (fun ls hl => ?_)
      refine lv_aload_n hx hb dX9_wayItem_105 rfl (lv_at hl 4 rfl) ?_
      refine lv_bipush (v := 98) hx hb dX9_wayItem_106 (by decide) ?_
      refine lv_bipush (v := 97) hx hb dX9_wayItem_108 (by decide) ?_
      refine lv_bipush (v := 99) hx hb dX9_wayItem_110 (by decide) ?_
      refine lv_bipush (v := 107) hx hb dX9_wayItem_112 (by decide) ?_
      refine lv_iconst (v := 0) hx hb dX9_wayItem_114 (by decide) ?_
      refine lv_iconst (v := 0) hx hb dX9_wayItem_115 (by decide) ?_
      refine lv_iconst (v := 0) hx hb dX9_wayItem_116 (by decide) ?_
      refine xc_Vr hF (c_X9_isWord l D cI cJ cZ cS ta sa sv H.size h0 ys yk yo yt mk0 yfa yfe mL mS mM yro yhe ygr mF mC mY yta mz f2_337 t2_338 v2_339 w2_340 ywa ybi ysi ynu ymo tp 98 97 99 107 0 0 0 (by omega) (by omega)) kv_X9_290 ⟨rfl, rfl, Nat.le_of_ble_eq_true rfl, Nat.le_of_ble_eq_true rfl⟩ ⟨Nat.le_of_ble_eq_true rfl, Nat.le_of_ble_eq_true rfl⟩ hK hN hZ hP hD hS hA [1, 2] rfl rfl 0 rfl rfl rfl rfl hl.1 rfl (Nat.le_of_ble_eq_true rfl) dX9_wayItem_117 (fun r_347 hw_r_347 => ?_)
      rcases hw_r_347 with rfl | rfl
      · skip
        refine lv_istore (lv' := [(5, .int 1), (4, .int v2_339), (3, .int v2_316), (2, .int r_23), (1, .int v2_15), (0, .ref h0)]) hx hb dX9_wayItem_120 hl (by decide) rfl (fun ls hl => ?_)
        refine lv_iload hx hb dX9_wayItem_122 (lv_at hl 0 rfl) ?_
        refine lv_if_eq (tgt := 141) hx hb dX9_wayItem_124 (by decide) (fun c_348 => absurd c_348 (by decide)) (fun c_348 => ?_)
        refine lv_aload_n hx hb dX9_wayItem_127 rfl (lv_at hl 5 rfl) ?_
        refine lv_iconst (v := 1) hx hb dX9_wayItem_128 (by decide) ?_
        refine xc_Vv (wr := [(ys, .inl (cI, 449, .inl ms))]) hF (c_X9_needs l D cI cJ cZ cS ta sa sv H.size h0 ys yk yo yt mk0 yfa yfe mL mS mM yro yhe ygr mF mC mY yta mz f2_337 t2_338 v2_339 w2_340 ywa ybi ysi ynu ymo tp 1 (by omega) (by omega) (by omega) (by omega) (by omega)) kv_X9_278 ⟨rfl, rfl, Nat.le_of_ble_eq_true rfl, Nat.le_of_ble_eq_true rfl⟩ ⟨Nat.le_of_ble_eq_true rfl, Nat.le_of_ble_eq_true rfl⟩ hK hN hZ hP hD hS hA [1, 2] [0] rfl rfl rfl rfl (by decide) 0 rfl rfl rfl rfl hl.1 rfl (Nat.le_of_ble_eq_true rfl) dX9_wayItem_129 (fun u_r_349 H locs hw_r_349 hP hD hS => ?_)
        obtain ⟨f2_350, t2_351, w2_352⟩ := u_r_349
        try dsimp only at hw_r_349
        obtain ⟨i_353, i_354, i_355, i_356, i_357, i_358⟩ := hw_r_349
        have hP : va_P D vwCl [(ys, .inl (cI, 449, .inl ms)), (h0, .inr (9, [.ref ys, .ref yk, .ref yo, .ref yt, .int mk0, .ref yfa, .ref yfe, .int mL, .int mS, .int mM, .ref yro, .ref yhe, .ref ygr, .int mF, .int mC, .int mY, .ref yta, .int (nI (mz)), .int (nI (f2_350)), .int (nI (t2_351)), .int v2_339, .int w2_352, .ref ywa, .ref ybi, .ref ysi, .ref ynu, .ref ymo])), (yta, .inl (cI, 120, .inl tp))] H := hP
        have hD : va_D A [(ys, .inl (cI, 449, .inl ms)), (h0, .inr (9, [.ref ys, .ref yk, .ref yo, .ref yt, .int mk0, .ref yfa, .ref yfe, .int mL, .int mS, .int mM, .ref yro, .ref yhe, .ref ygr, .int mF, .int mC, .int mY, .ref yta, .int (nI (mz)), .int (nI (f2_350)), .int (nI (t2_351)), .int v2_339, .int w2_352, .ref ywa, .ref ybi, .ref ysi, .ref ynu, .ref ymo])), (yta, .inl (cI, 120, .inl tp))] := hD
        refine lv_aload_n hx hb dX9_wayItem_132 rfl (lv_at hl 5 rfl) ?_
        refine lv_bipush (v := (-99)) hx hb dX9_wayItem_133 (by decide) ?_
        refine lv_sipush (v := 999) hx hb dX9_wayItem_135 (by decide) ?_
        refine xc_Vv (wr := [(ys, .inl (cI, 449, .inl ms))]) hF (c_X9_mileE l D cI cJ cZ cS ta sa sv H.size h0 ys yk yo yt mk0 yfa yfe mL mS mM yro yhe ygr mF mC mY yta mz f2_350 t2_351 v2_339 w2_352 ywa ybi ysi ynu ymo tp (by omega) (by omega) (by omega) (by omega) (by omega)) kv_X9_287 ⟨rfl, rfl, Nat.le_of_ble_eq_true rfl, Nat.le_of_ble_eq_true rfl⟩ ⟨Nat.le_of_ble_eq_true rfl, Nat.le_of_ble_eq_true rfl⟩ hK hN hZ hP hD hS hA [1, 2] [0] rfl rfl rfl rfl (by decide) 0 rfl rfl rfl rfl hl.1 rfl (Nat.le_of_ble_eq_true rfl) dX9_wayItem_138 (fun u_r_359 H locs hw_r_359 hP hD hS => ?_)
        obtain ⟨f2_360, t2_361, v2_362, w2_363⟩ := u_r_359
        try dsimp only at hw_r_359
        obtain ⟨i_364, i_365, i_366, i_367, i_368, i_369⟩ := hw_r_359
        have hP : va_P D vwCl [(ys, .inl (cI, 449, .inl ms)), (h0, .inr (9, [.ref ys, .ref yk, .ref yo, .ref yt, .int mk0, .ref yfa, .ref yfe, .int mL, .int mS, .int mM, .ref yro, .ref yhe, .ref ygr, .int mF, .int mC, .int mY, .ref yta, .int (nI (mz)), .int (nI (f2_360)), .int (nI (t2_361)), .int v2_362, .int w2_363, .ref ywa, .ref ybi, .ref ysi, .ref ynu, .ref ymo])), (yta, .inl (cI, 120, .inl tp))] H := hP
        have hD : va_D A [(ys, .inl (cI, 449, .inl ms)), (h0, .inr (9, [.ref ys, .ref yk, .ref yo, .ref yt, .int mk0, .ref yfa, .ref yfe, .int mL, .int mS, .int mM, .ref yro, .ref yhe, .ref ygr, .int mF, .int mC, .int mY, .ref yta, .int (nI (mz)), .int (nI (f2_360)), .int (nI (t2_361)), .int v2_362, .int w2_363, .ref ywa, .ref ybi, .ref ysi, .ref ynu, .ref ymo])), (yta, .inl (cI, 120, .inl tp))] := hD
        refine lv_aload_n hx hb dX9_wayItem_141 rfl (lv_at hl 5 rfl) ?_
        refine xg hF kf_X9_266 hK hP 1 rfl rfl dX9_wayItem_142 ?_
        refine lv_if_ne (tgt := 187) hx hb dX9_wayItem_145 (by decide) (fun c_370 => ?_) (fun c_370 => absurd rfl (i_312 (i_323 (i_335 (i_346 (i_358 (i_369 c_370).1).1).1).1).1).2.1)
        exact W.vret hx hb hr (fun t ht hW => ⟨⟨(f2_360, t2_361, v2_362, w2_363, ms), rfl, ⟨(by first | assumption | omega), (by first | assumption | omega), (by first | assumption | omega), (by first | assumption | omega), (by first | assumption | omega), (fun h => ⟨(i_10 (i_22 (i_312 (i_323 (i_335 (i_346 (i_358 (i_369 h).1).1).1).1).1).1).1).1, trivial⟩), hs0, hs1, hs2, hsS, hsM, hsp, hsr, hsw, hsR⟩, by rw [ht]; exact hP.sub [1, 0, 2] rfl, hD.sub [1, 0, 2] (by decide) rfl⟩, hS.F ht⟩) hS.2.2 dX9_wayItem_187 hlk
      · skip
        refine lv_istore (lv' := [(5, .int 0), (4, .int v2_339), (3, .int v2_316), (2, .int r_23), (1, .int v2_15), (0, .ref h0)]) hx hb dX9_wayItem_120 hl (by decide) rfl (fun ls hl => ?_)
        refine lv_iload hx hb dX9_wayItem_122 (lv_at hl 0 rfl) ?_
        refine lv_if_eq (tgt := 141) hx hb dX9_wayItem_124 (by decide) (fun c_371 => ?_) (fun c_371 => absurd (by decide) c_371)
        refine lv_aload_n hx hb dX9_wayItem_141 rfl (lv_at hl 5 rfl) ?_
        refine xg hF kf_X9_266 hK hP 1 rfl rfl dX9_wayItem_142 ?_
        refine lv_if_ne (tgt := 187) hx hb dX9_wayItem_145 (by decide) (fun c_372 => ?_) (fun c_372 => absurd rfl (i_312 (i_323 (i_335 (i_346 c_372).1).1).1).2.1)
        exact W.vret hx hb hr (fun t ht hW => ⟨⟨(f2_337, t2_338, v2_339, w2_340, ms), rfl, ⟨(by first | assumption | omega), (by first | assumption | omega), (by first | assumption | omega), (by first | assumption | omega), (by first | assumption | omega), (fun h => ⟨(i_10 (i_22 (i_312 (i_323 (i_335 (i_346 h).1).1).1).1).1).1, trivial⟩), hs0, hs1, hs2, hsS, hsM, hsp, hsr, hsw, hsR⟩, by rw [ht]; exact hP.sub [1, 0, 2] rfl, hD.sub [1, 0, 2] (by decide) rfl⟩, hS.F ht⟩) hS.2.2 dX9_wayItem_187 hlk
    · skip
      refine lv_if_eq (tgt := 105) hx hb dX9_wayItem_83 (by decide) (fun c_373 => ?_) (fun c_373 => absurd (by decide) c_373)
      refine lv_aload_n hx hb dX9_wayItem_105 rfl (lv_at hl 4 rfl) ?_
      refine lv_bipush (v := 98) hx hb dX9_wayItem_106 (by decide) ?_
      refine lv_bipush (v := 97) hx hb dX9_wayItem_108 (by decide) ?_
      refine lv_bipush (v := 99) hx hb dX9_wayItem_110 (by decide) ?_
      refine lv_bipush (v := 107) hx hb dX9_wayItem_112 (by decide) ?_
      refine lv_iconst (v := 0) hx hb dX9_wayItem_114 (by decide) ?_
      refine lv_iconst (v := 0) hx hb dX9_wayItem_115 (by decide) ?_
      refine lv_iconst (v := 0) hx hb dX9_wayItem_116 (by decide) ?_
      refine xc_Vr hF (c_X9_isWord l D cI cJ cZ cS ta sa sv H.size h0 ys yk yo yt mk0 yfa yfe mL mS mM yro yhe ygr mF mC mY yta mz f2_314 t2_315 v2_316 w2_317 ywa ybi ysi ynu ymo tp 98 97 99 107 0 0 0 (by omega) (by omega)) kv_X9_290 ⟨rfl, rfl, Nat.le_of_ble_eq_true rfl, Nat.le_of_ble_eq_true rfl⟩ ⟨Nat.le_of_ble_eq_true rfl, Nat.le_of_ble_eq_true rfl⟩ hK hN hZ hP hD hS hA [1, 2] rfl rfl 0 rfl rfl rfl rfl hl.1 rfl (Nat.le_of_ble_eq_true rfl) dX9_wayItem_117 (fun r_374 hw_r_374 => ?_)
      rcases hw_r_374 with rfl | rfl
      · skip
        refine lv_istore (lv' := [(5, .int 1), (4, .int v2_316), (3, .int v2_316), (2, .int r_23), (1, .int v2_15), (0, .ref h0)]) hx hb dX9_wayItem_120 hl (by decide) rfl (fun ls hl => ?_)
        refine lv_iload hx hb dX9_wayItem_122 (lv_at hl 0 rfl) ?_
        refine lv_if_eq (tgt := 141) hx hb dX9_wayItem_124 (by decide) (fun c_375 => absurd c_375 (by decide)) (fun c_375 => ?_)
        refine lv_aload_n hx hb dX9_wayItem_127 rfl (lv_at hl 5 rfl) ?_
        refine lv_iconst (v := 1) hx hb dX9_wayItem_128 (by decide) ?_
        refine xc_Vv (wr := [(ys, .inl (cI, 449, .inl ms))]) hF (c_X9_needs l D cI cJ cZ cS ta sa sv H.size h0 ys yk yo yt mk0 yfa yfe mL mS mM yro yhe ygr mF mC mY yta mz f2_314 t2_315 v2_316 w2_317 ywa ybi ysi ynu ymo tp 1 (by omega) (by omega) (by omega) (by omega) (by omega)) kv_X9_278 ⟨rfl, rfl, Nat.le_of_ble_eq_true rfl, Nat.le_of_ble_eq_true rfl⟩ ⟨Nat.le_of_ble_eq_true rfl, Nat.le_of_ble_eq_true rfl⟩ hK hN hZ hP hD hS hA [1, 2] [0] rfl rfl rfl rfl (by decide) 0 rfl rfl rfl rfl hl.1 rfl (Nat.le_of_ble_eq_true rfl) dX9_wayItem_129 (fun u_r_376 H locs hw_r_376 hP hD hS => ?_)
        obtain ⟨f2_377, t2_378, w2_379⟩ := u_r_376
        try dsimp only at hw_r_376
        obtain ⟨i_380, i_381, i_382, i_383, i_384, i_385⟩ := hw_r_376
        have hP : va_P D vwCl [(ys, .inl (cI, 449, .inl ms)), (h0, .inr (9, [.ref ys, .ref yk, .ref yo, .ref yt, .int mk0, .ref yfa, .ref yfe, .int mL, .int mS, .int mM, .ref yro, .ref yhe, .ref ygr, .int mF, .int mC, .int mY, .ref yta, .int (nI (mz)), .int (nI (f2_377)), .int (nI (t2_378)), .int v2_316, .int w2_379, .ref ywa, .ref ybi, .ref ysi, .ref ynu, .ref ymo])), (yta, .inl (cI, 120, .inl tp))] H := hP
        have hD : va_D A [(ys, .inl (cI, 449, .inl ms)), (h0, .inr (9, [.ref ys, .ref yk, .ref yo, .ref yt, .int mk0, .ref yfa, .ref yfe, .int mL, .int mS, .int mM, .ref yro, .ref yhe, .ref ygr, .int mF, .int mC, .int mY, .ref yta, .int (nI (mz)), .int (nI (f2_377)), .int (nI (t2_378)), .int v2_316, .int w2_379, .ref ywa, .ref ybi, .ref ysi, .ref ynu, .ref ymo])), (yta, .inl (cI, 120, .inl tp))] := hD
        refine lv_aload_n hx hb dX9_wayItem_132 rfl (lv_at hl 5 rfl) ?_
        refine lv_bipush (v := (-99)) hx hb dX9_wayItem_133 (by decide) ?_
        refine lv_sipush (v := 999) hx hb dX9_wayItem_135 (by decide) ?_
        refine xc_Vv (wr := [(ys, .inl (cI, 449, .inl ms))]) hF (c_X9_mileE l D cI cJ cZ cS ta sa sv H.size h0 ys yk yo yt mk0 yfa yfe mL mS mM yro yhe ygr mF mC mY yta mz f2_377 t2_378 v2_316 w2_379 ywa ybi ysi ynu ymo tp (by omega) (by omega) (by omega) (by omega) (by omega)) kv_X9_287 ⟨rfl, rfl, Nat.le_of_ble_eq_true rfl, Nat.le_of_ble_eq_true rfl⟩ ⟨Nat.le_of_ble_eq_true rfl, Nat.le_of_ble_eq_true rfl⟩ hK hN hZ hP hD hS hA [1, 2] [0] rfl rfl rfl rfl (by decide) 0 rfl rfl rfl rfl hl.1 rfl (Nat.le_of_ble_eq_true rfl) dX9_wayItem_138 (fun u_r_386 H locs hw_r_386 hP hD hS => ?_)
        obtain ⟨f2_387, t2_388, v2_389, w2_390⟩ := u_r_386
        try dsimp only at hw_r_386
        obtain ⟨i_391, i_392, i_393, i_394, i_395, i_396⟩ := hw_r_386
        have hP : va_P D vwCl [(ys, .inl (cI, 449, .inl ms)), (h0, .inr (9, [.ref ys, .ref yk, .ref yo, .ref yt, .int mk0, .ref yfa, .ref yfe, .int mL, .int mS, .int mM, .ref yro, .ref yhe, .ref ygr, .int mF, .int mC, .int mY, .ref yta, .int (nI (mz)), .int (nI (f2_387)), .int (nI (t2_388)), .int v2_389, .int w2_390, .ref ywa, .ref ybi, .ref ysi, .ref ynu, .ref ymo])), (yta, .inl (cI, 120, .inl tp))] H := hP
        have hD : va_D A [(ys, .inl (cI, 449, .inl ms)), (h0, .inr (9, [.ref ys, .ref yk, .ref yo, .ref yt, .int mk0, .ref yfa, .ref yfe, .int mL, .int mS, .int mM, .ref yro, .ref yhe, .ref ygr, .int mF, .int mC, .int mY, .ref yta, .int (nI (mz)), .int (nI (f2_387)), .int (nI (t2_388)), .int v2_389, .int w2_390, .ref ywa, .ref ybi, .ref ysi, .ref ynu, .ref ymo])), (yta, .inl (cI, 120, .inl tp))] := hD
        refine lv_aload_n hx hb dX9_wayItem_141 rfl (lv_at hl 5 rfl) ?_
        refine xg hF kf_X9_266 hK hP 1 rfl rfl dX9_wayItem_142 ?_
        refine lv_if_ne (tgt := 187) hx hb dX9_wayItem_145 (by decide) (fun c_397 => ?_) (fun c_397 => absurd rfl (i_312 (i_323 (i_385 (i_396 c_397).1).1).1).2.1)
        exact W.vret hx hb hr (fun t ht hW => ⟨⟨(f2_387, t2_388, v2_389, w2_390, ms), rfl, ⟨(by first | assumption | omega), (by first | assumption | omega), (by first | assumption | omega), (by first | assumption | omega), (by first | assumption | omega), (fun h => ⟨(i_10 (i_22 (i_312 (i_323 (i_385 (i_396 h).1).1).1).1).1).1, trivial⟩), hs0, hs1, hs2, hsS, hsM, hsp, hsr, hsw, hsR⟩, by rw [ht]; exact hP.sub [1, 0, 2] rfl, hD.sub [1, 0, 2] (by decide) rfl⟩, hS.F ht⟩) hS.2.2 dX9_wayItem_187 hlk
      · skip
        refine lv_istore (lv' := [(5, .int 0), (4, .int v2_316), (3, .int v2_316), (2, .int r_23), (1, .int v2_15), (0, .ref h0)]) hx hb dX9_wayItem_120 hl (by decide) rfl (fun ls hl => ?_)
        refine lv_iload hx hb dX9_wayItem_122 (lv_at hl 0 rfl) ?_
        refine lv_if_eq (tgt := 141) hx hb dX9_wayItem_124 (by decide) (fun c_398 => ?_) (fun c_398 => absurd (by decide) c_398)
        refine lv_aload_n hx hb dX9_wayItem_141 rfl (lv_at hl 5 rfl) ?_
        refine xg hF kf_X9_266 hK hP 1 rfl rfl dX9_wayItem_142 ?_
        refine lv_if_ne (tgt := 187) hx hb dX9_wayItem_145 (by decide) (fun c_399 => ?_) (fun c_399 => absurd rfl (i_312 (i_323 c_399).1).2.1)
        exact W.vret hx hb hr (fun t ht hW => ⟨⟨(f2_314, t2_315, v2_316, w2_317, ms), rfl, ⟨(by first | assumption | omega), (by first | assumption | omega), (by first | assumption | omega), (by first | assumption | omega), (by first | assumption | omega), (fun h => ⟨(i_10 (i_22 (i_312 (i_323 h).1).1).1).1, trivial⟩), hs0, hs1, hs2, hsS, hsM, hsp, hsr, hsw, hsR⟩, by rw [ht]; exact hP.sub [1, 0, 2] rfl, hD.sub [1, 0, 2] (by decide) rfl⟩, hS.F ht⟩) hS.2.2 dX9_wayItem_187 hlk
set_option maxHeartbeats 4000000 in
set_option maxRecDepth 100000 in
theorem c_X9_walkItem (l : Launch) (D : va_G) (cI cJ cZ cS : ClassId) (ta : Nat) (sa sv : Nat → Nat) (sz : Nat) (h0 : Nat) (ys : Nat) (yk : Nat) (yo : Nat) (yt : Nat) (mk0 : Int32) (yfa : Nat) (yfe : Nat) (mL : Int32) (mS : Int32) (mM : Int32) (yro : Nat) (yhe : Nat) (ygr : Nat) (mF : Int32) (mC : Int32) (mY : Int32) (yta : Nat) (mz : Nat) (mf : Nat) (mt : Nat) (mv : Int32) (mw : Int32) (ywa : Nat) (ybi : Nat) (ysi : Nat) (ynu : Nat) (ymo : Nat) (ms : Nat → Int32) (tp : Nat → Int32) (wa : Nat → Int32) (P : Nat) (Rn : Nat) (Wn : Nat) (hz : mz ≤ 120) (k1 : mf ≤ mz) (k2 : mt ≤ mz) (k3 : mf ≤ mt) (k4 : mf < mt ∨ mf = mz) (hs0 : ms 0 = nI P) (hs1 : ms 1 = nI Rn) (hs2 : ms 2 = nI Wn) (hsS : SI ms) (hsM : MI ms) (hsp : P ≤ 10) (hsr : Rn ≤ 8) (hsw : Wn ≤ 8) (hsR : RI Rn ms) : Met l yX9_walkItem (Cond.code yX9_walkItem cX9_walkItem 6 none :: wsU) ({ frames := 6, cells := 0, slots := 0, locals := 136 }) (va_Pc [.ref h0] (XW D (xT cI cJ cZ cS) ta sa sv [(h0, .inr (9, [.ref ys, .ref yk, .ref yo, .ref yt, .int mk0, .ref yfa, .ref yfe, .int mL, .int mS, .int mM, .ref yro, .ref yhe, .ref ygr, .int mF, .int mC, .int mY, .ref yta, .int (nI (mz)), .int (nI (mf)), .int (nI (mt)), .int mv, .int mw, .ref ywa, .ref ybi, .ref ysi, .ref ynu, .ref ymo])), (ys, .inl (cI, 449, .inl ms)), (yta, .inl (cI, 120, .inl tp)), (ywa, .inl (cI, 6, .inl wa))] sz)) (XQv (fun (u : Nat × Nat × Int32 × Int32 × (Nat → Int32) × (Nat → Int32) × Nat) => match u with | (f2, t2, v2, w2, ms2, wa2, W2) => (f2 ≤ mz) ∧ (t2 ≤ mz) ∧ (f2 ≤ t2) ∧ (f2 < t2 ∨ f2 = mz) ∧ (mf ≤ f2) ∧ (w2 = 0 → mw = 0 ∧ True) ∧ (ms2 0 = nI P) ∧ (ms2 1 = nI Rn) ∧ (ms2 2 = nI W2) ∧ (SI ms2) ∧ (MI ms2) ∧ (P ≤ 10) ∧ (Rn ≤ 8) ∧ (W2 ≤ 8) ∧ (RI Rn ms2)) D (fun (u : Nat × Nat × Int32 × Int32 × (Nat → Int32) × (Nat → Int32) × Nat) => match u with | (f2, t2, v2, w2, ms2, wa2, W2) => [(h0, .inr (9, [.ref ys, .ref yk, .ref yo, .ref yt, .int mk0, .ref yfa, .ref yfe, .int mL, .int mS, .int mM, .ref yro, .ref yhe, .ref ygr, .int mF, .int mC, .int mY, .ref yta, .int (nI (mz)), .int (nI (f2)), .int (nI (t2)), .int v2, .int w2, .ref ywa, .ref ybi, .ref ysi, .ref ynu, .ref ymo])), (ys, .inl (cI, 449, .inl ms2)), (yta, .inl (cI, 120, .inl tp)), (ywa, .inl (cI, 6, .inl wa2))]) (va_A [(h0, .inr (9, [.ref ys, .ref yk, .ref yo, .ref yt, .int mk0, .ref yfa, .ref yfe, .int mL, .int mS, .int mM, .ref yro, .ref yhe, .ref ygr, .int mF, .int mC, .int mY, .ref yta, .int (nI (mz)), .int (nI (mf)), .int (nI (mt)), .int mv, .int mw, .ref ywa, .ref ybi, .ref ysi, .ref ynu, .ref ymo])), (ys, .inl (cI, 449, .inl ms)), (yta, .inl (cI, 120, .inl tp)), (ywa, .inl (cI, 6, .inl wa))] sz)) 0 0 (va_A [(h0, .inr (9, [.ref ys, .ref yk, .ref yo, .ref yt, .int mk0, .ref yfa, .ref yfe, .int mL, .int mS, .int mM, .ref yro, .ref yhe, .ref ygr, .int mF, .int mC, .int mY, .ref yta, .int (nI (mz)), .int (nI (mf)), .int (nI (mt)), .int mv, .int mw, .ref ywa, .ref ybi, .ref ysi, .ref ynu, .ref ymo])), (ys, .inl (cI, 449, .inl ms)), (yta, .inl (cI, 120, .inl tp)), (ywa, .inl (cI, 6, .inl wa))] sz) := by
  refine xh (QA := fun A => XQv (fun (u : Nat × Nat × Int32 × Int32 × (Nat → Int32) × (Nat → Int32) × Nat) => match u with | (f2, t2, v2, w2, ms2, wa2, W2) => (f2 ≤ mz) ∧ (t2 ≤ mz) ∧ (f2 ≤ t2) ∧ (f2 < t2 ∨ f2 = mz) ∧ (mf ≤ f2) ∧ (w2 = 0 → mw = 0 ∧ True) ∧ (ms2 0 = nI P) ∧ (ms2 1 = nI Rn) ∧ (ms2 2 = nI W2) ∧ (SI ms2) ∧ (MI ms2) ∧ (P ≤ 10) ∧ (Rn ≤ 8) ∧ (W2 ≤ 8) ∧ (RI Rn ms2)) D (fun (u : Nat × Nat × Int32 × Int32 × (Nat → Int32) × (Nat → Int32) × Nat) => match u with | (f2, t2, v2, w2, ms2, wa2, W2) => [(h0, .inr (9, [.ref ys, .ref yk, .ref yo, .ref yt, .int mk0, .ref yfa, .ref yfe, .int mL, .int mS, .int mM, .ref yro, .ref yhe, .ref ygr, .int mF, .int mC, .int mY, .ref yta, .int (nI (mz)), .int (nI (f2)), .int (nI (t2)), .int v2, .int w2, .ref ywa, .ref ybi, .ref ysi, .ref ynu, .ref ymo])), (ys, .inl (cI, 449, .inl ms2)), (yta, .inl (cI, 120, .inl tp)), (ywa, .inl (cI, 6, .inl wa2))]) A) (fr := fun A => A) (by decide) (Nat.le_of_ble_eq_true rfl) ?_
  intro p e s m below meth c ls A hF hr hlk hin hsz hP hK hD hN hZ hA hS hl
  have hF : CallFix p m c cX9_walkItem 6 s _ _ RX9 := hF
  have hx := hF.1
  have hb := hF.2.1
  have hml := hF.2.2.1
  have hown := hF.2.2.2.1
  have hu : ∀ w ∈ wsU, w.before _ s = true := fun w h => hF.2.2.2.2 w (List.mem_cons_of_mem _ h)
  have hl : lv_has ls 6 [(0, .ref h0)] := hl
  refine lv_aload_n hx hb dX9_walkItem_0 rfl (lv_at hl 0 rfl) ?_
  refine lv_aload_n hx hb dX9_walkItem_1 rfl (lv_at hl 0 rfl) ?_
  refine xg hF kf_X9_7 hK hP 0 rfl rfl dX9_walkItem_2 ?_
  refine lv_iconst (v := 2) hx hb dX9_walkItem_5 (by decide) ?_
  refine va_iald hx hb hK hP 1 0 rfl rfl (xin 2 449 (by decide) (by decide)) dX9_walkItem_6 ?_
  refine xl_i (y := nI (Wn)) hs2 ?_
  refine lv_bipush (v := 8) hx hb dX9_walkItem_7 (by decide) ?_
  refine lv_icmp_ge (tgt := 16) hx hb dX9_walkItem_9 (by decide) (fun c_1 => ?_) (fun c_1 => ?_)
  · skip
    have nc_1 : 8 ≤ Wn := xn_le (a := 8) (b := Wn) (by omega) (by omega) c_1
    refine lv_iconst (v := 0) hx hb dX9_walkItem_16 (by decide) ?_
    refine xc_Vv (wr := [(ys, .inl (cI, 449, .inl ms)), (ywa, .inl (cI, 6, .inl wa))]) hF (c_X9_needs l D cI cJ cZ cS ta sa sv s.heap.size h0 ys yk yo yt mk0 yfa yfe mL mS mM yro yhe ygr mF mC mY yta mz mf mt mv mw ywa ybi ysi ynu ymo tp 0 (by omega) (by omega) (by omega) (by omega) (by omega)) kv_X9_278 ⟨rfl, rfl, Nat.le_of_ble_eq_true rfl, Nat.le_of_ble_eq_true rfl⟩ ⟨Nat.le_of_ble_eq_true rfl, Nat.le_of_ble_eq_true rfl⟩ hK hN hZ hP hD hS hA [0, 2] [1, 3] rfl rfl rfl rfl (by decide) 0 rfl rfl rfl rfl hl.1 rfl (Nat.le_of_ble_eq_true rfl) dX9_walkItem_17 (fun u_r_2 H locs hw_r_2 hP hD hS => ?_)
    obtain ⟨f2_3, t2_4, w2_5⟩ := u_r_2
    try dsimp only at hw_r_2
    obtain ⟨i_6, i_7, i_8, i_9, i_10, i_11⟩ := hw_r_2
    have hP : va_P D vwCl [(ys, .inl (cI, 449, .inl ms)), (ywa, .inl (cI, 6, .inl wa)), (h0, .inr (9, [.ref ys, .ref yk, .ref yo, .ref yt, .int mk0, .ref yfa, .ref yfe, .int mL, .int mS, .int mM, .ref yro, .ref yhe, .ref ygr, .int mF, .int mC, .int mY, .ref yta, .int (nI (mz)), .int (nI (f2_3)), .int (nI (t2_4)), .int mv, .int w2_5, .ref ywa, .ref ybi, .ref ysi, .ref ynu, .ref ymo])), (yta, .inl (cI, 120, .inl tp))] H := hP
    have hD : va_D A [(ys, .inl (cI, 449, .inl ms)), (ywa, .inl (cI, 6, .inl wa)), (h0, .inr (9, [.ref ys, .ref yk, .ref yo, .ref yt, .int mk0, .ref yfa, .ref yfe, .int mL, .int mS, .int mM, .ref yro, .ref yhe, .ref ygr, .int mF, .int mC, .int mY, .ref yta, .int (nI (mz)), .int (nI (f2_3)), .int (nI (t2_4)), .int mv, .int w2_5, .ref ywa, .ref ybi, .ref ysi, .ref ynu, .ref ymo])), (yta, .inl (cI, 120, .inl tp))] := hD
    refine lv_iconst (v := 0) hx hb dX9_walkItem_20 (by decide) ?_
    refine lv_istore_n (lv' := [(1, .int 0), (0, .ref h0)]) hx hb dX9_walkItem_21 rfl hl (by decide) rfl (fun ls hl => ?_)
    suffices loop_22 : ∀ (n_22 : Nat) (n8 : Nat) (f8 : Nat) (t8 : Nat) (w8 : Int32) (a8 : Nat → Int32) (H : Heap) (locs : List Loc) (ls : Array Slot), 6 - n8 < n_22 → (n8 ≤ 6) → (f8 ≤ mz) → (t8 ≤ mz) → (f8 ≤ t8) → (f8 < t8 ∨ f8 = mz) → (mf ≤ f8) → (w8 = 0 → w2_5 = 0 ∧ True) → (wk_A n8 w8 a8) → va_P D vwCl [(ys, .inl (cI, 449, .inl ms)), (ywa, .inl (cI, 6, .inl a8)), (h0, .inr (9, [.ref ys, .ref yk, .ref yo, .ref yt, .int mk0, .ref yfa, .ref yfe, .int mL, .int mS, .int mM, .ref yro, .ref yhe, .ref ygr, .int mF, .int mC, .int mY, .ref yta, .int (nI (mz)), .int (nI (f8)), .int (nI (t8)), .int mv, .int w8, .ref ywa, .ref ybi, .ref ysi, .ref ynu, .ref ymo])), (yta, .inl (cI, 120, .inl tp))] H → va_D A [(ys, .inl (cI, 449, .inl ms)), (ywa, .inl (cI, 6, .inl a8)), (h0, .inr (9, [.ref ys, .ref yk, .ref yo, .ref yt, .int mk0, .ref yfa, .ref yfe, .int mL, .int mS, .int mM, .ref yro, .ref yhe, .ref ygr, .int mF, .int mC, .int mY, .ref yta, .int (nI (mz)), .int (nI (f8)), .int (nI (t8)), .int mv, .int w8, .ref ywa, .ref ybi, .ref ysi, .ref ynu, .ref ymo])), (yta, .inl (cI, 120, .inl tp))] → va_S A s.heap H locs → lv_has ls 6 [(1, .int (nI (n8))), (0, .ref h0)] → W p l e ({ frames := 6, cells := 0, slots := 0, locals := 136 }) s m ([.ref h0] : List Value).toArray below meth c H locs 0 0 (MQ below (XQv (fun (u : Nat × Nat × Int32 × Int32 × (Nat → Int32) × (Nat → Int32) × Nat) => match u with | (f2, t2, v2, w2, ms2, wa2, W2) => (f2 ≤ mz) ∧ (t2 ≤ mz) ∧ (f2 ≤ t2) ∧ (f2 < t2 ∨ f2 = mz) ∧ (mf ≤ f2) ∧ (w2 = 0 → mw = 0 ∧ True) ∧ (ms2 0 = nI P) ∧ (ms2 1 = nI Rn) ∧ (ms2 2 = nI W2) ∧ (SI ms2) ∧ (MI ms2) ∧ (P ≤ 10) ∧ (Rn ≤ 8) ∧ (W2 ≤ 8) ∧ (RI Rn ms2)) D (fun (u : Nat × Nat × Int32 × Int32 × (Nat → Int32) × (Nat → Int32) × Nat) => match u with | (f2, t2, v2, w2, ms2, wa2, W2) => [(h0, .inr (9, [.ref ys, .ref yk, .ref yo, .ref yt, .int mk0, .ref yfa, .ref yfe, .int mL, .int mS, .int mM, .ref yro, .ref yhe, .ref ygr, .int mF, .int mC, .int mY, .ref yta, .int (nI (mz)), .int (nI (f2)), .int (nI (t2)), .int v2, .int w2, .ref ywa, .ref ybi, .ref ysi, .ref ynu, .ref ymo])), (ys, .inl (cI, 449, .inl ms2)), (yta, .inl (cI, 120, .inl tp)), (ywa, .inl (cI, 6, .inl wa2))]) A) ([.ref h0] : List Value).toArray s 0 0 A) (F0 m 22 ls []) by
      exact loop_22 _ 0 f2_3 t2_4 w2_5 wa _ _ _ (Nat.lt_succ_self _) (by omega) (by omega) (by omega) (by omega) (by omega) (by omega) (fun h => ⟨h, trivial⟩) wk_A.zero hP hD hS (lv_sub hl [0, 1] rfl)
    intro n_22
    induction n_22 with
    | zero =>
      intro n8 f8 t8 w8 a8 H locs ls hm_22
      exact absurd hm_22 (Nat.not_lt_zero _)
    | succ n_22 ih_22 =>
      intro n8 f8 t8 w8 a8 H locs ls hm_22 hn8 hf81 hf82 hf83 hf84 hf85 hc8 hA8 hP hD hS hl
      refine lv_aload_n hx hb dX9_walkItem_22 rfl (lv_at hl 1 rfl) ?_
      refine xg hF kf_X9_266 hK hP 2 rfl rfl dX9_walkItem_23 ?_
      refine lv_if_ne (tgt := 105) hx hb dX9_walkItem_26 (by decide) (fun c_12 => ?_) (fun c_12 => ?_)
      · skip
        refine lv_aload_n hx hb dX9_walkItem_105 rfl (lv_at hl 1 rfl) ?_
        refine lv_aload_n hx hb dX9_walkItem_106 rfl (lv_at hl 1 rfl) ?_
        refine lv_bipush (v := 97) hx hb dX9_walkItem_107 (by decide) ?_
        refine lv_bipush (v := 108) hx hb dX9_walkItem_109 (by decide) ?_
        refine lv_bipush (v := 108) hx hb dX9_walkItem_111 (by decide) ?_
        refine lv_iconst (v := 0) hx hb dX9_walkItem_113 (by decide) ?_
        refine lv_iconst (v := 0) hx hb dX9_walkItem_114 (by decide) ?_
        refine lv_iconst (v := 0) hx hb dX9_walkItem_115 (by decide) ?_
        refine lv_iconst (v := 0) hx hb dX9_walkItem_116 (by decide) ?_
        refine xc_Vr hF (c_X9_isWord l D cI cJ cZ cS ta sa sv H.size h0 ys yk yo yt mk0 yfa yfe mL mS mM yro yhe ygr mF mC mY yta mz f8 t8 mv w8 ywa ybi ysi ynu ymo tp 97 108 108 0 0 0 0 (by omega) (by omega)) kv_X9_290 ⟨rfl, rfl, Nat.le_of_ble_eq_true rfl, Nat.le_of_ble_eq_true rfl⟩ ⟨Nat.le_of_ble_eq_true rfl, Nat.le_of_ble_eq_true rfl⟩ hK hN hZ hP hD hS hA [2, 3] rfl rfl 0 rfl rfl rfl rfl hl.1 rfl (Nat.le_of_ble_eq_true rfl) dX9_walkItem_117 (fun r_13 hw_r_13 => ?_)
        rcases hw_r_13 with rfl | rfl
        · skip
          refine xc_Vv (wr := [(ys, .inl (cI, 449, .inl ms)), (ywa, .inl (cI, 6, .inl a8))]) hF (c_X9_needs l D cI cJ cZ cS ta sa sv H.size h0 ys yk yo yt mk0 yfa yfe mL mS mM yro yhe ygr mF mC mY yta mz f8 t8 mv w8 ywa ybi ysi ynu ymo tp 1 (by omega) (by omega) (by omega) (by omega) (by omega)) kv_X9_278 ⟨rfl, rfl, Nat.le_of_ble_eq_true rfl, Nat.le_of_ble_eq_true rfl⟩ ⟨Nat.le_of_ble_eq_true rfl, Nat.le_of_ble_eq_true rfl⟩ hK hN hZ hP hD hS hA [2, 3] [0, 1] rfl rfl rfl rfl (by decide) 0 rfl rfl rfl rfl hl.1 rfl (Nat.le_of_ble_eq_true rfl) dX9_walkItem_120 (fun u_r_14 H locs hw_r_14 hP hD hS => ?_)
          obtain ⟨f2_15, t2_16, w2_17⟩ := u_r_14
          try dsimp only at hw_r_14
          obtain ⟨i_18, i_19, i_20, i_21, i_22, i_23⟩ := hw_r_14
          have hP : va_P D vwCl [(ys, .inl (cI, 449, .inl ms)), (ywa, .inl (cI, 6, .inl a8)), (h0, .inr (9, [.ref ys, .ref yk, .ref yo, .ref yt, .int mk0, .ref yfa, .ref yfe, .int mL, .int mS, .int mM, .ref yro, .ref yhe, .ref ygr, .int mF, .int mC, .int mY, .ref yta, .int (nI (mz)), .int (nI (f2_15)), .int (nI (t2_16)), .int mv, .int w2_17, .ref ywa, .ref ybi, .ref ysi, .ref ynu, .ref ymo])), (yta, .inl (cI, 120, .inl tp))] H := hP
          have hD : va_D A [(ys, .inl (cI, 449, .inl ms)), (ywa, .inl (cI, 6, .inl a8)), (h0, .inr (9, [.ref ys, .ref yk, .ref yo, .ref yt, .int mk0, .ref yfa, .ref yfe, .int mL, .int mS, .int mM, .ref yro, .ref yhe, .ref ygr, .int mF, .int mC, .int mY, .ref yta, .int (nI (mz)), .int (nI (f2_15)), .int (nI (t2_16)), .int mv, .int w2_17, .ref ywa, .ref ybi, .ref ysi, .ref ynu, .ref ymo])), (yta, .inl (cI, 120, .inl tp))] := hD
          refine lv_aload_n hx hb dX9_walkItem_123 rfl (lv_at hl 1 rfl) ?_
          refine lv_sipush (v := (-9999)) hx hb dX9_walkItem_124 (by decide) ?_
          refine lv_sipush (v := 9999) hx hb dX9_walkItem_127 (by decide) ?_
          refine xc_Vv (wr := [(ys, .inl (cI, 449, .inl ms)), (ywa, .inl (cI, 6, .inl a8))]) hF (c_X9_mile l D cI cJ cZ cS ta sa sv H.size h0 ys yk yo yt mk0 yfa yfe mL mS mM yro yhe ygr mF mC mY yta mz f2_15 t2_16 mv w2_17 ywa ybi ysi ynu ymo tp (-9999) 9999 (by omega) (by omega) (by omega) (by omega) (by omega)) kv_X9_287 ⟨rfl, rfl, Nat.le_of_ble_eq_true rfl, Nat.le_of_ble_eq_true rfl⟩ ⟨Nat.le_of_ble_eq_true rfl, Nat.le_of_ble_eq_true rfl⟩ hK hN hZ hP hD hS hA [2, 3] [0, 1] rfl rfl rfl rfl (by decide) 0 rfl rfl rfl rfl hl.1 rfl (Nat.le_of_ble_eq_true rfl) dX9_walkItem_130 (fun u_r_24 H locs hw_r_24 hP hD hS => ?_)
          obtain ⟨f2_25, t2_26, v2_27, w2_28⟩ := u_r_24
          try dsimp only at hw_r_24
          obtain ⟨i_29, i_30, i_31, i_32, i_33, i_34⟩ := hw_r_24
          have hP : va_P D vwCl [(ys, .inl (cI, 449, .inl ms)), (ywa, .inl (cI, 6, .inl a8)), (h0, .inr (9, [.ref ys, .ref yk, .ref yo, .ref yt, .int mk0, .ref yfa, .ref yfe, .int mL, .int mS, .int mM, .ref yro, .ref yhe, .ref ygr, .int mF, .int mC, .int mY, .ref yta, .int (nI (mz)), .int (nI (f2_25)), .int (nI (t2_26)), .int v2_27, .int w2_28, .ref ywa, .ref ybi, .ref ysi, .ref ynu, .ref ymo])), (yta, .inl (cI, 120, .inl tp))] H := hP
          have hD : va_D A [(ys, .inl (cI, 449, .inl ms)), (ywa, .inl (cI, 6, .inl a8)), (h0, .inr (9, [.ref ys, .ref yk, .ref yo, .ref yt, .int mk0, .ref yfa, .ref yfe, .int mL, .int mS, .int mM, .ref yro, .ref yhe, .ref ygr, .int mF, .int mC, .int mY, .ref yta, .int (nI (mz)), .int (nI (f2_25)), .int (nI (t2_26)), .int v2_27, .int w2_28, .ref ywa, .ref ybi, .ref ysi, .ref ynu, .ref ymo])), (yta, .inl (cI, 120, .inl tp))] := hD
          refine lv_aload_n hx hb dX9_walkItem_133 rfl (lv_at hl 1 rfl) ?_
          refine xg hF kf_X9_275 hK hP 2 rfl rfl dX9_walkItem_134 ?_
          refine lv_istore_n (lv' := [(2, .int v2_27), (1, .int (nI (n8))), (0, .ref h0)]) hx hb dX9_walkItem_137 rfl hl (by decide) rfl (fun ls hl => ?_)
          refine lv_iconst (v := 0) hx hb dX9_walkItem_138 (by decide) ?_
          refine lv_istore_n (lv' := [(3, .int 0), (2, .int v2_27), (1, .int (nI (n8))), (0, .ref h0)]) hx hb dX9_walkItem_139 rfl hl (by decide) rfl (fun ls hl => ?_)
          refine lv_aload_n hx hb dX9_walkItem_140 rfl (lv_at hl 3 rfl) ?_
          refine lv_bipush (v := 115) hx hb dX9_walkItem_141 (by decide) ?_
          refine lv_bipush (v := 108) hx hb dX9_walkItem_143 (by decide) ?_
          refine lv_bipush (v := 97) hx hb dX9_walkItem_145 (by decide) ?_
          refine lv_bipush (v := 99) hx hb dX9_walkItem_147 (by decide) ?_
          refine lv_bipush (v := 107) hx hb dX9_walkItem_149 (by decide) ?_
          refine lv_iconst (v := 0) hx hb dX9_walkItem_151 (by decide) ?_
          refine lv_iconst (v := 0) hx hb dX9_walkItem_152 (by decide) ?_
          refine xc_Vr hF (c_X9_isWord l D cI cJ cZ cS ta sa sv H.size h0 ys yk yo yt mk0 yfa yfe mL mS mM yro yhe ygr mF mC mY yta mz f2_25 t2_26 v2_27 w2_28 ywa ybi ysi ynu ymo tp 115 108 97 99 107 0 0 (by omega) (by omega)) kv_X9_290 ⟨rfl, rfl, Nat.le_of_ble_eq_true rfl, Nat.le_of_ble_eq_true rfl⟩ ⟨Nat.le_of_ble_eq_true rfl, Nat.le_of_ble_eq_true rfl⟩ hK hN hZ hP hD hS hA [2, 3] rfl rfl 0 rfl rfl rfl rfl hl.1 rfl (Nat.le_of_ble_eq_true rfl) dX9_walkItem_153 (fun r_35 hw_r_35 => ?_)
          rcases hw_r_35 with rfl | rfl
          · skip
            refine lv_if_eq (tgt := 176) hx hb dX9_walkItem_156 (by decide) (fun c_36 => absurd c_36 (by decide)) (fun c_36 => ?_)
            refine lv_aload_n hx hb dX9_walkItem_159 rfl (lv_at hl 3 rfl) ?_
            refine lv_iconst (v := 1) hx hb dX9_walkItem_160 (by decide) ?_
            refine xc_Vv (wr := [(ys, .inl (cI, 449, .inl ms)), (ywa, .inl (cI, 6, .inl a8))]) hF (c_X9_needs l D cI cJ cZ cS ta sa sv H.size h0 ys yk yo yt mk0 yfa yfe mL mS mM yro yhe ygr mF mC mY yta mz f2_25 t2_26 v2_27 w2_28 ywa ybi ysi ynu ymo tp 1 (by omega) (by omega) (by omega) (by omega) (by omega)) kv_X9_278 ⟨rfl, rfl, Nat.le_of_ble_eq_true rfl, Nat.le_of_ble_eq_true rfl⟩ ⟨Nat.le_of_ble_eq_true rfl, Nat.le_of_ble_eq_true rfl⟩ hK hN hZ hP hD hS hA [2, 3] [0, 1] rfl rfl rfl rfl (by decide) 0 rfl rfl rfl rfl hl.1 rfl (Nat.le_of_ble_eq_true rfl) dX9_walkItem_161 (fun u_r_37 H locs hw_r_37 hP hD hS => ?_)
            obtain ⟨f2_38, t2_39, w2_40⟩ := u_r_37
            try dsimp only at hw_r_37
            obtain ⟨i_41, i_42, i_43, i_44, i_45, i_46⟩ := hw_r_37
            have hP : va_P D vwCl [(ys, .inl (cI, 449, .inl ms)), (ywa, .inl (cI, 6, .inl a8)), (h0, .inr (9, [.ref ys, .ref yk, .ref yo, .ref yt, .int mk0, .ref yfa, .ref yfe, .int mL, .int mS, .int mM, .ref yro, .ref yhe, .ref ygr, .int mF, .int mC, .int mY, .ref yta, .int (nI (mz)), .int (nI (f2_38)), .int (nI (t2_39)), .int v2_27, .int w2_40, .ref ywa, .ref ybi, .ref ysi, .ref ynu, .ref ymo])), (yta, .inl (cI, 120, .inl tp))] H := hP
            have hD : va_D A [(ys, .inl (cI, 449, .inl ms)), (ywa, .inl (cI, 6, .inl a8)), (h0, .inr (9, [.ref ys, .ref yk, .ref yo, .ref yt, .int mk0, .ref yfa, .ref yfe, .int mL, .int mS, .int mM, .ref yro, .ref yhe, .ref ygr, .int mF, .int mC, .int mY, .ref yta, .int (nI (mz)), .int (nI (f2_38)), .int (nI (t2_39)), .int v2_27, .int w2_40, .ref ywa, .ref ybi, .ref ysi, .ref ynu, .ref ymo])), (yta, .inl (cI, 120, .inl tp))] := hD
            refine lv_aload_n hx hb dX9_walkItem_164 rfl (lv_at hl 3 rfl) ?_
            refine lv_iconst (v := 0) hx hb dX9_walkItem_165 (by decide) ?_
            refine lv_bipush (v := 99) hx hb dX9_walkItem_166 (by decide) ?_
            refine xc_Vv (wr := [(ys, .inl (cI, 449, .inl ms)), (ywa, .inl (cI, 6, .inl a8))]) hF (c_X9_number l D cI cJ cZ cS ta sa sv H.size h0 ys yk yo yt mk0 yfa yfe mL mS mM yro yhe ygr mF mC mY yta mz f2_38 t2_39 v2_27 w2_40 ywa ybi ysi ynu ymo tp 0 99 (by omega) (by omega) (by omega) (by omega) (by omega)) kv_X9_282 ⟨rfl, rfl, Nat.le_of_ble_eq_true rfl, Nat.le_of_ble_eq_true rfl⟩ ⟨Nat.le_of_ble_eq_true rfl, Nat.le_of_ble_eq_true rfl⟩ hK hN hZ hP hD hS hA [2, 3] [0, 1] rfl rfl rfl rfl (by decide) 0 rfl rfl rfl rfl hl.1 rfl (Nat.le_of_ble_eq_true rfl) dX9_walkItem_168 (fun u_r_47 H locs hw_r_47 hP hD hS => ?_)
            obtain ⟨f2_48, t2_49, v2_50, w2_51⟩ := u_r_47
            try dsimp only at hw_r_47
            obtain ⟨i_52, i_53, i_54, i_55, i_56, i_57⟩ := hw_r_47
            have hP : va_P D vwCl [(ys, .inl (cI, 449, .inl ms)), (ywa, .inl (cI, 6, .inl a8)), (h0, .inr (9, [.ref ys, .ref yk, .ref yo, .ref yt, .int mk0, .ref yfa, .ref yfe, .int mL, .int mS, .int mM, .ref yro, .ref yhe, .ref ygr, .int mF, .int mC, .int mY, .ref yta, .int (nI (mz)), .int (nI (f2_48)), .int (nI (t2_49)), .int v2_50, .int w2_51, .ref ywa, .ref ybi, .ref ysi, .ref ynu, .ref ymo])), (yta, .inl (cI, 120, .inl tp))] H := hP
            have hD : va_D A [(ys, .inl (cI, 449, .inl ms)), (ywa, .inl (cI, 6, .inl a8)), (h0, .inr (9, [.ref ys, .ref yk, .ref yo, .ref yt, .int mk0, .ref yfa, .ref yfe, .int mL, .int mS, .int mM, .ref yro, .ref yhe, .ref ygr, .int mF, .int mC, .int mY, .ref yta, .int (nI (mz)), .int (nI (f2_48)), .int (nI (t2_49)), .int v2_50, .int w2_51, .ref ywa, .ref ybi, .ref ysi, .ref ynu, .ref ymo])), (yta, .inl (cI, 120, .inl tp))] := hD
            refine lv_aload_n hx hb dX9_walkItem_171 rfl (lv_at hl 3 rfl) ?_
            refine xg hF kf_X9_275 hK hP 2 rfl rfl dX9_walkItem_172 ?_
            refine lv_istore_n (lv' := [(3, .int v2_50), (2, .int v2_27), (1, .int (nI (n8))), (0, .ref h0)]) hx hb dX9_walkItem_175 rfl hl (by decide) rfl (fun ls hl => ?_)
            refine lv_aload_n hx hb dX9_walkItem_176 rfl (lv_at hl 3 rfl) ?_
            refine xg hF kf_X9_266 hK hP 2 rfl rfl dX9_walkItem_177 ?_
            refine lv_if_ne (tgt := 252) hx hb dX9_walkItem_180 (by decide) (fun c_58 => ?_) (fun c_58 => absurd rfl (i_11 (hc8 (i_23 (i_34 (i_46 (i_57 c_58).1).1).1).1).1).2.1)
            exact W.vret hx hb hr (fun t ht hW => ⟨⟨(f2_48, t2_49, v2_50, w2_51, ms, a8, Wn), rfl, ⟨(by first | assumption | omega), (by first | assumption | omega), (by first | assumption | omega), (by first | assumption | omega), (by first | assumption | omega), (fun h => ⟨(i_11 (hc8 (i_23 (i_34 (i_46 (i_57 h).1).1).1).1).1).1, trivial⟩), hs0, hs1, hs2, hsS, hsM, hsp, hsr, hsw, hsR⟩, by rw [ht]; exact hP.sub [2, 0, 3, 1] rfl, hD.sub [2, 0, 3, 1] (by decide) rfl⟩, hS.F ht⟩) hS.2.2 dX9_walkItem_252 hlk
          · skip
            refine lv_if_eq (tgt := 176) hx hb dX9_walkItem_156 (by decide) (fun c_59 => ?_) (fun c_59 => absurd (by decide) c_59)
            refine lv_aload_n hx hb dX9_walkItem_176 rfl (lv_at hl 3 rfl) ?_
            refine xg hF kf_X9_266 hK hP 2 rfl rfl dX9_walkItem_177 ?_
            refine lv_if_ne (tgt := 252) hx hb dX9_walkItem_180 (by decide) (fun c_60 => ?_) (fun c_60 => absurd rfl (i_11 (hc8 (i_23 (i_34 c_60).1).1).1).2.1)
            exact W.vret hx hb hr (fun t ht hW => ⟨⟨(f2_25, t2_26, v2_27, w2_28, ms, a8, Wn), rfl, ⟨(by first | assumption | omega), (by first | assumption | omega), (by first | assumption | omega), (by first | assumption | omega), (by first | assumption | omega), (fun h => ⟨(i_11 (hc8 (i_23 (i_34 h).1).1).1).1, trivial⟩), hs0, hs1, hs2, hsS, hsM, hsp, hsr, hsw, hsR⟩, by rw [ht]; exact hP.sub [2, 0, 3, 1] rfl, hD.sub [2, 0, 3, 1] (by decide) rfl⟩, hS.F ht⟩) hS.2.2 dX9_walkItem_252 hlk
        · skip
          refine xc_Vv (wr := [(ys, .inl (cI, 449, .inl ms)), (ywa, .inl (cI, 6, .inl a8))]) hF (c_X9_needs l D cI cJ cZ cS ta sa sv H.size h0 ys yk yo yt mk0 yfa yfe mL mS mM yro yhe ygr mF mC mY yta mz f8 t8 mv w8 ywa ybi ysi ynu ymo tp 0 (by omega) (by omega) (by omega) (by omega) (by omega)) kv_X9_278 ⟨rfl, rfl, Nat.le_of_ble_eq_true rfl, Nat.le_of_ble_eq_true rfl⟩ ⟨Nat.le_of_ble_eq_true rfl, Nat.le_of_ble_eq_true rfl⟩ hK hN hZ hP hD hS hA [2, 3] [0, 1] rfl rfl rfl rfl (by decide) 0 rfl rfl rfl rfl hl.1 rfl (Nat.le_of_ble_eq_true rfl) dX9_walkItem_120 (fun u_r_61 H locs hw_r_61 hP hD hS => ?_)
          obtain ⟨f2_62, t2_63, w2_64⟩ := u_r_61
          try dsimp only at hw_r_61
          obtain ⟨i_65, i_66, i_67, i_68, i_69, i_70⟩ := hw_r_61
          have hP : va_P D vwCl [(ys, .inl (cI, 449, .inl ms)), (ywa, .inl (cI, 6, .inl a8)), (h0, .inr (9, [.ref ys, .ref yk, .ref yo, .ref yt, .int mk0, .ref yfa, .ref yfe, .int mL, .int mS, .int mM, .ref yro, .ref yhe, .ref ygr, .int mF, .int mC, .int mY, .ref yta, .int (nI (mz)), .int (nI (f2_62)), .int (nI (t2_63)), .int mv, .int w2_64, .ref ywa, .ref ybi, .ref ysi, .ref ynu, .ref ymo])), (yta, .inl (cI, 120, .inl tp))] H := hP
          have hD : va_D A [(ys, .inl (cI, 449, .inl ms)), (ywa, .inl (cI, 6, .inl a8)), (h0, .inr (9, [.ref ys, .ref yk, .ref yo, .ref yt, .int mk0, .ref yfa, .ref yfe, .int mL, .int mS, .int mM, .ref yro, .ref yhe, .ref ygr, .int mF, .int mC, .int mY, .ref yta, .int (nI (mz)), .int (nI (f2_62)), .int (nI (t2_63)), .int mv, .int w2_64, .ref ywa, .ref ybi, .ref ysi, .ref ynu, .ref ymo])), (yta, .inl (cI, 120, .inl tp))] := hD
          refine lv_aload_n hx hb dX9_walkItem_123 rfl (lv_at hl 1 rfl) ?_
          refine lv_sipush (v := (-9999)) hx hb dX9_walkItem_124 (by decide) ?_
          refine lv_sipush (v := 9999) hx hb dX9_walkItem_127 (by decide) ?_
          refine xc_Vv (wr := [(ys, .inl (cI, 449, .inl ms)), (ywa, .inl (cI, 6, .inl a8))]) hF (c_X9_mile l D cI cJ cZ cS ta sa sv H.size h0 ys yk yo yt mk0 yfa yfe mL mS mM yro yhe ygr mF mC mY yta mz f2_62 t2_63 mv w2_64 ywa ybi ysi ynu ymo tp (-9999) 9999 (by omega) (by omega) (by omega) (by omega) (by omega)) kv_X9_287 ⟨rfl, rfl, Nat.le_of_ble_eq_true rfl, Nat.le_of_ble_eq_true rfl⟩ ⟨Nat.le_of_ble_eq_true rfl, Nat.le_of_ble_eq_true rfl⟩ hK hN hZ hP hD hS hA [2, 3] [0, 1] rfl rfl rfl rfl (by decide) 0 rfl rfl rfl rfl hl.1 rfl (Nat.le_of_ble_eq_true rfl) dX9_walkItem_130 (fun u_r_71 H locs hw_r_71 hP hD hS => ?_)
          obtain ⟨f2_72, t2_73, v2_74, w2_75⟩ := u_r_71
          try dsimp only at hw_r_71
          obtain ⟨i_76, i_77, i_78, i_79, i_80, i_81⟩ := hw_r_71
          have hP : va_P D vwCl [(ys, .inl (cI, 449, .inl ms)), (ywa, .inl (cI, 6, .inl a8)), (h0, .inr (9, [.ref ys, .ref yk, .ref yo, .ref yt, .int mk0, .ref yfa, .ref yfe, .int mL, .int mS, .int mM, .ref yro, .ref yhe, .ref ygr, .int mF, .int mC, .int mY, .ref yta, .int (nI (mz)), .int (nI (f2_72)), .int (nI (t2_73)), .int v2_74, .int w2_75, .ref ywa, .ref ybi, .ref ysi, .ref ynu, .ref ymo])), (yta, .inl (cI, 120, .inl tp))] H := hP
          have hD : va_D A [(ys, .inl (cI, 449, .inl ms)), (ywa, .inl (cI, 6, .inl a8)), (h0, .inr (9, [.ref ys, .ref yk, .ref yo, .ref yt, .int mk0, .ref yfa, .ref yfe, .int mL, .int mS, .int mM, .ref yro, .ref yhe, .ref ygr, .int mF, .int mC, .int mY, .ref yta, .int (nI (mz)), .int (nI (f2_72)), .int (nI (t2_73)), .int v2_74, .int w2_75, .ref ywa, .ref ybi, .ref ysi, .ref ynu, .ref ymo])), (yta, .inl (cI, 120, .inl tp))] := hD
          refine lv_aload_n hx hb dX9_walkItem_133 rfl (lv_at hl 1 rfl) ?_
          refine xg hF kf_X9_275 hK hP 2 rfl rfl dX9_walkItem_134 ?_
          refine lv_istore_n (lv' := [(2, .int v2_74), (1, .int (nI (n8))), (0, .ref h0)]) hx hb dX9_walkItem_137 rfl hl (by decide) rfl (fun ls hl => ?_)
          refine lv_iconst (v := 0) hx hb dX9_walkItem_138 (by decide) ?_
          refine lv_istore_n (lv' := [(3, .int 0), (2, .int v2_74), (1, .int (nI (n8))), (0, .ref h0)]) hx hb dX9_walkItem_139 rfl hl (by decide) rfl (fun ls hl => ?_)
          refine lv_aload_n hx hb dX9_walkItem_140 rfl (lv_at hl 3 rfl) ?_
          refine lv_bipush (v := 115) hx hb dX9_walkItem_141 (by decide) ?_
          refine lv_bipush (v := 108) hx hb dX9_walkItem_143 (by decide) ?_
          refine lv_bipush (v := 97) hx hb dX9_walkItem_145 (by decide) ?_
          refine lv_bipush (v := 99) hx hb dX9_walkItem_147 (by decide) ?_
          refine lv_bipush (v := 107) hx hb dX9_walkItem_149 (by decide) ?_
          refine lv_iconst (v := 0) hx hb dX9_walkItem_151 (by decide) ?_
          refine lv_iconst (v := 0) hx hb dX9_walkItem_152 (by decide) ?_
          refine xc_Vr hF (c_X9_isWord l D cI cJ cZ cS ta sa sv H.size h0 ys yk yo yt mk0 yfa yfe mL mS mM yro yhe ygr mF mC mY yta mz f2_72 t2_73 v2_74 w2_75 ywa ybi ysi ynu ymo tp 115 108 97 99 107 0 0 (by omega) (by omega)) kv_X9_290 ⟨rfl, rfl, Nat.le_of_ble_eq_true rfl, Nat.le_of_ble_eq_true rfl⟩ ⟨Nat.le_of_ble_eq_true rfl, Nat.le_of_ble_eq_true rfl⟩ hK hN hZ hP hD hS hA [2, 3] rfl rfl 0 rfl rfl rfl rfl hl.1 rfl (Nat.le_of_ble_eq_true rfl) dX9_walkItem_153 (fun r_82 hw_r_82 => ?_)
          rcases hw_r_82 with rfl | rfl
          · skip
            refine lv_if_eq (tgt := 176) hx hb dX9_walkItem_156 (by decide) (fun c_83 => absurd c_83 (by decide)) (fun c_83 => ?_)
            refine lv_aload_n hx hb dX9_walkItem_159 rfl (lv_at hl 3 rfl) ?_
            refine lv_iconst (v := 1) hx hb dX9_walkItem_160 (by decide) ?_
            refine xc_Vv (wr := [(ys, .inl (cI, 449, .inl ms)), (ywa, .inl (cI, 6, .inl a8))]) hF (c_X9_needs l D cI cJ cZ cS ta sa sv H.size h0 ys yk yo yt mk0 yfa yfe mL mS mM yro yhe ygr mF mC mY yta mz f2_72 t2_73 v2_74 w2_75 ywa ybi ysi ynu ymo tp 1 (by omega) (by omega) (by omega) (by omega) (by omega)) kv_X9_278 ⟨rfl, rfl, Nat.le_of_ble_eq_true rfl, Nat.le_of_ble_eq_true rfl⟩ ⟨Nat.le_of_ble_eq_true rfl, Nat.le_of_ble_eq_true rfl⟩ hK hN hZ hP hD hS hA [2, 3] [0, 1] rfl rfl rfl rfl (by decide) 0 rfl rfl rfl rfl hl.1 rfl (Nat.le_of_ble_eq_true rfl) dX9_walkItem_161 (fun u_r_84 H locs hw_r_84 hP hD hS => ?_)
            obtain ⟨f2_85, t2_86, w2_87⟩ := u_r_84
            try dsimp only at hw_r_84
            obtain ⟨i_88, i_89, i_90, i_91, i_92, i_93⟩ := hw_r_84
            have hP : va_P D vwCl [(ys, .inl (cI, 449, .inl ms)), (ywa, .inl (cI, 6, .inl a8)), (h0, .inr (9, [.ref ys, .ref yk, .ref yo, .ref yt, .int mk0, .ref yfa, .ref yfe, .int mL, .int mS, .int mM, .ref yro, .ref yhe, .ref ygr, .int mF, .int mC, .int mY, .ref yta, .int (nI (mz)), .int (nI (f2_85)), .int (nI (t2_86)), .int v2_74, .int w2_87, .ref ywa, .ref ybi, .ref ysi, .ref ynu, .ref ymo])), (yta, .inl (cI, 120, .inl tp))] H := hP
            have hD : va_D A [(ys, .inl (cI, 449, .inl ms)), (ywa, .inl (cI, 6, .inl a8)), (h0, .inr (9, [.ref ys, .ref yk, .ref yo, .ref yt, .int mk0, .ref yfa, .ref yfe, .int mL, .int mS, .int mM, .ref yro, .ref yhe, .ref ygr, .int mF, .int mC, .int mY, .ref yta, .int (nI (mz)), .int (nI (f2_85)), .int (nI (t2_86)), .int v2_74, .int w2_87, .ref ywa, .ref ybi, .ref ysi, .ref ynu, .ref ymo])), (yta, .inl (cI, 120, .inl tp))] := hD
            refine lv_aload_n hx hb dX9_walkItem_164 rfl (lv_at hl 3 rfl) ?_
            refine lv_iconst (v := 0) hx hb dX9_walkItem_165 (by decide) ?_
            refine lv_bipush (v := 99) hx hb dX9_walkItem_166 (by decide) ?_
            refine xc_Vv (wr := [(ys, .inl (cI, 449, .inl ms)), (ywa, .inl (cI, 6, .inl a8))]) hF (c_X9_number l D cI cJ cZ cS ta sa sv H.size h0 ys yk yo yt mk0 yfa yfe mL mS mM yro yhe ygr mF mC mY yta mz f2_85 t2_86 v2_74 w2_87 ywa ybi ysi ynu ymo tp 0 99 (by omega) (by omega) (by omega) (by omega) (by omega)) kv_X9_282 ⟨rfl, rfl, Nat.le_of_ble_eq_true rfl, Nat.le_of_ble_eq_true rfl⟩ ⟨Nat.le_of_ble_eq_true rfl, Nat.le_of_ble_eq_true rfl⟩ hK hN hZ hP hD hS hA [2, 3] [0, 1] rfl rfl rfl rfl (by decide) 0 rfl rfl rfl rfl hl.1 rfl (Nat.le_of_ble_eq_true rfl) dX9_walkItem_168 (fun u_r_94 H locs hw_r_94 hP hD hS => ?_)
            obtain ⟨f2_95, t2_96, v2_97, w2_98⟩ := u_r_94
            try dsimp only at hw_r_94
            obtain ⟨i_99, i_100, i_101, i_102, i_103, i_104⟩ := hw_r_94
            have hP : va_P D vwCl [(ys, .inl (cI, 449, .inl ms)), (ywa, .inl (cI, 6, .inl a8)), (h0, .inr (9, [.ref ys, .ref yk, .ref yo, .ref yt, .int mk0, .ref yfa, .ref yfe, .int mL, .int mS, .int mM, .ref yro, .ref yhe, .ref ygr, .int mF, .int mC, .int mY, .ref yta, .int (nI (mz)), .int (nI (f2_95)), .int (nI (t2_96)), .int v2_97, .int w2_98, .ref ywa, .ref ybi, .ref ysi, .ref ynu, .ref ymo])), (yta, .inl (cI, 120, .inl tp))] H := hP
            have hD : va_D A [(ys, .inl (cI, 449, .inl ms)), (ywa, .inl (cI, 6, .inl a8)), (h0, .inr (9, [.ref ys, .ref yk, .ref yo, .ref yt, .int mk0, .ref yfa, .ref yfe, .int mL, .int mS, .int mM, .ref yro, .ref yhe, .ref ygr, .int mF, .int mC, .int mY, .ref yta, .int (nI (mz)), .int (nI (f2_95)), .int (nI (t2_96)), .int v2_97, .int w2_98, .ref ywa, .ref ybi, .ref ysi, .ref ynu, .ref ymo])), (yta, .inl (cI, 120, .inl tp))] := hD
            refine lv_aload_n hx hb dX9_walkItem_171 rfl (lv_at hl 3 rfl) ?_
            refine xg hF kf_X9_275 hK hP 2 rfl rfl dX9_walkItem_172 ?_
            refine lv_istore_n (lv' := [(3, .int v2_97), (2, .int v2_74), (1, .int (nI (n8))), (0, .ref h0)]) hx hb dX9_walkItem_175 rfl hl (by decide) rfl (fun ls hl => ?_)
            refine lv_aload_n hx hb dX9_walkItem_176 rfl (lv_at hl 3 rfl) ?_
            refine xg hF kf_X9_266 hK hP 2 rfl rfl dX9_walkItem_177 ?_
            refine lv_if_ne (tgt := 252) hx hb dX9_walkItem_180 (by decide) (fun c_105 => ?_) (fun c_105 => absurd rfl (i_70 (i_81 (i_93 (i_104 c_105).1).1).1).2.1)
            exact W.vret hx hb hr (fun t ht hW => ⟨⟨(f2_95, t2_96, v2_97, w2_98, ms, a8, Wn), rfl, ⟨(by first | assumption | omega), (by first | assumption | omega), (by first | assumption | omega), (by first | assumption | omega), (by first | assumption | omega), (fun h => ⟨(i_11 (hc8 (i_70 (i_81 (i_93 (i_104 h).1).1).1).1).1).1, trivial⟩), hs0, hs1, hs2, hsS, hsM, hsp, hsr, hsw, hsR⟩, by rw [ht]; exact hP.sub [2, 0, 3, 1] rfl, hD.sub [2, 0, 3, 1] (by decide) rfl⟩, hS.F ht⟩) hS.2.2 dX9_walkItem_252 hlk
          · skip
            refine lv_if_eq (tgt := 176) hx hb dX9_walkItem_156 (by decide) (fun c_106 => ?_) (fun c_106 => absurd (by decide) c_106)
            refine lv_aload_n hx hb dX9_walkItem_176 rfl (lv_at hl 3 rfl) ?_
            refine xg hF kf_X9_266 hK hP 2 rfl rfl dX9_walkItem_177 ?_
            refine lv_if_ne (tgt := 252) hx hb dX9_walkItem_180 (by decide) (fun c_107 => ?_) (fun c_107 => absurd rfl (i_70 (i_81 c_107).1).2.1)
            exact W.vret hx hb hr (fun t ht hW => ⟨⟨(f2_72, t2_73, v2_74, w2_75, ms, a8, Wn), rfl, ⟨(by first | assumption | omega), (by first | assumption | omega), (by first | assumption | omega), (by first | assumption | omega), (by first | assumption | omega), (fun h => ⟨(i_11 (hc8 (i_70 (i_81 h).1).1).1).1, trivial⟩), hs0, hs1, hs2, hsS, hsM, hsp, hsr, hsw, hsR⟩, by rw [ht]; exact hP.sub [2, 0, 3, 1] rfl, hD.sub [2, 0, 3, 1] (by decide) rfl⟩, hS.F ht⟩) hS.2.2 dX9_walkItem_252 hlk
      · skip
        refine lv_iload_n hx hb dX9_walkItem_29 rfl (lv_at hl 0 rfl) ?_
        refine lv_bipush (v := 6) hx hb dX9_walkItem_30 (by decide) ?_
        refine lv_icmp_ge (tgt := 105) hx hb dX9_walkItem_32 (by decide) (fun c_108 => ?_) (fun c_108 => ?_)
        · skip
          have nc_108 : 6 ≤ n8 := xn_le (a := 6) (b := n8) (by omega) (by omega) c_108
          refine lv_aload_n hx hb dX9_walkItem_105 rfl (lv_at hl 1 rfl) ?_
          refine lv_aload_n hx hb dX9_walkItem_106 rfl (lv_at hl 1 rfl) ?_
          refine lv_bipush (v := 97) hx hb dX9_walkItem_107 (by decide) ?_
          refine lv_bipush (v := 108) hx hb dX9_walkItem_109 (by decide) ?_
          refine lv_bipush (v := 108) hx hb dX9_walkItem_111 (by decide) ?_
          refine lv_iconst (v := 0) hx hb dX9_walkItem_113 (by decide) ?_
          refine lv_iconst (v := 0) hx hb dX9_walkItem_114 (by decide) ?_
          refine lv_iconst (v := 0) hx hb dX9_walkItem_115 (by decide) ?_
          refine lv_iconst (v := 0) hx hb dX9_walkItem_116 (by decide) ?_
          refine xc_Vr hF (c_X9_isWord l D cI cJ cZ cS ta sa sv H.size h0 ys yk yo yt mk0 yfa yfe mL mS mM yro yhe ygr mF mC mY yta mz f8 t8 mv w8 ywa ybi ysi ynu ymo tp 97 108 108 0 0 0 0 (by omega) (by omega)) kv_X9_290 ⟨rfl, rfl, Nat.le_of_ble_eq_true rfl, Nat.le_of_ble_eq_true rfl⟩ ⟨Nat.le_of_ble_eq_true rfl, Nat.le_of_ble_eq_true rfl⟩ hK hN hZ hP hD hS hA [2, 3] rfl rfl 0 rfl rfl rfl rfl hl.1 rfl (Nat.le_of_ble_eq_true rfl) dX9_walkItem_117 (fun r_109 hw_r_109 => ?_)
          rcases hw_r_109 with rfl | rfl
          · skip
            refine xc_Vv (wr := [(ys, .inl (cI, 449, .inl ms)), (ywa, .inl (cI, 6, .inl a8))]) hF (c_X9_needs l D cI cJ cZ cS ta sa sv H.size h0 ys yk yo yt mk0 yfa yfe mL mS mM yro yhe ygr mF mC mY yta mz f8 t8 mv w8 ywa ybi ysi ynu ymo tp 1 (by omega) (by omega) (by omega) (by omega) (by omega)) kv_X9_278 ⟨rfl, rfl, Nat.le_of_ble_eq_true rfl, Nat.le_of_ble_eq_true rfl⟩ ⟨Nat.le_of_ble_eq_true rfl, Nat.le_of_ble_eq_true rfl⟩ hK hN hZ hP hD hS hA [2, 3] [0, 1] rfl rfl rfl rfl (by decide) 0 rfl rfl rfl rfl hl.1 rfl (Nat.le_of_ble_eq_true rfl) dX9_walkItem_120 (fun u_r_110 H locs hw_r_110 hP hD hS => ?_)
            obtain ⟨f2_111, t2_112, w2_113⟩ := u_r_110
            try dsimp only at hw_r_110
            obtain ⟨i_114, i_115, i_116, i_117, i_118, i_119⟩ := hw_r_110
            have hP : va_P D vwCl [(ys, .inl (cI, 449, .inl ms)), (ywa, .inl (cI, 6, .inl a8)), (h0, .inr (9, [.ref ys, .ref yk, .ref yo, .ref yt, .int mk0, .ref yfa, .ref yfe, .int mL, .int mS, .int mM, .ref yro, .ref yhe, .ref ygr, .int mF, .int mC, .int mY, .ref yta, .int (nI (mz)), .int (nI (f2_111)), .int (nI (t2_112)), .int mv, .int w2_113, .ref ywa, .ref ybi, .ref ysi, .ref ynu, .ref ymo])), (yta, .inl (cI, 120, .inl tp))] H := hP
            have hD : va_D A [(ys, .inl (cI, 449, .inl ms)), (ywa, .inl (cI, 6, .inl a8)), (h0, .inr (9, [.ref ys, .ref yk, .ref yo, .ref yt, .int mk0, .ref yfa, .ref yfe, .int mL, .int mS, .int mM, .ref yro, .ref yhe, .ref ygr, .int mF, .int mC, .int mY, .ref yta, .int (nI (mz)), .int (nI (f2_111)), .int (nI (t2_112)), .int mv, .int w2_113, .ref ywa, .ref ybi, .ref ysi, .ref ynu, .ref ymo])), (yta, .inl (cI, 120, .inl tp))] := hD
            refine lv_aload_n hx hb dX9_walkItem_123 rfl (lv_at hl 1 rfl) ?_
            refine lv_sipush (v := (-9999)) hx hb dX9_walkItem_124 (by decide) ?_
            refine lv_sipush (v := 9999) hx hb dX9_walkItem_127 (by decide) ?_
            refine xc_Vv (wr := [(ys, .inl (cI, 449, .inl ms)), (ywa, .inl (cI, 6, .inl a8))]) hF (c_X9_mile l D cI cJ cZ cS ta sa sv H.size h0 ys yk yo yt mk0 yfa yfe mL mS mM yro yhe ygr mF mC mY yta mz f2_111 t2_112 mv w2_113 ywa ybi ysi ynu ymo tp (-9999) 9999 (by omega) (by omega) (by omega) (by omega) (by omega)) kv_X9_287 ⟨rfl, rfl, Nat.le_of_ble_eq_true rfl, Nat.le_of_ble_eq_true rfl⟩ ⟨Nat.le_of_ble_eq_true rfl, Nat.le_of_ble_eq_true rfl⟩ hK hN hZ hP hD hS hA [2, 3] [0, 1] rfl rfl rfl rfl (by decide) 0 rfl rfl rfl rfl hl.1 rfl (Nat.le_of_ble_eq_true rfl) dX9_walkItem_130 (fun u_r_120 H locs hw_r_120 hP hD hS => ?_)
            obtain ⟨f2_121, t2_122, v2_123, w2_124⟩ := u_r_120
            try dsimp only at hw_r_120
            obtain ⟨i_125, i_126, i_127, i_128, i_129, i_130⟩ := hw_r_120
            have hP : va_P D vwCl [(ys, .inl (cI, 449, .inl ms)), (ywa, .inl (cI, 6, .inl a8)), (h0, .inr (9, [.ref ys, .ref yk, .ref yo, .ref yt, .int mk0, .ref yfa, .ref yfe, .int mL, .int mS, .int mM, .ref yro, .ref yhe, .ref ygr, .int mF, .int mC, .int mY, .ref yta, .int (nI (mz)), .int (nI (f2_121)), .int (nI (t2_122)), .int v2_123, .int w2_124, .ref ywa, .ref ybi, .ref ysi, .ref ynu, .ref ymo])), (yta, .inl (cI, 120, .inl tp))] H := hP
            have hD : va_D A [(ys, .inl (cI, 449, .inl ms)), (ywa, .inl (cI, 6, .inl a8)), (h0, .inr (9, [.ref ys, .ref yk, .ref yo, .ref yt, .int mk0, .ref yfa, .ref yfe, .int mL, .int mS, .int mM, .ref yro, .ref yhe, .ref ygr, .int mF, .int mC, .int mY, .ref yta, .int (nI (mz)), .int (nI (f2_121)), .int (nI (t2_122)), .int v2_123, .int w2_124, .ref ywa, .ref ybi, .ref ysi, .ref ynu, .ref ymo])), (yta, .inl (cI, 120, .inl tp))] := hD
            refine lv_aload_n hx hb dX9_walkItem_133 rfl (lv_at hl 1 rfl) ?_
            refine xg hF kf_X9_275 hK hP 2 rfl rfl dX9_walkItem_134 ?_
            refine lv_istore_n (lv' := [(2, .int v2_123), (1, .int (nI (n8))), (0, .ref h0)]) hx hb dX9_walkItem_137 rfl hl (by decide) rfl (fun ls hl => ?_)
            refine lv_iconst (v := 0) hx hb dX9_walkItem_138 (by decide) ?_
            refine lv_istore_n (lv' := [(3, .int 0), (2, .int v2_123), (1, .int (nI (n8))), (0, .ref h0)]) hx hb dX9_walkItem_139 rfl hl (by decide) rfl (fun ls hl => ?_)
            refine lv_aload_n hx hb dX9_walkItem_140 rfl (lv_at hl 3 rfl) ?_
            refine lv_bipush (v := 115) hx hb dX9_walkItem_141 (by decide) ?_
            refine lv_bipush (v := 108) hx hb dX9_walkItem_143 (by decide) ?_
            refine lv_bipush (v := 97) hx hb dX9_walkItem_145 (by decide) ?_
            refine lv_bipush (v := 99) hx hb dX9_walkItem_147 (by decide) ?_
            refine lv_bipush (v := 107) hx hb dX9_walkItem_149 (by decide) ?_
            refine lv_iconst (v := 0) hx hb dX9_walkItem_151 (by decide) ?_
            refine lv_iconst (v := 0) hx hb dX9_walkItem_152 (by decide) ?_
            refine xc_Vr hF (c_X9_isWord l D cI cJ cZ cS ta sa sv H.size h0 ys yk yo yt mk0 yfa yfe mL mS mM yro yhe ygr mF mC mY yta mz f2_121 t2_122 v2_123 w2_124 ywa ybi ysi ynu ymo tp 115 108 97 99 107 0 0 (by omega) (by omega)) kv_X9_290 ⟨rfl, rfl, Nat.le_of_ble_eq_true rfl, Nat.le_of_ble_eq_true rfl⟩ ⟨Nat.le_of_ble_eq_true rfl, Nat.le_of_ble_eq_true rfl⟩ hK hN hZ hP hD hS hA [2, 3] rfl rfl 0 rfl rfl rfl rfl hl.1 rfl (Nat.le_of_ble_eq_true rfl) dX9_walkItem_153 (fun r_131 hw_r_131 => ?_)
            rcases hw_r_131 with rfl | rfl
            · skip
              refine lv_if_eq (tgt := 176) hx hb dX9_walkItem_156 (by decide) (fun c_132 => absurd c_132 (by decide)) (fun c_132 => ?_)
              refine lv_aload_n hx hb dX9_walkItem_159 rfl (lv_at hl 3 rfl) ?_
              refine lv_iconst (v := 1) hx hb dX9_walkItem_160 (by decide) ?_
              refine xc_Vv (wr := [(ys, .inl (cI, 449, .inl ms)), (ywa, .inl (cI, 6, .inl a8))]) hF (c_X9_needs l D cI cJ cZ cS ta sa sv H.size h0 ys yk yo yt mk0 yfa yfe mL mS mM yro yhe ygr mF mC mY yta mz f2_121 t2_122 v2_123 w2_124 ywa ybi ysi ynu ymo tp 1 (by omega) (by omega) (by omega) (by omega) (by omega)) kv_X9_278 ⟨rfl, rfl, Nat.le_of_ble_eq_true rfl, Nat.le_of_ble_eq_true rfl⟩ ⟨Nat.le_of_ble_eq_true rfl, Nat.le_of_ble_eq_true rfl⟩ hK hN hZ hP hD hS hA [2, 3] [0, 1] rfl rfl rfl rfl (by decide) 0 rfl rfl rfl rfl hl.1 rfl (Nat.le_of_ble_eq_true rfl) dX9_walkItem_161 (fun u_r_133 H locs hw_r_133 hP hD hS => ?_)
              obtain ⟨f2_134, t2_135, w2_136⟩ := u_r_133
              try dsimp only at hw_r_133
              obtain ⟨i_137, i_138, i_139, i_140, i_141, i_142⟩ := hw_r_133
              have hP : va_P D vwCl [(ys, .inl (cI, 449, .inl ms)), (ywa, .inl (cI, 6, .inl a8)), (h0, .inr (9, [.ref ys, .ref yk, .ref yo, .ref yt, .int mk0, .ref yfa, .ref yfe, .int mL, .int mS, .int mM, .ref yro, .ref yhe, .ref ygr, .int mF, .int mC, .int mY, .ref yta, .int (nI (mz)), .int (nI (f2_134)), .int (nI (t2_135)), .int v2_123, .int w2_136, .ref ywa, .ref ybi, .ref ysi, .ref ynu, .ref ymo])), (yta, .inl (cI, 120, .inl tp))] H := hP
              have hD : va_D A [(ys, .inl (cI, 449, .inl ms)), (ywa, .inl (cI, 6, .inl a8)), (h0, .inr (9, [.ref ys, .ref yk, .ref yo, .ref yt, .int mk0, .ref yfa, .ref yfe, .int mL, .int mS, .int mM, .ref yro, .ref yhe, .ref ygr, .int mF, .int mC, .int mY, .ref yta, .int (nI (mz)), .int (nI (f2_134)), .int (nI (t2_135)), .int v2_123, .int w2_136, .ref ywa, .ref ybi, .ref ysi, .ref ynu, .ref ymo])), (yta, .inl (cI, 120, .inl tp))] := hD
              refine lv_aload_n hx hb dX9_walkItem_164 rfl (lv_at hl 3 rfl) ?_
              refine lv_iconst (v := 0) hx hb dX9_walkItem_165 (by decide) ?_
              refine lv_bipush (v := 99) hx hb dX9_walkItem_166 (by decide) ?_
              refine xc_Vv (wr := [(ys, .inl (cI, 449, .inl ms)), (ywa, .inl (cI, 6, .inl a8))]) hF (c_X9_number l D cI cJ cZ cS ta sa sv H.size h0 ys yk yo yt mk0 yfa yfe mL mS mM yro yhe ygr mF mC mY yta mz f2_134 t2_135 v2_123 w2_136 ywa ybi ysi ynu ymo tp 0 99 (by omega) (by omega) (by omega) (by omega) (by omega)) kv_X9_282 ⟨rfl, rfl, Nat.le_of_ble_eq_true rfl, Nat.le_of_ble_eq_true rfl⟩ ⟨Nat.le_of_ble_eq_true rfl, Nat.le_of_ble_eq_true rfl⟩ hK hN hZ hP hD hS hA [2, 3] [0, 1] rfl rfl rfl rfl (by decide) 0 rfl rfl rfl rfl hl.1 rfl (Nat.le_of_ble_eq_true rfl) dX9_walkItem_168 (fun u_r_143 H locs hw_r_143 hP hD hS => ?_)
              obtain ⟨f2_144, t2_145, v2_146, w2_147⟩ := u_r_143
              try dsimp only at hw_r_143
              obtain ⟨i_148, i_149, i_150, i_151, i_152, i_153⟩ := hw_r_143
              have hP : va_P D vwCl [(ys, .inl (cI, 449, .inl ms)), (ywa, .inl (cI, 6, .inl a8)), (h0, .inr (9, [.ref ys, .ref yk, .ref yo, .ref yt, .int mk0, .ref yfa, .ref yfe, .int mL, .int mS, .int mM, .ref yro, .ref yhe, .ref ygr, .int mF, .int mC, .int mY, .ref yta, .int (nI (mz)), .int (nI (f2_144)), .int (nI (t2_145)), .int v2_146, .int w2_147, .ref ywa, .ref ybi, .ref ysi, .ref ynu, .ref ymo])), (yta, .inl (cI, 120, .inl tp))] H := hP
              have hD : va_D A [(ys, .inl (cI, 449, .inl ms)), (ywa, .inl (cI, 6, .inl a8)), (h0, .inr (9, [.ref ys, .ref yk, .ref yo, .ref yt, .int mk0, .ref yfa, .ref yfe, .int mL, .int mS, .int mM, .ref yro, .ref yhe, .ref ygr, .int mF, .int mC, .int mY, .ref yta, .int (nI (mz)), .int (nI (f2_144)), .int (nI (t2_145)), .int v2_146, .int w2_147, .ref ywa, .ref ybi, .ref ysi, .ref ynu, .ref ymo])), (yta, .inl (cI, 120, .inl tp))] := hD
              refine lv_aload_n hx hb dX9_walkItem_171 rfl (lv_at hl 3 rfl) ?_
              refine xg hF kf_X9_275 hK hP 2 rfl rfl dX9_walkItem_172 ?_
              refine lv_istore_n (lv' := [(3, .int v2_146), (2, .int v2_123), (1, .int (nI (n8))), (0, .ref h0)]) hx hb dX9_walkItem_175 rfl hl (by decide) rfl (fun ls hl => ?_)
              refine lv_aload_n hx hb dX9_walkItem_176 rfl (lv_at hl 3 rfl) ?_
              refine xg hF kf_X9_266 hK hP 2 rfl rfl dX9_walkItem_177 ?_
              refine lv_if_ne (tgt := 252) hx hb dX9_walkItem_180 (by decide) (fun c_154 => ?_) (fun c_154 => absurd rfl (i_11 (hc8 (i_119 (i_130 (i_142 (i_153 c_154).1).1).1).1).1).2.1)
              exact W.vret hx hb hr (fun t ht hW => ⟨⟨(f2_144, t2_145, v2_146, w2_147, ms, a8, Wn), rfl, ⟨(by first | assumption | omega), (by first | assumption | omega), (by first | assumption | omega), (by first | assumption | omega), (by first | assumption | omega), (fun h => ⟨(i_11 (hc8 (i_119 (i_130 (i_142 (i_153 h).1).1).1).1).1).1, trivial⟩), hs0, hs1, hs2, hsS, hsM, hsp, hsr, hsw, hsR⟩, by rw [ht]; exact hP.sub [2, 0, 3, 1] rfl, hD.sub [2, 0, 3, 1] (by decide) rfl⟩, hS.F ht⟩) hS.2.2 dX9_walkItem_252 hlk
            · skip
              refine lv_if_eq (tgt := 176) hx hb dX9_walkItem_156 (by decide) (fun c_155 => ?_) (fun c_155 => absurd (by decide) c_155)
              refine lv_aload_n hx hb dX9_walkItem_176 rfl (lv_at hl 3 rfl) ?_
              refine xg hF kf_X9_266 hK hP 2 rfl rfl dX9_walkItem_177 ?_
              refine lv_if_ne (tgt := 252) hx hb dX9_walkItem_180 (by decide) (fun c_156 => ?_) (fun c_156 => absurd rfl (i_11 (hc8 (i_119 (i_130 c_156).1).1).1).2.1)
              exact W.vret hx hb hr (fun t ht hW => ⟨⟨(f2_121, t2_122, v2_123, w2_124, ms, a8, Wn), rfl, ⟨(by first | assumption | omega), (by first | assumption | omega), (by first | assumption | omega), (by first | assumption | omega), (by first | assumption | omega), (fun h => ⟨(i_11 (hc8 (i_119 (i_130 h).1).1).1).1, trivial⟩), hs0, hs1, hs2, hsS, hsM, hsp, hsr, hsw, hsR⟩, by rw [ht]; exact hP.sub [2, 0, 3, 1] rfl, hD.sub [2, 0, 3, 1] (by decide) rfl⟩, hS.F ht⟩) hS.2.2 dX9_walkItem_252 hlk
          · skip
            refine xc_Vv (wr := [(ys, .inl (cI, 449, .inl ms)), (ywa, .inl (cI, 6, .inl a8))]) hF (c_X9_needs l D cI cJ cZ cS ta sa sv H.size h0 ys yk yo yt mk0 yfa yfe mL mS mM yro yhe ygr mF mC mY yta mz f8 t8 mv w8 ywa ybi ysi ynu ymo tp 0 (by omega) (by omega) (by omega) (by omega) (by omega)) kv_X9_278 ⟨rfl, rfl, Nat.le_of_ble_eq_true rfl, Nat.le_of_ble_eq_true rfl⟩ ⟨Nat.le_of_ble_eq_true rfl, Nat.le_of_ble_eq_true rfl⟩ hK hN hZ hP hD hS hA [2, 3] [0, 1] rfl rfl rfl rfl (by decide) 0 rfl rfl rfl rfl hl.1 rfl (Nat.le_of_ble_eq_true rfl) dX9_walkItem_120 (fun u_r_157 H locs hw_r_157 hP hD hS => ?_)
            obtain ⟨f2_158, t2_159, w2_160⟩ := u_r_157
            try dsimp only at hw_r_157
            obtain ⟨i_161, i_162, i_163, i_164, i_165, i_166⟩ := hw_r_157
            have hP : va_P D vwCl [(ys, .inl (cI, 449, .inl ms)), (ywa, .inl (cI, 6, .inl a8)), (h0, .inr (9, [.ref ys, .ref yk, .ref yo, .ref yt, .int mk0, .ref yfa, .ref yfe, .int mL, .int mS, .int mM, .ref yro, .ref yhe, .ref ygr, .int mF, .int mC, .int mY, .ref yta, .int (nI (mz)), .int (nI (f2_158)), .int (nI (t2_159)), .int mv, .int w2_160, .ref ywa, .ref ybi, .ref ysi, .ref ynu, .ref ymo])), (yta, .inl (cI, 120, .inl tp))] H := hP
            have hD : va_D A [(ys, .inl (cI, 449, .inl ms)), (ywa, .inl (cI, 6, .inl a8)), (h0, .inr (9, [.ref ys, .ref yk, .ref yo, .ref yt, .int mk0, .ref yfa, .ref yfe, .int mL, .int mS, .int mM, .ref yro, .ref yhe, .ref ygr, .int mF, .int mC, .int mY, .ref yta, .int (nI (mz)), .int (nI (f2_158)), .int (nI (t2_159)), .int mv, .int w2_160, .ref ywa, .ref ybi, .ref ysi, .ref ynu, .ref ymo])), (yta, .inl (cI, 120, .inl tp))] := hD
            refine lv_aload_n hx hb dX9_walkItem_123 rfl (lv_at hl 1 rfl) ?_
            refine lv_sipush (v := (-9999)) hx hb dX9_walkItem_124 (by decide) ?_
            refine lv_sipush (v := 9999) hx hb dX9_walkItem_127 (by decide) ?_
            refine xc_Vv (wr := [(ys, .inl (cI, 449, .inl ms)), (ywa, .inl (cI, 6, .inl a8))]) hF (c_X9_mile l D cI cJ cZ cS ta sa sv H.size h0 ys yk yo yt mk0 yfa yfe mL mS mM yro yhe ygr mF mC mY yta mz f2_158 t2_159 mv w2_160 ywa ybi ysi ynu ymo tp (-9999) 9999 (by omega) (by omega) (by omega) (by omega) (by omega)) kv_X9_287 ⟨rfl, rfl, Nat.le_of_ble_eq_true rfl, Nat.le_of_ble_eq_true rfl⟩ ⟨Nat.le_of_ble_eq_true rfl, Nat.le_of_ble_eq_true rfl⟩ hK hN hZ hP hD hS hA [2, 3] [0, 1] rfl rfl rfl rfl (by decide) 0 rfl rfl rfl rfl hl.1 rfl (Nat.le_of_ble_eq_true rfl) dX9_walkItem_130 (fun u_r_167 H locs hw_r_167 hP hD hS => ?_)
            obtain ⟨f2_168, t2_169, v2_170, w2_171⟩ := u_r_167
            try dsimp only at hw_r_167
            obtain ⟨i_172, i_173, i_174, i_175, i_176, i_177⟩ := hw_r_167
            have hP : va_P D vwCl [(ys, .inl (cI, 449, .inl ms)), (ywa, .inl (cI, 6, .inl a8)), (h0, .inr (9, [.ref ys, .ref yk, .ref yo, .ref yt, .int mk0, .ref yfa, .ref yfe, .int mL, .int mS, .int mM, .ref yro, .ref yhe, .ref ygr, .int mF, .int mC, .int mY, .ref yta, .int (nI (mz)), .int (nI (f2_168)), .int (nI (t2_169)), .int v2_170, .int w2_171, .ref ywa, .ref ybi, .ref ysi, .ref ynu, .ref ymo])), (yta, .inl (cI, 120, .inl tp))] H := hP
            have hD : va_D A [(ys, .inl (cI, 449, .inl ms)), (ywa, .inl (cI, 6, .inl a8)), (h0, .inr (9, [.ref ys, .ref yk, .ref yo, .ref yt, .int mk0, .ref yfa, .ref yfe, .int mL, .int mS, .int mM, .ref yro, .ref yhe, .ref ygr, .int mF, .int mC, .int mY, .ref yta, .int (nI (mz)), .int (nI (f2_168)), .int (nI (t2_169)), .int v2_170, .int w2_171, .ref ywa, .ref ybi, .ref ysi, .ref ynu, .ref ymo])), (yta, .inl (cI, 120, .inl tp))] := hD
            refine lv_aload_n hx hb dX9_walkItem_133 rfl (lv_at hl 1 rfl) ?_
            refine xg hF kf_X9_275 hK hP 2 rfl rfl dX9_walkItem_134 ?_
            refine lv_istore_n (lv' := [(2, .int v2_170), (1, .int (nI (n8))), (0, .ref h0)]) hx hb dX9_walkItem_137 rfl hl (by decide) rfl (fun ls hl => ?_)
            refine lv_iconst (v := 0) hx hb dX9_walkItem_138 (by decide) ?_
            refine lv_istore_n (lv' := [(3, .int 0), (2, .int v2_170), (1, .int (nI (n8))), (0, .ref h0)]) hx hb dX9_walkItem_139 rfl hl (by decide) rfl (fun ls hl => ?_)
            refine lv_aload_n hx hb dX9_walkItem_140 rfl (lv_at hl 3 rfl) ?_
            refine lv_bipush (v := 115) hx hb dX9_walkItem_141 (by decide) ?_
            refine lv_bipush (v := 108) hx hb dX9_walkItem_143 (by decide) ?_
            refine lv_bipush (v := 97) hx hb dX9_walkItem_145 (by decide) ?_
            refine lv_bipush (v := 99) hx hb dX9_walkItem_147 (by decide) ?_
            refine lv_bipush (v := 107) hx hb dX9_walkItem_149 (by decide) ?_
            refine lv_iconst (v := 0) hx hb dX9_walkItem_151 (by decide) ?_
            refine lv_iconst (v := 0) hx hb dX9_walkItem_152 (by decide) ?_
            refine xc_Vr hF (c_X9_isWord l D cI cJ cZ cS ta sa sv H.size h0 ys yk yo yt mk0 yfa yfe mL mS mM yro yhe ygr mF mC mY yta mz f2_168 t2_169 v2_170 w2_171 ywa ybi ysi ynu ymo tp 115 108 97 99 107 0 0 (by omega) (by omega)) kv_X9_290 ⟨rfl, rfl, Nat.le_of_ble_eq_true rfl, Nat.le_of_ble_eq_true rfl⟩ ⟨Nat.le_of_ble_eq_true rfl, Nat.le_of_ble_eq_true rfl⟩ hK hN hZ hP hD hS hA [2, 3] rfl rfl 0 rfl rfl rfl rfl hl.1 rfl (Nat.le_of_ble_eq_true rfl) dX9_walkItem_153 (fun r_178 hw_r_178 => ?_)
            rcases hw_r_178 with rfl | rfl
            · skip
              refine lv_if_eq (tgt := 176) hx hb dX9_walkItem_156 (by decide) (fun c_179 => absurd c_179 (by decide)) (fun c_179 => ?_)
              refine lv_aload_n hx hb dX9_walkItem_159 rfl (lv_at hl 3 rfl) ?_
              refine lv_iconst (v := 1) hx hb dX9_walkItem_160 (by decide) ?_
              refine xc_Vv (wr := [(ys, .inl (cI, 449, .inl ms)), (ywa, .inl (cI, 6, .inl a8))]) hF (c_X9_needs l D cI cJ cZ cS ta sa sv H.size h0 ys yk yo yt mk0 yfa yfe mL mS mM yro yhe ygr mF mC mY yta mz f2_168 t2_169 v2_170 w2_171 ywa ybi ysi ynu ymo tp 1 (by omega) (by omega) (by omega) (by omega) (by omega)) kv_X9_278 ⟨rfl, rfl, Nat.le_of_ble_eq_true rfl, Nat.le_of_ble_eq_true rfl⟩ ⟨Nat.le_of_ble_eq_true rfl, Nat.le_of_ble_eq_true rfl⟩ hK hN hZ hP hD hS hA [2, 3] [0, 1] rfl rfl rfl rfl (by decide) 0 rfl rfl rfl rfl hl.1 rfl (Nat.le_of_ble_eq_true rfl) dX9_walkItem_161 (fun u_r_180 H locs hw_r_180 hP hD hS => ?_)
              obtain ⟨f2_181, t2_182, w2_183⟩ := u_r_180
              try dsimp only at hw_r_180
              obtain ⟨i_184, i_185, i_186, i_187, i_188, i_189⟩ := hw_r_180
              have hP : va_P D vwCl [(ys, .inl (cI, 449, .inl ms)), (ywa, .inl (cI, 6, .inl a8)), (h0, .inr (9, [.ref ys, .ref yk, .ref yo, .ref yt, .int mk0, .ref yfa, .ref yfe, .int mL, .int mS, .int mM, .ref yro, .ref yhe, .ref ygr, .int mF, .int mC, .int mY, .ref yta, .int (nI (mz)), .int (nI (f2_181)), .int (nI (t2_182)), .int v2_170, .int w2_183, .ref ywa, .ref ybi, .ref ysi, .ref ynu, .ref ymo])), (yta, .inl (cI, 120, .inl tp))] H := hP
              have hD : va_D A [(ys, .inl (cI, 449, .inl ms)), (ywa, .inl (cI, 6, .inl a8)), (h0, .inr (9, [.ref ys, .ref yk, .ref yo, .ref yt, .int mk0, .ref yfa, .ref yfe, .int mL, .int mS, .int mM, .ref yro, .ref yhe, .ref ygr, .int mF, .int mC, .int mY, .ref yta, .int (nI (mz)), .int (nI (f2_181)), .int (nI (t2_182)), .int v2_170, .int w2_183, .ref ywa, .ref ybi, .ref ysi, .ref ynu, .ref ymo])), (yta, .inl (cI, 120, .inl tp))] := hD
              refine lv_aload_n hx hb dX9_walkItem_164 rfl (lv_at hl 3 rfl) ?_
              refine lv_iconst (v := 0) hx hb dX9_walkItem_165 (by decide) ?_
              refine lv_bipush (v := 99) hx hb dX9_walkItem_166 (by decide) ?_
              refine xc_Vv (wr := [(ys, .inl (cI, 449, .inl ms)), (ywa, .inl (cI, 6, .inl a8))]) hF (c_X9_number l D cI cJ cZ cS ta sa sv H.size h0 ys yk yo yt mk0 yfa yfe mL mS mM yro yhe ygr mF mC mY yta mz f2_181 t2_182 v2_170 w2_183 ywa ybi ysi ynu ymo tp 0 99 (by omega) (by omega) (by omega) (by omega) (by omega)) kv_X9_282 ⟨rfl, rfl, Nat.le_of_ble_eq_true rfl, Nat.le_of_ble_eq_true rfl⟩ ⟨Nat.le_of_ble_eq_true rfl, Nat.le_of_ble_eq_true rfl⟩ hK hN hZ hP hD hS hA [2, 3] [0, 1] rfl rfl rfl rfl (by decide) 0 rfl rfl rfl rfl hl.1 rfl (Nat.le_of_ble_eq_true rfl) dX9_walkItem_168 (fun u_r_190 H locs hw_r_190 hP hD hS => ?_)
              obtain ⟨f2_191, t2_192, v2_193, w2_194⟩ := u_r_190
              try dsimp only at hw_r_190
              obtain ⟨i_195, i_196, i_197, i_198, i_199, i_200⟩ := hw_r_190
              have hP : va_P D vwCl [(ys, .inl (cI, 449, .inl ms)), (ywa, .inl (cI, 6, .inl a8)), (h0, .inr (9, [.ref ys, .ref yk, .ref yo, .ref yt, .int mk0, .ref yfa, .ref yfe, .int mL, .int mS, .int mM, .ref yro, .ref yhe, .ref ygr, .int mF, .int mC, .int mY, .ref yta, .int (nI (mz)), .int (nI (f2_191)), .int (nI (t2_192)), .int v2_193, .int w2_194, .ref ywa, .ref ybi, .ref ysi, .ref ynu, .ref ymo])), (yta, .inl (cI, 120, .inl tp))] H := hP
              have hD : va_D A [(ys, .inl (cI, 449, .inl ms)), (ywa, .inl (cI, 6, .inl a8)), (h0, .inr (9, [.ref ys, .ref yk, .ref yo, .ref yt, .int mk0, .ref yfa, .ref yfe, .int mL, .int mS, .int mM, .ref yro, .ref yhe, .ref ygr, .int mF, .int mC, .int mY, .ref yta, .int (nI (mz)), .int (nI (f2_191)), .int (nI (t2_192)), .int v2_193, .int w2_194, .ref ywa, .ref ybi, .ref ysi, .ref ynu, .ref ymo])), (yta, .inl (cI, 120, .inl tp))] := hD
              refine lv_aload_n hx hb dX9_walkItem_171 rfl (lv_at hl 3 rfl) ?_
              refine xg hF kf_X9_275 hK hP 2 rfl rfl dX9_walkItem_172 ?_
              refine lv_istore_n (lv' := [(3, .int v2_193), (2, .int v2_170), (1, .int (nI (n8))), (0, .ref h0)]) hx hb dX9_walkItem_175 rfl hl (by decide) rfl (fun ls hl => ?_)
              refine lv_aload_n hx hb dX9_walkItem_176 rfl (lv_at hl 3 rfl) ?_
              refine xg hF kf_X9_266 hK hP 2 rfl rfl dX9_walkItem_177 ?_
              refine lv_if_ne (tgt := 252) hx hb dX9_walkItem_180 (by decide) (fun c_201 => ?_) (fun c_201 => absurd rfl (i_166 (i_177 (i_189 (i_200 c_201).1).1).1).2.1)
              exact W.vret hx hb hr (fun t ht hW => ⟨⟨(f2_191, t2_192, v2_193, w2_194, ms, a8, Wn), rfl, ⟨(by first | assumption | omega), (by first | assumption | omega), (by first | assumption | omega), (by first | assumption | omega), (by first | assumption | omega), (fun h => ⟨(i_11 (hc8 (i_166 (i_177 (i_189 (i_200 h).1).1).1).1).1).1, trivial⟩), hs0, hs1, hs2, hsS, hsM, hsp, hsr, hsw, hsR⟩, by rw [ht]; exact hP.sub [2, 0, 3, 1] rfl, hD.sub [2, 0, 3, 1] (by decide) rfl⟩, hS.F ht⟩) hS.2.2 dX9_walkItem_252 hlk
            · skip
              refine lv_if_eq (tgt := 176) hx hb dX9_walkItem_156 (by decide) (fun c_202 => ?_) (fun c_202 => absurd (by decide) c_202)
              refine lv_aload_n hx hb dX9_walkItem_176 rfl (lv_at hl 3 rfl) ?_
              refine xg hF kf_X9_266 hK hP 2 rfl rfl dX9_walkItem_177 ?_
              refine lv_if_ne (tgt := 252) hx hb dX9_walkItem_180 (by decide) (fun c_203 => ?_) (fun c_203 => absurd rfl (i_166 (i_177 c_203).1).2.1)
              exact W.vret hx hb hr (fun t ht hW => ⟨⟨(f2_168, t2_169, v2_170, w2_171, ms, a8, Wn), rfl, ⟨(by first | assumption | omega), (by first | assumption | omega), (by first | assumption | omega), (by first | assumption | omega), (by first | assumption | omega), (fun h => ⟨(i_11 (hc8 (i_166 (i_177 h).1).1).1).1, trivial⟩), hs0, hs1, hs2, hsS, hsM, hsp, hsr, hsw, hsR⟩, by rw [ht]; exact hP.sub [2, 0, 3, 1] rfl, hD.sub [2, 0, 3, 1] (by decide) rfl⟩, hS.F ht⟩) hS.2.2 dX9_walkItem_252 hlk
        · skip
          have nc_108 : n8 < 6 := xn_nle (a := 6) (b := n8) (by omega) (by omega) c_108
          refine lv_iload_n hx hb dX9_walkItem_35 rfl (lv_at hl 0 rfl) ?_
          refine lv_iconst (v := 2) hx hb dX9_walkItem_36 (by decide) ?_
          refine lv_icmp_lt (tgt := 54) hx hb dX9_walkItem_37 (by decide) (fun c_204 => ?_) (fun c_204 => ?_)
          · skip
            have nc_204 : n8 < 2 := xn_lt (a := n8) (b := 2) (by omega) (by omega) c_204
            refine lv_aload_n hx hb dX9_walkItem_54 rfl (lv_at hl 1 rfl) ?_
            refine xc_Vr hF (c_X9_numberHere l D cI cJ cZ cS ta sa sv H.size h0 ys yk yo yt mk0 yfa yfe mL mS mM yro yhe ygr mF mC mY yta mz f8 t8 mv w8 ywa ybi ysi ynu ymo tp (by omega) (by omega) (by omega) (by omega) (by omega)) kv_X9_284 ⟨rfl, rfl, Nat.le_of_ble_eq_true rfl, Nat.le_of_ble_eq_true rfl⟩ ⟨Nat.le_of_ble_eq_true rfl, Nat.le_of_ble_eq_true rfl⟩ hK hN hZ hP hD hS hA [2, 3] rfl rfl 0 rfl rfl rfl rfl hl.1 rfl (Nat.le_of_ble_eq_true rfl) dX9_walkItem_55 (fun r_205 hw_r_205 => ?_)
            refine lv_istore_n (lv' := [(2, .int r_205), (1, .int (nI (n8))), (0, .ref h0)]) hx hb dX9_walkItem_58 rfl hl (by decide) rfl (fun ls hl => ?_)
            refine lv_aload_n hx hb dX9_walkItem_59 rfl (lv_at hl 2 rfl) ?_
            refine lv_aload_n hx hb dX9_walkItem_60 rfl (lv_at hl 2 rfl) ?_
            refine lv_iload_n hx hb dX9_walkItem_61 rfl (lv_at hl 0 rfl) ?_
            refine xc_Vr hF (c_X9_isPlace l D cI cJ cZ cS ta sa sv H.size h0 ys yk yo yt mk0 yfa yfe mL mS mM yro yhe ygr mF mC mY yta mz f8 t8 mv w8 ywa ybi ysi ynu ymo ms P Rn Wn r_205 hs0 hs1 hs2 hsS hsM hsp hsr hsw hsR) kv_X9_61 ⟨rfl, rfl, Nat.le_of_ble_eq_true rfl, Nat.le_of_ble_eq_true rfl⟩ ⟨Nat.le_of_ble_eq_true rfl, Nat.le_of_ble_eq_true rfl⟩ hK hN hZ hP hD hS hA [2, 0] rfl rfl 0 rfl rfl rfl rfl hl.1 rfl (Nat.le_of_ble_eq_true rfl) dX9_walkItem_62 (fun r_206 hw_r_206 => ?_)
            rcases hw_r_206 with ⟨k_207, rfl, rfl, h_209⟩ | rfl
            · skip
              refine lv_if_eq (tgt := 88) hx hb dX9_walkItem_65 (by decide) (fun c_210 => absurd c_210 (by decide)) (fun c_210 => ?_)
              refine lv_iload_n hx hb dX9_walkItem_68 rfl (lv_at hl 1 rfl) ?_
              refine lv_if_eq (tgt := 84) hx hb dX9_walkItem_69 (by decide) (fun c_211 => ?_) (fun c_211 => ?_)
              · skip
                have nc_211 : n8 = 0 := xn_eq (a := n8) (b := 0) (by omega) (by omega) c_211
                refine lv_iconst (v := 1) hx hb dX9_walkItem_84 (by decide) ?_
                refine lv_goto (tgt := 89) hx hb dX9_walkItem_85 (by decide) ?_
                refine xc_Vv (wr := [(ys, .inl (cI, 449, .inl ms)), (ywa, .inl (cI, 6, .inl a8))]) hF (c_X9_needs l D cI cJ cZ cS ta sa sv H.size h0 ys yk yo yt mk0 yfa yfe mL mS mM yro yhe ygr mF mC mY yta mz f8 t8 mv w8 ywa ybi ysi ynu ymo tp 1 (by omega) (by omega) (by omega) (by omega) (by omega)) kv_X9_278 ⟨rfl, rfl, Nat.le_of_ble_eq_true rfl, Nat.le_of_ble_eq_true rfl⟩ ⟨Nat.le_of_ble_eq_true rfl, Nat.le_of_ble_eq_true rfl⟩ hK hN hZ hP hD hS hA [2, 3] [0, 1] rfl rfl rfl rfl (by decide) 0 rfl rfl rfl rfl hl.1 rfl (Nat.le_of_ble_eq_true rfl) dX9_walkItem_89 (fun u_r_212 H locs hw_r_212 hP hD hS => ?_)
                obtain ⟨f2_213, t2_214, w2_215⟩ := u_r_212
                try dsimp only at hw_r_212
                obtain ⟨i_216, i_217, i_218, i_219, i_220, i_221⟩ := hw_r_212
                have hP : va_P D vwCl [(ys, .inl (cI, 449, .inl ms)), (ywa, .inl (cI, 6, .inl a8)), (h0, .inr (9, [.ref ys, .ref yk, .ref yo, .ref yt, .int mk0, .ref yfa, .ref yfe, .int mL, .int mS, .int mM, .ref yro, .ref yhe, .ref ygr, .int mF, .int mC, .int mY, .ref yta, .int (nI (mz)), .int (nI (f2_213)), .int (nI (t2_214)), .int mv, .int w2_215, .ref ywa, .ref ybi, .ref ysi, .ref ynu, .ref ymo])), (yta, .inl (cI, 120, .inl tp))] H := hP
                have hD : va_D A [(ys, .inl (cI, 449, .inl ms)), (ywa, .inl (cI, 6, .inl a8)), (h0, .inr (9, [.ref ys, .ref yk, .ref yo, .ref yt, .int mk0, .ref yfa, .ref yfe, .int mL, .int mS, .int mM, .ref yro, .ref yhe, .ref ygr, .int mF, .int mC, .int mY, .ref yta, .int (nI (mz)), .int (nI (f2_213)), .int (nI (t2_214)), .int mv, .int w2_215, .ref ywa, .ref ybi, .ref ysi, .ref ynu, .ref ymo])), (yta, .inl (cI, 120, .inl tp))] := hD
                refine lv_aload_n hx hb dX9_walkItem_92 rfl (lv_at hl 2 rfl) ?_
                refine xg hF kf_X9_40 hK hP 2 rfl rfl dX9_walkItem_93 ?_
                refine lv_iload_n hx hb dX9_walkItem_96 rfl (lv_at hl 1 rfl) ?_
                refine lv_iload_n hx hb dX9_walkItem_97 rfl (lv_at hl 0 rfl) ?_
                refine va_iast hx hb hK hP hD hS 1 0 rfl rfl (vp_in_nI (show n8 < 6 by omega) (by decide)) dX9_walkItem_98 (fun H locs hP hD hS => ?_)
                rw [nI_clamp (show n8 < 2 ^ 31 by omega)] at hP hD
                obtain ⟨f_222, ef_222⟩ : ∃ g, g = upd a8 n8 (nI (k_207)) := ⟨_, rfl⟩
                rw [← ef_222] at hP hD
                have hP : va_P D vwCl [(ys, .inl (cI, 449, .inl ms)), (ywa, .inl (cI, 6, .inl f_222)), (h0, .inr (9, [.ref ys, .ref yk, .ref yo, .ref yt, .int mk0, .ref yfa, .ref yfe, .int mL, .int mS, .int mM, .ref yro, .ref yhe, .ref ygr, .int mF, .int mC, .int mY, .ref yta, .int (nI (mz)), .int (nI (f2_213)), .int (nI (t2_214)), .int mv, .int w2_215, .ref ywa, .ref ybi, .ref ysi, .ref ynu, .ref ymo])), (yta, .inl (cI, 120, .inl tp))] H := hP
                have hD : va_D A [(ys, .inl (cI, 449, .inl ms)), (ywa, .inl (cI, 6, .inl f_222)), (h0, .inr (9, [.ref ys, .ref yk, .ref yo, .ref yt, .int mk0, .ref yfa, .ref yfe, .int mL, .int mS, .int mM, .ref yro, .ref yhe, .ref ygr, .int mF, .int mC, .int mY, .ref yta, .int (nI (mz)), .int (nI (f2_213)), .int (nI (t2_214)), .int mv, .int w2_215, .ref ywa, .ref ybi, .ref ysi, .ref ynu, .ref ymo])), (yta, .inl (cI, 120, .inl tp))] := hD
                refine lv_iinc (v := nI (n8 + 1)) (lv' := [(1, .int (nI (n8 + 1))), (2, .int (nI (k_207))), (0, .ref h0)]) hx hb dX9_walkItem_99 hl (k := 1) rfl (nI_1 (n8)) (by decide) rfl (fun ls hl => ?_)
                refine lv_goto (tgt := 22) hx hb dX9_walkItem_102 (by decide) ?_
                exact ih_22 (n8 + 1) f2_213 t2_214 w2_215 f_222 _ _ _ (by omega) (by omega) (by omega) (by omega) (by omega) (by omega) (by omega) (fun h => ⟨(hc8 (i_221 h).1).1, trivial⟩) (wk_A.put hA8 c_12 (show k_207 < 10 by omega) ef_222) (hP.sub [0, 1, 2, 3] rfl) (hD.sub [0, 1, 2, 3] (by decide) rfl) hS (lv_sub hl [0, 2] rfl)
              · skip
                have nc_211 : n8 ≠ 0 := xn_ne (a := n8) (b := 0) (by omega) (by omega) c_211
                refine lv_iload_n hx hb dX9_walkItem_72 rfl (lv_at hl 0 rfl) ?_
                refine lv_aload_n hx hb dX9_walkItem_73 rfl (lv_at hl 2 rfl) ?_
                refine xg hF kf_X9_40 hK hP 2 rfl rfl dX9_walkItem_74 ?_
                refine lv_iload_n hx hb dX9_walkItem_77 rfl (lv_at hl 1 rfl) ?_
                refine lv_iconst (v := 1) hx hb dX9_walkItem_78 (by decide) ?_
                refine lv_isub hx hb dX9_walkItem_79 ?_
                refine xl_i (y := nI (n8 - 1)) (pk_sub (show 1 ≤ n8 by omega)) ?_
                refine va_iald hx hb hK hP 1 0 rfl rfl (vp_in_nI (show n8 - 1 < 6 by omega) (by decide)) dX9_walkItem_80 ?_
                refine xl_i (y := a8 (n8 - 1)) (congrArg a8 (nI_clamp (show n8 - 1 < 2 ^ 31 by omega))) ?_
                refine lv_icmp_eq (tgt := 88) hx hb dX9_walkItem_81 (by decide) (fun c_223 => ?_) (fun c_223 => ?_)
                · skip
                  refine lv_iconst (v := 0) hx hb dX9_walkItem_88 (by decide) ?_
                  refine xc_Vv (wr := [(ys, .inl (cI, 449, .inl ms)), (ywa, .inl (cI, 6, .inl a8))]) hF (c_X9_needs l D cI cJ cZ cS ta sa sv H.size h0 ys yk yo yt mk0 yfa yfe mL mS mM yro yhe ygr mF mC mY yta mz f8 t8 mv w8 ywa ybi ysi ynu ymo tp 0 (by omega) (by omega) (by omega) (by omega) (by omega)) kv_X9_278 ⟨rfl, rfl, Nat.le_of_ble_eq_true rfl, Nat.le_of_ble_eq_true rfl⟩ ⟨Nat.le_of_ble_eq_true rfl, Nat.le_of_ble_eq_true rfl⟩ hK hN hZ hP hD hS hA [2, 3] [0, 1] rfl rfl rfl rfl (by decide) 0 rfl rfl rfl rfl hl.1 rfl (Nat.le_of_ble_eq_true rfl) dX9_walkItem_89 (fun u_r_224 H locs hw_r_224 hP hD hS => ?_)
                  obtain ⟨f2_225, t2_226, w2_227⟩ := u_r_224
                  try dsimp only at hw_r_224
                  obtain ⟨i_228, i_229, i_230, i_231, i_232, i_233⟩ := hw_r_224
                  have hP : va_P D vwCl [(ys, .inl (cI, 449, .inl ms)), (ywa, .inl (cI, 6, .inl a8)), (h0, .inr (9, [.ref ys, .ref yk, .ref yo, .ref yt, .int mk0, .ref yfa, .ref yfe, .int mL, .int mS, .int mM, .ref yro, .ref yhe, .ref ygr, .int mF, .int mC, .int mY, .ref yta, .int (nI (mz)), .int (nI (f2_225)), .int (nI (t2_226)), .int mv, .int w2_227, .ref ywa, .ref ybi, .ref ysi, .ref ynu, .ref ymo])), (yta, .inl (cI, 120, .inl tp))] H := hP
                  have hD : va_D A [(ys, .inl (cI, 449, .inl ms)), (ywa, .inl (cI, 6, .inl a8)), (h0, .inr (9, [.ref ys, .ref yk, .ref yo, .ref yt, .int mk0, .ref yfa, .ref yfe, .int mL, .int mS, .int mM, .ref yro, .ref yhe, .ref ygr, .int mF, .int mC, .int mY, .ref yta, .int (nI (mz)), .int (nI (f2_225)), .int (nI (t2_226)), .int mv, .int w2_227, .ref ywa, .ref ybi, .ref ysi, .ref ynu, .ref ymo])), (yta, .inl (cI, 120, .inl tp))] := hD
                  refine lv_aload_n hx hb dX9_walkItem_92 rfl (lv_at hl 2 rfl) ?_
                  refine xg hF kf_X9_40 hK hP 2 rfl rfl dX9_walkItem_93 ?_
                  refine lv_iload_n hx hb dX9_walkItem_96 rfl (lv_at hl 1 rfl) ?_
                  refine lv_iload_n hx hb dX9_walkItem_97 rfl (lv_at hl 0 rfl) ?_
                  refine va_iast hx hb hK hP hD hS 1 0 rfl rfl (vp_in_nI (show n8 < 6 by omega) (by decide)) dX9_walkItem_98 (fun H locs hP hD hS => ?_)
                  rw [nI_clamp (show n8 < 2 ^ 31 by omega)] at hP hD
                  obtain ⟨f_234, ef_234⟩ : ∃ g, g = upd a8 n8 (nI (k_207)) := ⟨_, rfl⟩
                  rw [← ef_234] at hP hD
                  have hP : va_P D vwCl [(ys, .inl (cI, 449, .inl ms)), (ywa, .inl (cI, 6, .inl f_234)), (h0, .inr (9, [.ref ys, .ref yk, .ref yo, .ref yt, .int mk0, .ref yfa, .ref yfe, .int mL, .int mS, .int mM, .ref yro, .ref yhe, .ref ygr, .int mF, .int mC, .int mY, .ref yta, .int (nI (mz)), .int (nI (f2_225)), .int (nI (t2_226)), .int mv, .int w2_227, .ref ywa, .ref ybi, .ref ysi, .ref ynu, .ref ymo])), (yta, .inl (cI, 120, .inl tp))] H := hP
                  have hD : va_D A [(ys, .inl (cI, 449, .inl ms)), (ywa, .inl (cI, 6, .inl f_234)), (h0, .inr (9, [.ref ys, .ref yk, .ref yo, .ref yt, .int mk0, .ref yfa, .ref yfe, .int mL, .int mS, .int mM, .ref yro, .ref yhe, .ref ygr, .int mF, .int mC, .int mY, .ref yta, .int (nI (mz)), .int (nI (f2_225)), .int (nI (t2_226)), .int mv, .int w2_227, .ref ywa, .ref ybi, .ref ysi, .ref ynu, .ref ymo])), (yta, .inl (cI, 120, .inl tp))] := hD
                  refine lv_iinc (v := nI (n8 + 1)) (lv' := [(1, .int (nI (n8 + 1))), (2, .int (nI (k_207))), (0, .ref h0)]) hx hb dX9_walkItem_99 hl (k := 1) rfl (nI_1 (n8)) (by decide) rfl (fun ls hl => ?_)
                  refine lv_goto (tgt := 22) hx hb dX9_walkItem_102 (by decide) ?_
                  exact ih_22 (n8 + 1) f2_225 t2_226 w2_227 f_234 _ _ _ (by omega) (by omega) (by omega) (by omega) (by omega) (by omega) (by omega) (fun h => ⟨(hc8 (i_233 h).1).1, trivial⟩) (wk_A.no (fun h => absurd rfl (i_233 h).2.1)) (hP.sub [0, 1, 2, 3] rfl) (hD.sub [0, 1, 2, 3] (by decide) rfl) hS (lv_sub hl [0, 2] rfl)
                · skip
                  refine lv_iconst (v := 1) hx hb dX9_walkItem_84 (by decide) ?_
                  refine lv_goto (tgt := 89) hx hb dX9_walkItem_85 (by decide) ?_
                  refine xc_Vv (wr := [(ys, .inl (cI, 449, .inl ms)), (ywa, .inl (cI, 6, .inl a8))]) hF (c_X9_needs l D cI cJ cZ cS ta sa sv H.size h0 ys yk yo yt mk0 yfa yfe mL mS mM yro yhe ygr mF mC mY yta mz f8 t8 mv w8 ywa ybi ysi ynu ymo tp 1 (by omega) (by omega) (by omega) (by omega) (by omega)) kv_X9_278 ⟨rfl, rfl, Nat.le_of_ble_eq_true rfl, Nat.le_of_ble_eq_true rfl⟩ ⟨Nat.le_of_ble_eq_true rfl, Nat.le_of_ble_eq_true rfl⟩ hK hN hZ hP hD hS hA [2, 3] [0, 1] rfl rfl rfl rfl (by decide) 0 rfl rfl rfl rfl hl.1 rfl (Nat.le_of_ble_eq_true rfl) dX9_walkItem_89 (fun u_r_235 H locs hw_r_235 hP hD hS => ?_)
                  obtain ⟨f2_236, t2_237, w2_238⟩ := u_r_235
                  try dsimp only at hw_r_235
                  obtain ⟨i_239, i_240, i_241, i_242, i_243, i_244⟩ := hw_r_235
                  have hP : va_P D vwCl [(ys, .inl (cI, 449, .inl ms)), (ywa, .inl (cI, 6, .inl a8)), (h0, .inr (9, [.ref ys, .ref yk, .ref yo, .ref yt, .int mk0, .ref yfa, .ref yfe, .int mL, .int mS, .int mM, .ref yro, .ref yhe, .ref ygr, .int mF, .int mC, .int mY, .ref yta, .int (nI (mz)), .int (nI (f2_236)), .int (nI (t2_237)), .int mv, .int w2_238, .ref ywa, .ref ybi, .ref ysi, .ref ynu, .ref ymo])), (yta, .inl (cI, 120, .inl tp))] H := hP
                  have hD : va_D A [(ys, .inl (cI, 449, .inl ms)), (ywa, .inl (cI, 6, .inl a8)), (h0, .inr (9, [.ref ys, .ref yk, .ref yo, .ref yt, .int mk0, .ref yfa, .ref yfe, .int mL, .int mS, .int mM, .ref yro, .ref yhe, .ref ygr, .int mF, .int mC, .int mY, .ref yta, .int (nI (mz)), .int (nI (f2_236)), .int (nI (t2_237)), .int mv, .int w2_238, .ref ywa, .ref ybi, .ref ysi, .ref ynu, .ref ymo])), (yta, .inl (cI, 120, .inl tp))] := hD
                  refine lv_aload_n hx hb dX9_walkItem_92 rfl (lv_at hl 2 rfl) ?_
                  refine xg hF kf_X9_40 hK hP 2 rfl rfl dX9_walkItem_93 ?_
                  refine lv_iload_n hx hb dX9_walkItem_96 rfl (lv_at hl 1 rfl) ?_
                  refine lv_iload_n hx hb dX9_walkItem_97 rfl (lv_at hl 0 rfl) ?_
                  refine va_iast hx hb hK hP hD hS 1 0 rfl rfl (vp_in_nI (show n8 < 6 by omega) (by decide)) dX9_walkItem_98 (fun H locs hP hD hS => ?_)
                  rw [nI_clamp (show n8 < 2 ^ 31 by omega)] at hP hD
                  obtain ⟨f_245, ef_245⟩ : ∃ g, g = upd a8 n8 (nI (k_207)) := ⟨_, rfl⟩
                  rw [← ef_245] at hP hD
                  have hP : va_P D vwCl [(ys, .inl (cI, 449, .inl ms)), (ywa, .inl (cI, 6, .inl f_245)), (h0, .inr (9, [.ref ys, .ref yk, .ref yo, .ref yt, .int mk0, .ref yfa, .ref yfe, .int mL, .int mS, .int mM, .ref yro, .ref yhe, .ref ygr, .int mF, .int mC, .int mY, .ref yta, .int (nI (mz)), .int (nI (f2_236)), .int (nI (t2_237)), .int mv, .int w2_238, .ref ywa, .ref ybi, .ref ysi, .ref ynu, .ref ymo])), (yta, .inl (cI, 120, .inl tp))] H := hP
                  have hD : va_D A [(ys, .inl (cI, 449, .inl ms)), (ywa, .inl (cI, 6, .inl f_245)), (h0, .inr (9, [.ref ys, .ref yk, .ref yo, .ref yt, .int mk0, .ref yfa, .ref yfe, .int mL, .int mS, .int mM, .ref yro, .ref yhe, .ref ygr, .int mF, .int mC, .int mY, .ref yta, .int (nI (mz)), .int (nI (f2_236)), .int (nI (t2_237)), .int mv, .int w2_238, .ref ywa, .ref ybi, .ref ysi, .ref ynu, .ref ymo])), (yta, .inl (cI, 120, .inl tp))] := hD
                  refine lv_iinc (v := nI (n8 + 1)) (lv' := [(1, .int (nI (n8 + 1))), (2, .int (nI (k_207))), (0, .ref h0)]) hx hb dX9_walkItem_99 hl (k := 1) rfl (nI_1 (n8)) (by decide) rfl (fun ls hl => ?_)
                  refine lv_goto (tgt := 22) hx hb dX9_walkItem_102 (by decide) ?_
                  exact ih_22 (n8 + 1) f2_236 t2_237 w2_238 f_245 _ _ _ (by omega) (by omega) (by omega) (by omega) (by omega) (by omega) (by omega) (fun h => ⟨(hc8 (i_244 h).1).1, trivial⟩) (wk_A.put hA8 c_12 (show k_207 < 10 by omega) ef_245) (hP.sub [0, 1, 2, 3] rfl) (hD.sub [0, 1, 2, 3] (by decide) rfl) hS (lv_sub hl [0, 2] rfl)
            · skip
              refine lv_if_eq (tgt := 88) hx hb dX9_walkItem_65 (by decide) (fun c_246 => ?_) (fun c_246 => absurd (by decide) c_246)
              refine lv_iconst (v := 0) hx hb dX9_walkItem_88 (by decide) ?_
              refine xc_Vv (wr := [(ys, .inl (cI, 449, .inl ms)), (ywa, .inl (cI, 6, .inl a8))]) hF (c_X9_needs l D cI cJ cZ cS ta sa sv H.size h0 ys yk yo yt mk0 yfa yfe mL mS mM yro yhe ygr mF mC mY yta mz f8 t8 mv w8 ywa ybi ysi ynu ymo tp 0 (by omega) (by omega) (by omega) (by omega) (by omega)) kv_X9_278 ⟨rfl, rfl, Nat.le_of_ble_eq_true rfl, Nat.le_of_ble_eq_true rfl⟩ ⟨Nat.le_of_ble_eq_true rfl, Nat.le_of_ble_eq_true rfl⟩ hK hN hZ hP hD hS hA [2, 3] [0, 1] rfl rfl rfl rfl (by decide) 0 rfl rfl rfl rfl hl.1 rfl (Nat.le_of_ble_eq_true rfl) dX9_walkItem_89 (fun u_r_247 H locs hw_r_247 hP hD hS => ?_)
              obtain ⟨f2_248, t2_249, w2_250⟩ := u_r_247
              try dsimp only at hw_r_247
              obtain ⟨i_251, i_252, i_253, i_254, i_255, i_256⟩ := hw_r_247
              have hP : va_P D vwCl [(ys, .inl (cI, 449, .inl ms)), (ywa, .inl (cI, 6, .inl a8)), (h0, .inr (9, [.ref ys, .ref yk, .ref yo, .ref yt, .int mk0, .ref yfa, .ref yfe, .int mL, .int mS, .int mM, .ref yro, .ref yhe, .ref ygr, .int mF, .int mC, .int mY, .ref yta, .int (nI (mz)), .int (nI (f2_248)), .int (nI (t2_249)), .int mv, .int w2_250, .ref ywa, .ref ybi, .ref ysi, .ref ynu, .ref ymo])), (yta, .inl (cI, 120, .inl tp))] H := hP
              have hD : va_D A [(ys, .inl (cI, 449, .inl ms)), (ywa, .inl (cI, 6, .inl a8)), (h0, .inr (9, [.ref ys, .ref yk, .ref yo, .ref yt, .int mk0, .ref yfa, .ref yfe, .int mL, .int mS, .int mM, .ref yro, .ref yhe, .ref ygr, .int mF, .int mC, .int mY, .ref yta, .int (nI (mz)), .int (nI (f2_248)), .int (nI (t2_249)), .int mv, .int w2_250, .ref ywa, .ref ybi, .ref ysi, .ref ynu, .ref ymo])), (yta, .inl (cI, 120, .inl tp))] := hD
              refine lv_aload_n hx hb dX9_walkItem_92 rfl (lv_at hl 2 rfl) ?_
              refine xg hF kf_X9_40 hK hP 2 rfl rfl dX9_walkItem_93 ?_
              refine lv_iload_n hx hb dX9_walkItem_96 rfl (lv_at hl 1 rfl) ?_
              refine lv_iload_n hx hb dX9_walkItem_97 rfl (lv_at hl 0 rfl) ?_
              refine va_iast hx hb hK hP hD hS 1 0 rfl rfl (vp_in_nI (show n8 < 6 by omega) (by decide)) dX9_walkItem_98 (fun H locs hP hD hS => ?_)
              rw [nI_clamp (show n8 < 2 ^ 31 by omega)] at hP hD
              obtain ⟨f_257, ef_257⟩ : ∃ g, g = upd a8 n8 r_205 := ⟨_, rfl⟩
              rw [← ef_257] at hP hD
              have hP : va_P D vwCl [(ys, .inl (cI, 449, .inl ms)), (ywa, .inl (cI, 6, .inl f_257)), (h0, .inr (9, [.ref ys, .ref yk, .ref yo, .ref yt, .int mk0, .ref yfa, .ref yfe, .int mL, .int mS, .int mM, .ref yro, .ref yhe, .ref ygr, .int mF, .int mC, .int mY, .ref yta, .int (nI (mz)), .int (nI (f2_248)), .int (nI (t2_249)), .int mv, .int w2_250, .ref ywa, .ref ybi, .ref ysi, .ref ynu, .ref ymo])), (yta, .inl (cI, 120, .inl tp))] H := hP
              have hD : va_D A [(ys, .inl (cI, 449, .inl ms)), (ywa, .inl (cI, 6, .inl f_257)), (h0, .inr (9, [.ref ys, .ref yk, .ref yo, .ref yt, .int mk0, .ref yfa, .ref yfe, .int mL, .int mS, .int mM, .ref yro, .ref yhe, .ref ygr, .int mF, .int mC, .int mY, .ref yta, .int (nI (mz)), .int (nI (f2_248)), .int (nI (t2_249)), .int mv, .int w2_250, .ref ywa, .ref ybi, .ref ysi, .ref ynu, .ref ymo])), (yta, .inl (cI, 120, .inl tp))] := hD
              refine lv_iinc (v := nI (n8 + 1)) (lv' := [(1, .int (nI (n8 + 1))), (2, .int r_205), (0, .ref h0)]) hx hb dX9_walkItem_99 hl (k := 1) rfl (nI_1 (n8)) (by decide) rfl (fun ls hl => ?_)
              refine lv_goto (tgt := 22) hx hb dX9_walkItem_102 (by decide) ?_
              exact ih_22 (n8 + 1) f2_248 t2_249 w2_250 f_257 _ _ _ (by omega) (by omega) (by omega) (by omega) (by omega) (by omega) (by omega) (fun h => ⟨(hc8 (i_256 h).1).1, trivial⟩) (wk_A.no (fun h => absurd rfl (i_256 h).2.1)) (hP.sub [0, 1, 2, 3] rfl) (hD.sub [0, 1, 2, 3] (by decide) rfl) hS (lv_sub hl [0, 2] rfl)
          · skip
            have nc_204 : 2 ≤ n8 := xn_nlt (a := n8) (b := 2) (by omega) (by omega) c_204
            refine lv_aload_n hx hb dX9_walkItem_40 rfl (lv_at hl 1 rfl) ?_
            refine lv_aload_n hx hb dX9_walkItem_41 rfl (lv_at hl 1 rfl) ?_
            refine xg hF kf_X9_254 hK hP 2 rfl rfl dX9_walkItem_42 ?_
            refine xc_Vr hF (c_X9_byteAt l D cI cJ cZ cS ta sa sv H.size h0 ys yk yo yt mk0 yfa yfe mL mS mM yro yhe ygr mF mC mY yta mz f8 t8 mv w8 ywa ybi ysi ynu ymo tp f8 (by omega) (by omega)) kv_X9_257 ⟨rfl, rfl, Nat.le_of_ble_eq_true rfl, Nat.le_of_ble_eq_true rfl⟩ ⟨Nat.le_of_ble_eq_true rfl, Nat.le_of_ble_eq_true rfl⟩ hK hN hZ hP hD hS hA [2, 3] rfl rfl 0 rfl rfl rfl rfl hl.1 rfl (Nat.le_of_ble_eq_true rfl) dX9_walkItem_45 (fun r_258 hw_r_258 => ?_)
            rcases hw_r_258 with ⟨rfl, h_259⟩ | ⟨rfl, h_260⟩
            · skip
              refine xc_Sr hF (c_X9_isDigit l D cI cJ cZ cS ta sa sv H.size (tp f8) ) ks_X9_263 ⟨rfl, rfl, Nat.le_of_ble_eq_true rfl, Nat.le_of_ble_eq_true rfl⟩ ⟨Nat.le_of_ble_eq_true rfl, Nat.le_of_ble_eq_true rfl⟩ hK hN hZ hP hD hS hA [] rfl rfl rfl hl.1 rfl (Nat.le_of_ble_eq_true rfl) dX9_walkItem_48 (fun r_261 hw_r_261 => ?_)
              rcases hw_r_261 with ⟨rfl, h_262, h_263⟩ | ⟨rfl, h_264⟩
              · skip
                refine lv_if_eq (tgt := 105) hx hb dX9_walkItem_51 (by decide) (fun c_265 => absurd c_265 (by decide)) (fun c_265 => ?_)
                refine lv_aload_n hx hb dX9_walkItem_54 rfl (lv_at hl 1 rfl) ?_
                refine xc_Vr hF (c_X9_numberHere l D cI cJ cZ cS ta sa sv H.size h0 ys yk yo yt mk0 yfa yfe mL mS mM yro yhe ygr mF mC mY yta mz f8 t8 mv w8 ywa ybi ysi ynu ymo tp (by omega) (by omega) (by omega) (by omega) (by omega)) kv_X9_284 ⟨rfl, rfl, Nat.le_of_ble_eq_true rfl, Nat.le_of_ble_eq_true rfl⟩ ⟨Nat.le_of_ble_eq_true rfl, Nat.le_of_ble_eq_true rfl⟩ hK hN hZ hP hD hS hA [2, 3] rfl rfl 0 rfl rfl rfl rfl hl.1 rfl (Nat.le_of_ble_eq_true rfl) dX9_walkItem_55 (fun r_266 hw_r_266 => ?_)
                refine lv_istore_n (lv' := [(2, .int r_266), (1, .int (nI (n8))), (0, .ref h0)]) hx hb dX9_walkItem_58 rfl hl (by decide) rfl (fun ls hl => ?_)
                refine lv_aload_n hx hb dX9_walkItem_59 rfl (lv_at hl 2 rfl) ?_
                refine lv_aload_n hx hb dX9_walkItem_60 rfl (lv_at hl 2 rfl) ?_
                refine lv_iload_n hx hb dX9_walkItem_61 rfl (lv_at hl 0 rfl) ?_
                refine xc_Vr hF (c_X9_isPlace l D cI cJ cZ cS ta sa sv H.size h0 ys yk yo yt mk0 yfa yfe mL mS mM yro yhe ygr mF mC mY yta mz f8 t8 mv w8 ywa ybi ysi ynu ymo ms P Rn Wn r_266 hs0 hs1 hs2 hsS hsM hsp hsr hsw hsR) kv_X9_61 ⟨rfl, rfl, Nat.le_of_ble_eq_true rfl, Nat.le_of_ble_eq_true rfl⟩ ⟨Nat.le_of_ble_eq_true rfl, Nat.le_of_ble_eq_true rfl⟩ hK hN hZ hP hD hS hA [2, 0] rfl rfl 0 rfl rfl rfl rfl hl.1 rfl (Nat.le_of_ble_eq_true rfl) dX9_walkItem_62 (fun r_267 hw_r_267 => ?_)
                rcases hw_r_267 with ⟨k_268, rfl, rfl, h_270⟩ | rfl
                · skip
                  refine lv_if_eq (tgt := 88) hx hb dX9_walkItem_65 (by decide) (fun c_271 => absurd c_271 (by decide)) (fun c_271 => ?_)
                  refine lv_iload_n hx hb dX9_walkItem_68 rfl (lv_at hl 1 rfl) ?_
                  refine lv_if_eq (tgt := 84) hx hb dX9_walkItem_69 (by decide) (fun c_272 => ?_) (fun c_272 => ?_)
                  · skip
                    have nc_272 : n8 = 0 := xn_eq (a := n8) (b := 0) (by omega) (by omega) c_272
                    refine lv_iconst (v := 1) hx hb dX9_walkItem_84 (by decide) ?_
                    refine lv_goto (tgt := 89) hx hb dX9_walkItem_85 (by decide) ?_
                    refine xc_Vv (wr := [(ys, .inl (cI, 449, .inl ms)), (ywa, .inl (cI, 6, .inl a8))]) hF (c_X9_needs l D cI cJ cZ cS ta sa sv H.size h0 ys yk yo yt mk0 yfa yfe mL mS mM yro yhe ygr mF mC mY yta mz f8 t8 mv w8 ywa ybi ysi ynu ymo tp 1 (by omega) (by omega) (by omega) (by omega) (by omega)) kv_X9_278 ⟨rfl, rfl, Nat.le_of_ble_eq_true rfl, Nat.le_of_ble_eq_true rfl⟩ ⟨Nat.le_of_ble_eq_true rfl, Nat.le_of_ble_eq_true rfl⟩ hK hN hZ hP hD hS hA [2, 3] [0, 1] rfl rfl rfl rfl (by decide) 0 rfl rfl rfl rfl hl.1 rfl (Nat.le_of_ble_eq_true rfl) dX9_walkItem_89 (fun u_r_273 H locs hw_r_273 hP hD hS => ?_)
                    obtain ⟨f2_274, t2_275, w2_276⟩ := u_r_273
                    try dsimp only at hw_r_273
                    obtain ⟨i_277, i_278, i_279, i_280, i_281, i_282⟩ := hw_r_273
                    have hP : va_P D vwCl [(ys, .inl (cI, 449, .inl ms)), (ywa, .inl (cI, 6, .inl a8)), (h0, .inr (9, [.ref ys, .ref yk, .ref yo, .ref yt, .int mk0, .ref yfa, .ref yfe, .int mL, .int mS, .int mM, .ref yro, .ref yhe, .ref ygr, .int mF, .int mC, .int mY, .ref yta, .int (nI (mz)), .int (nI (f2_274)), .int (nI (t2_275)), .int mv, .int w2_276, .ref ywa, .ref ybi, .ref ysi, .ref ynu, .ref ymo])), (yta, .inl (cI, 120, .inl tp))] H := hP
                    have hD : va_D A [(ys, .inl (cI, 449, .inl ms)), (ywa, .inl (cI, 6, .inl a8)), (h0, .inr (9, [.ref ys, .ref yk, .ref yo, .ref yt, .int mk0, .ref yfa, .ref yfe, .int mL, .int mS, .int mM, .ref yro, .ref yhe, .ref ygr, .int mF, .int mC, .int mY, .ref yta, .int (nI (mz)), .int (nI (f2_274)), .int (nI (t2_275)), .int mv, .int w2_276, .ref ywa, .ref ybi, .ref ysi, .ref ynu, .ref ymo])), (yta, .inl (cI, 120, .inl tp))] := hD
                    refine lv_aload_n hx hb dX9_walkItem_92 rfl (lv_at hl 2 rfl) ?_
                    refine xg hF kf_X9_40 hK hP 2 rfl rfl dX9_walkItem_93 ?_
                    refine lv_iload_n hx hb dX9_walkItem_96 rfl (lv_at hl 1 rfl) ?_
                    refine lv_iload_n hx hb dX9_walkItem_97 rfl (lv_at hl 0 rfl) ?_
                    refine va_iast hx hb hK hP hD hS 1 0 rfl rfl (vp_in_nI (show n8 < 6 by omega) (by decide)) dX9_walkItem_98 (fun H locs hP hD hS => ?_)
                    rw [nI_clamp (show n8 < 2 ^ 31 by omega)] at hP hD
                    obtain ⟨f_283, ef_283⟩ : ∃ g, g = upd a8 n8 (nI (k_268)) := ⟨_, rfl⟩
                    rw [← ef_283] at hP hD
                    have hP : va_P D vwCl [(ys, .inl (cI, 449, .inl ms)), (ywa, .inl (cI, 6, .inl f_283)), (h0, .inr (9, [.ref ys, .ref yk, .ref yo, .ref yt, .int mk0, .ref yfa, .ref yfe, .int mL, .int mS, .int mM, .ref yro, .ref yhe, .ref ygr, .int mF, .int mC, .int mY, .ref yta, .int (nI (mz)), .int (nI (f2_274)), .int (nI (t2_275)), .int mv, .int w2_276, .ref ywa, .ref ybi, .ref ysi, .ref ynu, .ref ymo])), (yta, .inl (cI, 120, .inl tp))] H := hP
                    have hD : va_D A [(ys, .inl (cI, 449, .inl ms)), (ywa, .inl (cI, 6, .inl f_283)), (h0, .inr (9, [.ref ys, .ref yk, .ref yo, .ref yt, .int mk0, .ref yfa, .ref yfe, .int mL, .int mS, .int mM, .ref yro, .ref yhe, .ref ygr, .int mF, .int mC, .int mY, .ref yta, .int (nI (mz)), .int (nI (f2_274)), .int (nI (t2_275)), .int mv, .int w2_276, .ref ywa, .ref ybi, .ref ysi, .ref ynu, .ref ymo])), (yta, .inl (cI, 120, .inl tp))] := hD
                    refine lv_iinc (v := nI (n8 + 1)) (lv' := [(1, .int (nI (n8 + 1))), (2, .int (nI (k_268))), (0, .ref h0)]) hx hb dX9_walkItem_99 hl (k := 1) rfl (nI_1 (n8)) (by decide) rfl (fun ls hl => ?_)
                    refine lv_goto (tgt := 22) hx hb dX9_walkItem_102 (by decide) ?_
                    exact ih_22 (n8 + 1) f2_274 t2_275 w2_276 f_283 _ _ _ (by omega) (by omega) (by omega) (by omega) (by omega) (by omega) (by omega) (fun h => ⟨(hc8 (i_282 h).1).1, trivial⟩) (wk_A.put hA8 c_12 (show k_268 < 10 by omega) ef_283) (hP.sub [0, 1, 2, 3] rfl) (hD.sub [0, 1, 2, 3] (by decide) rfl) hS (lv_sub hl [0, 2] rfl)
                  · skip
                    have nc_272 : n8 ≠ 0 := xn_ne (a := n8) (b := 0) (by omega) (by omega) c_272
                    refine lv_iload_n hx hb dX9_walkItem_72 rfl (lv_at hl 0 rfl) ?_
                    refine lv_aload_n hx hb dX9_walkItem_73 rfl (lv_at hl 2 rfl) ?_
                    refine xg hF kf_X9_40 hK hP 2 rfl rfl dX9_walkItem_74 ?_
                    refine lv_iload_n hx hb dX9_walkItem_77 rfl (lv_at hl 1 rfl) ?_
                    refine lv_iconst (v := 1) hx hb dX9_walkItem_78 (by decide) ?_
                    refine lv_isub hx hb dX9_walkItem_79 ?_
                    refine xl_i (y := nI (n8 - 1)) (pk_sub (show 1 ≤ n8 by omega)) ?_
                    refine va_iald hx hb hK hP 1 0 rfl rfl (vp_in_nI (show n8 - 1 < 6 by omega) (by decide)) dX9_walkItem_80 ?_
                    refine xl_i (y := a8 (n8 - 1)) (congrArg a8 (nI_clamp (show n8 - 1 < 2 ^ 31 by omega))) ?_
                    refine lv_icmp_eq (tgt := 88) hx hb dX9_walkItem_81 (by decide) (fun c_284 => ?_) (fun c_284 => ?_)
                    · skip
                      refine lv_iconst (v := 0) hx hb dX9_walkItem_88 (by decide) ?_
                      refine xc_Vv (wr := [(ys, .inl (cI, 449, .inl ms)), (ywa, .inl (cI, 6, .inl a8))]) hF (c_X9_needs l D cI cJ cZ cS ta sa sv H.size h0 ys yk yo yt mk0 yfa yfe mL mS mM yro yhe ygr mF mC mY yta mz f8 t8 mv w8 ywa ybi ysi ynu ymo tp 0 (by omega) (by omega) (by omega) (by omega) (by omega)) kv_X9_278 ⟨rfl, rfl, Nat.le_of_ble_eq_true rfl, Nat.le_of_ble_eq_true rfl⟩ ⟨Nat.le_of_ble_eq_true rfl, Nat.le_of_ble_eq_true rfl⟩ hK hN hZ hP hD hS hA [2, 3] [0, 1] rfl rfl rfl rfl (by decide) 0 rfl rfl rfl rfl hl.1 rfl (Nat.le_of_ble_eq_true rfl) dX9_walkItem_89 (fun u_r_285 H locs hw_r_285 hP hD hS => ?_)
                      obtain ⟨f2_286, t2_287, w2_288⟩ := u_r_285
                      try dsimp only at hw_r_285
                      obtain ⟨i_289, i_290, i_291, i_292, i_293, i_294⟩ := hw_r_285
                      have hP : va_P D vwCl [(ys, .inl (cI, 449, .inl ms)), (ywa, .inl (cI, 6, .inl a8)), (h0, .inr (9, [.ref ys, .ref yk, .ref yo, .ref yt, .int mk0, .ref yfa, .ref yfe, .int mL, .int mS, .int mM, .ref yro, .ref yhe, .ref ygr, .int mF, .int mC, .int mY, .ref yta, .int (nI (mz)), .int (nI (f2_286)), .int (nI (t2_287)), .int mv, .int w2_288, .ref ywa, .ref ybi, .ref ysi, .ref ynu, .ref ymo])), (yta, .inl (cI, 120, .inl tp))] H := hP
                      have hD : va_D A [(ys, .inl (cI, 449, .inl ms)), (ywa, .inl (cI, 6, .inl a8)), (h0, .inr (9, [.ref ys, .ref yk, .ref yo, .ref yt, .int mk0, .ref yfa, .ref yfe, .int mL, .int mS, .int mM, .ref yro, .ref yhe, .ref ygr, .int mF, .int mC, .int mY, .ref yta, .int (nI (mz)), .int (nI (f2_286)), .int (nI (t2_287)), .int mv, .int w2_288, .ref ywa, .ref ybi, .ref ysi, .ref ynu, .ref ymo])), (yta, .inl (cI, 120, .inl tp))] := hD
                      refine lv_aload_n hx hb dX9_walkItem_92 rfl (lv_at hl 2 rfl) ?_
                      refine xg hF kf_X9_40 hK hP 2 rfl rfl dX9_walkItem_93 ?_
                      refine lv_iload_n hx hb dX9_walkItem_96 rfl (lv_at hl 1 rfl) ?_
                      refine lv_iload_n hx hb dX9_walkItem_97 rfl (lv_at hl 0 rfl) ?_
                      refine va_iast hx hb hK hP hD hS 1 0 rfl rfl (vp_in_nI (show n8 < 6 by omega) (by decide)) dX9_walkItem_98 (fun H locs hP hD hS => ?_)
                      rw [nI_clamp (show n8 < 2 ^ 31 by omega)] at hP hD
                      obtain ⟨f_295, ef_295⟩ : ∃ g, g = upd a8 n8 (nI (k_268)) := ⟨_, rfl⟩
                      rw [← ef_295] at hP hD
                      have hP : va_P D vwCl [(ys, .inl (cI, 449, .inl ms)), (ywa, .inl (cI, 6, .inl f_295)), (h0, .inr (9, [.ref ys, .ref yk, .ref yo, .ref yt, .int mk0, .ref yfa, .ref yfe, .int mL, .int mS, .int mM, .ref yro, .ref yhe, .ref ygr, .int mF, .int mC, .int mY, .ref yta, .int (nI (mz)), .int (nI (f2_286)), .int (nI (t2_287)), .int mv, .int w2_288, .ref ywa, .ref ybi, .ref ysi, .ref ynu, .ref ymo])), (yta, .inl (cI, 120, .inl tp))] H := hP
                      have hD : va_D A [(ys, .inl (cI, 449, .inl ms)), (ywa, .inl (cI, 6, .inl f_295)), (h0, .inr (9, [.ref ys, .ref yk, .ref yo, .ref yt, .int mk0, .ref yfa, .ref yfe, .int mL, .int mS, .int mM, .ref yro, .ref yhe, .ref ygr, .int mF, .int mC, .int mY, .ref yta, .int (nI (mz)), .int (nI (f2_286)), .int (nI (t2_287)), .int mv, .int w2_288, .ref ywa, .ref ybi, .ref ysi, .ref ynu, .ref ymo])), (yta, .inl (cI, 120, .inl tp))] := hD
                      refine lv_iinc (v := nI (n8 + 1)) (lv' := [(1, .int (nI (n8 + 1))), (2, .int (nI (k_268))), (0, .ref h0)]) hx hb dX9_walkItem_99 hl (k := 1) rfl (nI_1 (n8)) (by decide) rfl (fun ls hl => ?_)
                      refine lv_goto (tgt := 22) hx hb dX9_walkItem_102 (by decide) ?_
                      exact ih_22 (n8 + 1) f2_286 t2_287 w2_288 f_295 _ _ _ (by omega) (by omega) (by omega) (by omega) (by omega) (by omega) (by omega) (fun h => ⟨(hc8 (i_294 h).1).1, trivial⟩) (wk_A.no (fun h => absurd rfl (i_294 h).2.1)) (hP.sub [0, 1, 2, 3] rfl) (hD.sub [0, 1, 2, 3] (by decide) rfl) hS (lv_sub hl [0, 2] rfl)
                    · skip
                      refine lv_iconst (v := 1) hx hb dX9_walkItem_84 (by decide) ?_
                      refine lv_goto (tgt := 89) hx hb dX9_walkItem_85 (by decide) ?_
                      refine xc_Vv (wr := [(ys, .inl (cI, 449, .inl ms)), (ywa, .inl (cI, 6, .inl a8))]) hF (c_X9_needs l D cI cJ cZ cS ta sa sv H.size h0 ys yk yo yt mk0 yfa yfe mL mS mM yro yhe ygr mF mC mY yta mz f8 t8 mv w8 ywa ybi ysi ynu ymo tp 1 (by omega) (by omega) (by omega) (by omega) (by omega)) kv_X9_278 ⟨rfl, rfl, Nat.le_of_ble_eq_true rfl, Nat.le_of_ble_eq_true rfl⟩ ⟨Nat.le_of_ble_eq_true rfl, Nat.le_of_ble_eq_true rfl⟩ hK hN hZ hP hD hS hA [2, 3] [0, 1] rfl rfl rfl rfl (by decide) 0 rfl rfl rfl rfl hl.1 rfl (Nat.le_of_ble_eq_true rfl) dX9_walkItem_89 (fun u_r_296 H locs hw_r_296 hP hD hS => ?_)
                      obtain ⟨f2_297, t2_298, w2_299⟩ := u_r_296
                      try dsimp only at hw_r_296
                      obtain ⟨i_300, i_301, i_302, i_303, i_304, i_305⟩ := hw_r_296
                      have hP : va_P D vwCl [(ys, .inl (cI, 449, .inl ms)), (ywa, .inl (cI, 6, .inl a8)), (h0, .inr (9, [.ref ys, .ref yk, .ref yo, .ref yt, .int mk0, .ref yfa, .ref yfe, .int mL, .int mS, .int mM, .ref yro, .ref yhe, .ref ygr, .int mF, .int mC, .int mY, .ref yta, .int (nI (mz)), .int (nI (f2_297)), .int (nI (t2_298)), .int mv, .int w2_299, .ref ywa, .ref ybi, .ref ysi, .ref ynu, .ref ymo])), (yta, .inl (cI, 120, .inl tp))] H := hP
                      have hD : va_D A [(ys, .inl (cI, 449, .inl ms)), (ywa, .inl (cI, 6, .inl a8)), (h0, .inr (9, [.ref ys, .ref yk, .ref yo, .ref yt, .int mk0, .ref yfa, .ref yfe, .int mL, .int mS, .int mM, .ref yro, .ref yhe, .ref ygr, .int mF, .int mC, .int mY, .ref yta, .int (nI (mz)), .int (nI (f2_297)), .int (nI (t2_298)), .int mv, .int w2_299, .ref ywa, .ref ybi, .ref ysi, .ref ynu, .ref ymo])), (yta, .inl (cI, 120, .inl tp))] := hD
                      refine lv_aload_n hx hb dX9_walkItem_92 rfl (lv_at hl 2 rfl) ?_
                      refine xg hF kf_X9_40 hK hP 2 rfl rfl dX9_walkItem_93 ?_
                      refine lv_iload_n hx hb dX9_walkItem_96 rfl (lv_at hl 1 rfl) ?_
                      refine lv_iload_n hx hb dX9_walkItem_97 rfl (lv_at hl 0 rfl) ?_
                      refine va_iast hx hb hK hP hD hS 1 0 rfl rfl (vp_in_nI (show n8 < 6 by omega) (by decide)) dX9_walkItem_98 (fun H locs hP hD hS => ?_)
                      rw [nI_clamp (show n8 < 2 ^ 31 by omega)] at hP hD
                      obtain ⟨f_306, ef_306⟩ : ∃ g, g = upd a8 n8 (nI (k_268)) := ⟨_, rfl⟩
                      rw [← ef_306] at hP hD
                      have hP : va_P D vwCl [(ys, .inl (cI, 449, .inl ms)), (ywa, .inl (cI, 6, .inl f_306)), (h0, .inr (9, [.ref ys, .ref yk, .ref yo, .ref yt, .int mk0, .ref yfa, .ref yfe, .int mL, .int mS, .int mM, .ref yro, .ref yhe, .ref ygr, .int mF, .int mC, .int mY, .ref yta, .int (nI (mz)), .int (nI (f2_297)), .int (nI (t2_298)), .int mv, .int w2_299, .ref ywa, .ref ybi, .ref ysi, .ref ynu, .ref ymo])), (yta, .inl (cI, 120, .inl tp))] H := hP
                      have hD : va_D A [(ys, .inl (cI, 449, .inl ms)), (ywa, .inl (cI, 6, .inl f_306)), (h0, .inr (9, [.ref ys, .ref yk, .ref yo, .ref yt, .int mk0, .ref yfa, .ref yfe, .int mL, .int mS, .int mM, .ref yro, .ref yhe, .ref ygr, .int mF, .int mC, .int mY, .ref yta, .int (nI (mz)), .int (nI (f2_297)), .int (nI (t2_298)), .int mv, .int w2_299, .ref ywa, .ref ybi, .ref ysi, .ref ynu, .ref ymo])), (yta, .inl (cI, 120, .inl tp))] := hD
                      refine lv_iinc (v := nI (n8 + 1)) (lv' := [(1, .int (nI (n8 + 1))), (2, .int (nI (k_268))), (0, .ref h0)]) hx hb dX9_walkItem_99 hl (k := 1) rfl (nI_1 (n8)) (by decide) rfl (fun ls hl => ?_)
                      refine lv_goto (tgt := 22) hx hb dX9_walkItem_102 (by decide) ?_
                      exact ih_22 (n8 + 1) f2_297 t2_298 w2_299 f_306 _ _ _ (by omega) (by omega) (by omega) (by omega) (by omega) (by omega) (by omega) (fun h => ⟨(hc8 (i_305 h).1).1, trivial⟩) (wk_A.put hA8 c_12 (show k_268 < 10 by omega) ef_306) (hP.sub [0, 1, 2, 3] rfl) (hD.sub [0, 1, 2, 3] (by decide) rfl) hS (lv_sub hl [0, 2] rfl)
                · skip
                  refine lv_if_eq (tgt := 88) hx hb dX9_walkItem_65 (by decide) (fun c_307 => ?_) (fun c_307 => absurd (by decide) c_307)
                  refine lv_iconst (v := 0) hx hb dX9_walkItem_88 (by decide) ?_
                  refine xc_Vv (wr := [(ys, .inl (cI, 449, .inl ms)), (ywa, .inl (cI, 6, .inl a8))]) hF (c_X9_needs l D cI cJ cZ cS ta sa sv H.size h0 ys yk yo yt mk0 yfa yfe mL mS mM yro yhe ygr mF mC mY yta mz f8 t8 mv w8 ywa ybi ysi ynu ymo tp 0 (by omega) (by omega) (by omega) (by omega) (by omega)) kv_X9_278 ⟨rfl, rfl, Nat.le_of_ble_eq_true rfl, Nat.le_of_ble_eq_true rfl⟩ ⟨Nat.le_of_ble_eq_true rfl, Nat.le_of_ble_eq_true rfl⟩ hK hN hZ hP hD hS hA [2, 3] [0, 1] rfl rfl rfl rfl (by decide) 0 rfl rfl rfl rfl hl.1 rfl (Nat.le_of_ble_eq_true rfl) dX9_walkItem_89 (fun u_r_308 H locs hw_r_308 hP hD hS => ?_)
                  obtain ⟨f2_309, t2_310, w2_311⟩ := u_r_308
                  try dsimp only at hw_r_308
                  obtain ⟨i_312, i_313, i_314, i_315, i_316, i_317⟩ := hw_r_308
                  have hP : va_P D vwCl [(ys, .inl (cI, 449, .inl ms)), (ywa, .inl (cI, 6, .inl a8)), (h0, .inr (9, [.ref ys, .ref yk, .ref yo, .ref yt, .int mk0, .ref yfa, .ref yfe, .int mL, .int mS, .int mM, .ref yro, .ref yhe, .ref ygr, .int mF, .int mC, .int mY, .ref yta, .int (nI (mz)), .int (nI (f2_309)), .int (nI (t2_310)), .int mv, .int w2_311, .ref ywa, .ref ybi, .ref ysi, .ref ynu, .ref ymo])), (yta, .inl (cI, 120, .inl tp))] H := hP
                  have hD : va_D A [(ys, .inl (cI, 449, .inl ms)), (ywa, .inl (cI, 6, .inl a8)), (h0, .inr (9, [.ref ys, .ref yk, .ref yo, .ref yt, .int mk0, .ref yfa, .ref yfe, .int mL, .int mS, .int mM, .ref yro, .ref yhe, .ref ygr, .int mF, .int mC, .int mY, .ref yta, .int (nI (mz)), .int (nI (f2_309)), .int (nI (t2_310)), .int mv, .int w2_311, .ref ywa, .ref ybi, .ref ysi, .ref ynu, .ref ymo])), (yta, .inl (cI, 120, .inl tp))] := hD
                  refine lv_aload_n hx hb dX9_walkItem_92 rfl (lv_at hl 2 rfl) ?_
                  refine xg hF kf_X9_40 hK hP 2 rfl rfl dX9_walkItem_93 ?_
                  refine lv_iload_n hx hb dX9_walkItem_96 rfl (lv_at hl 1 rfl) ?_
                  refine lv_iload_n hx hb dX9_walkItem_97 rfl (lv_at hl 0 rfl) ?_
                  refine va_iast hx hb hK hP hD hS 1 0 rfl rfl (vp_in_nI (show n8 < 6 by omega) (by decide)) dX9_walkItem_98 (fun H locs hP hD hS => ?_)
                  rw [nI_clamp (show n8 < 2 ^ 31 by omega)] at hP hD
                  obtain ⟨f_318, ef_318⟩ : ∃ g, g = upd a8 n8 r_266 := ⟨_, rfl⟩
                  rw [← ef_318] at hP hD
                  have hP : va_P D vwCl [(ys, .inl (cI, 449, .inl ms)), (ywa, .inl (cI, 6, .inl f_318)), (h0, .inr (9, [.ref ys, .ref yk, .ref yo, .ref yt, .int mk0, .ref yfa, .ref yfe, .int mL, .int mS, .int mM, .ref yro, .ref yhe, .ref ygr, .int mF, .int mC, .int mY, .ref yta, .int (nI (mz)), .int (nI (f2_309)), .int (nI (t2_310)), .int mv, .int w2_311, .ref ywa, .ref ybi, .ref ysi, .ref ynu, .ref ymo])), (yta, .inl (cI, 120, .inl tp))] H := hP
                  have hD : va_D A [(ys, .inl (cI, 449, .inl ms)), (ywa, .inl (cI, 6, .inl f_318)), (h0, .inr (9, [.ref ys, .ref yk, .ref yo, .ref yt, .int mk0, .ref yfa, .ref yfe, .int mL, .int mS, .int mM, .ref yro, .ref yhe, .ref ygr, .int mF, .int mC, .int mY, .ref yta, .int (nI (mz)), .int (nI (f2_309)), .int (nI (t2_310)), .int mv, .int w2_311, .ref ywa, .ref ybi, .ref ysi, .ref ynu, .ref ymo])), (yta, .inl (cI, 120, .inl tp))] := hD
                  refine lv_iinc (v := nI (n8 + 1)) (lv' := [(1, .int (nI (n8 + 1))), (2, .int r_266), (0, .ref h0)]) hx hb dX9_walkItem_99 hl (k := 1) rfl (nI_1 (n8)) (by decide) rfl (fun ls hl => ?_)
                  refine lv_goto (tgt := 22) hx hb dX9_walkItem_102 (by decide) ?_
                  exact ih_22 (n8 + 1) f2_309 t2_310 w2_311 f_318 _ _ _ (by omega) (by omega) (by omega) (by omega) (by omega) (by omega) (by omega) (fun h => ⟨(hc8 (i_317 h).1).1, trivial⟩) (wk_A.no (fun h => absurd rfl (i_317 h).2.1)) (hP.sub [0, 1, 2, 3] rfl) (hD.sub [0, 1, 2, 3] (by decide) rfl) hS (lv_sub hl [0, 2] rfl)
              · skip
                refine lv_if_eq (tgt := 105) hx hb dX9_walkItem_51 (by decide) (fun c_319 => ?_) (fun c_319 => absurd (by decide) c_319)
                refine lv_aload_n hx hb dX9_walkItem_105 rfl (lv_at hl 1 rfl) ?_
                refine lv_aload_n hx hb dX9_walkItem_106 rfl (lv_at hl 1 rfl) ?_
                refine lv_bipush (v := 97) hx hb dX9_walkItem_107 (by decide) ?_
                refine lv_bipush (v := 108) hx hb dX9_walkItem_109 (by decide) ?_
                refine lv_bipush (v := 108) hx hb dX9_walkItem_111 (by decide) ?_
                refine lv_iconst (v := 0) hx hb dX9_walkItem_113 (by decide) ?_
                refine lv_iconst (v := 0) hx hb dX9_walkItem_114 (by decide) ?_
                refine lv_iconst (v := 0) hx hb dX9_walkItem_115 (by decide) ?_
                refine lv_iconst (v := 0) hx hb dX9_walkItem_116 (by decide) ?_
                refine xc_Vr hF (c_X9_isWord l D cI cJ cZ cS ta sa sv H.size h0 ys yk yo yt mk0 yfa yfe mL mS mM yro yhe ygr mF mC mY yta mz f8 t8 mv w8 ywa ybi ysi ynu ymo tp 97 108 108 0 0 0 0 (by omega) (by omega)) kv_X9_290 ⟨rfl, rfl, Nat.le_of_ble_eq_true rfl, Nat.le_of_ble_eq_true rfl⟩ ⟨Nat.le_of_ble_eq_true rfl, Nat.le_of_ble_eq_true rfl⟩ hK hN hZ hP hD hS hA [2, 3] rfl rfl 0 rfl rfl rfl rfl hl.1 rfl (Nat.le_of_ble_eq_true rfl) dX9_walkItem_117 (fun r_320 hw_r_320 => ?_)
                rcases hw_r_320 with rfl | rfl
                · skip
                  refine xc_Vv (wr := [(ys, .inl (cI, 449, .inl ms)), (ywa, .inl (cI, 6, .inl a8))]) hF (c_X9_needs l D cI cJ cZ cS ta sa sv H.size h0 ys yk yo yt mk0 yfa yfe mL mS mM yro yhe ygr mF mC mY yta mz f8 t8 mv w8 ywa ybi ysi ynu ymo tp 1 (by omega) (by omega) (by omega) (by omega) (by omega)) kv_X9_278 ⟨rfl, rfl, Nat.le_of_ble_eq_true rfl, Nat.le_of_ble_eq_true rfl⟩ ⟨Nat.le_of_ble_eq_true rfl, Nat.le_of_ble_eq_true rfl⟩ hK hN hZ hP hD hS hA [2, 3] [0, 1] rfl rfl rfl rfl (by decide) 0 rfl rfl rfl rfl hl.1 rfl (Nat.le_of_ble_eq_true rfl) dX9_walkItem_120 (fun u_r_321 H locs hw_r_321 hP hD hS => ?_)
                  obtain ⟨f2_322, t2_323, w2_324⟩ := u_r_321
                  try dsimp only at hw_r_321
                  obtain ⟨i_325, i_326, i_327, i_328, i_329, i_330⟩ := hw_r_321
                  have hP : va_P D vwCl [(ys, .inl (cI, 449, .inl ms)), (ywa, .inl (cI, 6, .inl a8)), (h0, .inr (9, [.ref ys, .ref yk, .ref yo, .ref yt, .int mk0, .ref yfa, .ref yfe, .int mL, .int mS, .int mM, .ref yro, .ref yhe, .ref ygr, .int mF, .int mC, .int mY, .ref yta, .int (nI (mz)), .int (nI (f2_322)), .int (nI (t2_323)), .int mv, .int w2_324, .ref ywa, .ref ybi, .ref ysi, .ref ynu, .ref ymo])), (yta, .inl (cI, 120, .inl tp))] H := hP
                  have hD : va_D A [(ys, .inl (cI, 449, .inl ms)), (ywa, .inl (cI, 6, .inl a8)), (h0, .inr (9, [.ref ys, .ref yk, .ref yo, .ref yt, .int mk0, .ref yfa, .ref yfe, .int mL, .int mS, .int mM, .ref yro, .ref yhe, .ref ygr, .int mF, .int mC, .int mY, .ref yta, .int (nI (mz)), .int (nI (f2_322)), .int (nI (t2_323)), .int mv, .int w2_324, .ref ywa, .ref ybi, .ref ysi, .ref ynu, .ref ymo])), (yta, .inl (cI, 120, .inl tp))] := hD
                  refine lv_aload_n hx hb dX9_walkItem_123 rfl (lv_at hl 1 rfl) ?_
                  refine lv_sipush (v := (-9999)) hx hb dX9_walkItem_124 (by decide) ?_
                  refine lv_sipush (v := 9999) hx hb dX9_walkItem_127 (by decide) ?_
                  refine xc_Vv (wr := [(ys, .inl (cI, 449, .inl ms)), (ywa, .inl (cI, 6, .inl a8))]) hF (c_X9_mile l D cI cJ cZ cS ta sa sv H.size h0 ys yk yo yt mk0 yfa yfe mL mS mM yro yhe ygr mF mC mY yta mz f2_322 t2_323 mv w2_324 ywa ybi ysi ynu ymo tp (-9999) 9999 (by omega) (by omega) (by omega) (by omega) (by omega)) kv_X9_287 ⟨rfl, rfl, Nat.le_of_ble_eq_true rfl, Nat.le_of_ble_eq_true rfl⟩ ⟨Nat.le_of_ble_eq_true rfl, Nat.le_of_ble_eq_true rfl⟩ hK hN hZ hP hD hS hA [2, 3] [0, 1] rfl rfl rfl rfl (by decide) 0 rfl rfl rfl rfl hl.1 rfl (Nat.le_of_ble_eq_true rfl) dX9_walkItem_130 (fun u_r_331 H locs hw_r_331 hP hD hS => ?_)
                  obtain ⟨f2_332, t2_333, v2_334, w2_335⟩ := u_r_331
                  try dsimp only at hw_r_331
                  obtain ⟨i_336, i_337, i_338, i_339, i_340, i_341⟩ := hw_r_331
                  have hP : va_P D vwCl [(ys, .inl (cI, 449, .inl ms)), (ywa, .inl (cI, 6, .inl a8)), (h0, .inr (9, [.ref ys, .ref yk, .ref yo, .ref yt, .int mk0, .ref yfa, .ref yfe, .int mL, .int mS, .int mM, .ref yro, .ref yhe, .ref ygr, .int mF, .int mC, .int mY, .ref yta, .int (nI (mz)), .int (nI (f2_332)), .int (nI (t2_333)), .int v2_334, .int w2_335, .ref ywa, .ref ybi, .ref ysi, .ref ynu, .ref ymo])), (yta, .inl (cI, 120, .inl tp))] H := hP
                  have hD : va_D A [(ys, .inl (cI, 449, .inl ms)), (ywa, .inl (cI, 6, .inl a8)), (h0, .inr (9, [.ref ys, .ref yk, .ref yo, .ref yt, .int mk0, .ref yfa, .ref yfe, .int mL, .int mS, .int mM, .ref yro, .ref yhe, .ref ygr, .int mF, .int mC, .int mY, .ref yta, .int (nI (mz)), .int (nI (f2_332)), .int (nI (t2_333)), .int v2_334, .int w2_335, .ref ywa, .ref ybi, .ref ysi, .ref ynu, .ref ymo])), (yta, .inl (cI, 120, .inl tp))] := hD
                  refine lv_aload_n hx hb dX9_walkItem_133 rfl (lv_at hl 1 rfl) ?_
                  refine xg hF kf_X9_275 hK hP 2 rfl rfl dX9_walkItem_134 ?_
                  refine lv_istore_n (lv' := [(2, .int v2_334), (1, .int (nI (n8))), (0, .ref h0)]) hx hb dX9_walkItem_137 rfl hl (by decide) rfl (fun ls hl => ?_)
                  refine lv_iconst (v := 0) hx hb dX9_walkItem_138 (by decide) ?_
                  refine lv_istore_n (lv' := [(3, .int 0), (2, .int v2_334), (1, .int (nI (n8))), (0, .ref h0)]) hx hb dX9_walkItem_139 rfl hl (by decide) rfl (fun ls hl => ?_)
                  refine lv_aload_n hx hb dX9_walkItem_140 rfl (lv_at hl 3 rfl) ?_
                  refine lv_bipush (v := 115) hx hb dX9_walkItem_141 (by decide) ?_
                  refine lv_bipush (v := 108) hx hb dX9_walkItem_143 (by decide) ?_
                  refine lv_bipush (v := 97) hx hb dX9_walkItem_145 (by decide) ?_
                  refine lv_bipush (v := 99) hx hb dX9_walkItem_147 (by decide) ?_
                  refine lv_bipush (v := 107) hx hb dX9_walkItem_149 (by decide) ?_
                  refine lv_iconst (v := 0) hx hb dX9_walkItem_151 (by decide) ?_
                  refine lv_iconst (v := 0) hx hb dX9_walkItem_152 (by decide) ?_
                  refine xc_Vr hF (c_X9_isWord l D cI cJ cZ cS ta sa sv H.size h0 ys yk yo yt mk0 yfa yfe mL mS mM yro yhe ygr mF mC mY yta mz f2_332 t2_333 v2_334 w2_335 ywa ybi ysi ynu ymo tp 115 108 97 99 107 0 0 (by omega) (by omega)) kv_X9_290 ⟨rfl, rfl, Nat.le_of_ble_eq_true rfl, Nat.le_of_ble_eq_true rfl⟩ ⟨Nat.le_of_ble_eq_true rfl, Nat.le_of_ble_eq_true rfl⟩ hK hN hZ hP hD hS hA [2, 3] rfl rfl 0 rfl rfl rfl rfl hl.1 rfl (Nat.le_of_ble_eq_true rfl) dX9_walkItem_153 (fun r_342 hw_r_342 => ?_)
                  rcases hw_r_342 with rfl | rfl
                  · skip
                    refine lv_if_eq (tgt := 176) hx hb dX9_walkItem_156 (by decide) (fun c_343 => absurd c_343 (by decide)) (fun c_343 => ?_)
                    refine lv_aload_n hx hb dX9_walkItem_159 rfl (lv_at hl 3 rfl) ?_
                    refine lv_iconst (v := 1) hx hb dX9_walkItem_160 (by decide) ?_
                    refine xc_Vv (wr := [(ys, .inl (cI, 449, .inl ms)), (ywa, .inl (cI, 6, .inl a8))]) hF (c_X9_needs l D cI cJ cZ cS ta sa sv H.size h0 ys yk yo yt mk0 yfa yfe mL mS mM yro yhe ygr mF mC mY yta mz f2_332 t2_333 v2_334 w2_335 ywa ybi ysi ynu ymo tp 1 (by omega) (by omega) (by omega) (by omega) (by omega)) kv_X9_278 ⟨rfl, rfl, Nat.le_of_ble_eq_true rfl, Nat.le_of_ble_eq_true rfl⟩ ⟨Nat.le_of_ble_eq_true rfl, Nat.le_of_ble_eq_true rfl⟩ hK hN hZ hP hD hS hA [2, 3] [0, 1] rfl rfl rfl rfl (by decide) 0 rfl rfl rfl rfl hl.1 rfl (Nat.le_of_ble_eq_true rfl) dX9_walkItem_161 (fun u_r_344 H locs hw_r_344 hP hD hS => ?_)
                    obtain ⟨f2_345, t2_346, w2_347⟩ := u_r_344
                    try dsimp only at hw_r_344
                    obtain ⟨i_348, i_349, i_350, i_351, i_352, i_353⟩ := hw_r_344
                    have hP : va_P D vwCl [(ys, .inl (cI, 449, .inl ms)), (ywa, .inl (cI, 6, .inl a8)), (h0, .inr (9, [.ref ys, .ref yk, .ref yo, .ref yt, .int mk0, .ref yfa, .ref yfe, .int mL, .int mS, .int mM, .ref yro, .ref yhe, .ref ygr, .int mF, .int mC, .int mY, .ref yta, .int (nI (mz)), .int (nI (f2_345)), .int (nI (t2_346)), .int v2_334, .int w2_347, .ref ywa, .ref ybi, .ref ysi, .ref ynu, .ref ymo])), (yta, .inl (cI, 120, .inl tp))] H := hP
                    have hD : va_D A [(ys, .inl (cI, 449, .inl ms)), (ywa, .inl (cI, 6, .inl a8)), (h0, .inr (9, [.ref ys, .ref yk, .ref yo, .ref yt, .int mk0, .ref yfa, .ref yfe, .int mL, .int mS, .int mM, .ref yro, .ref yhe, .ref ygr, .int mF, .int mC, .int mY, .ref yta, .int (nI (mz)), .int (nI (f2_345)), .int (nI (t2_346)), .int v2_334, .int w2_347, .ref ywa, .ref ybi, .ref ysi, .ref ynu, .ref ymo])), (yta, .inl (cI, 120, .inl tp))] := hD
                    refine lv_aload_n hx hb dX9_walkItem_164 rfl (lv_at hl 3 rfl) ?_
                    refine lv_iconst (v := 0) hx hb dX9_walkItem_165 (by decide) ?_
                    refine lv_bipush (v := 99) hx hb dX9_walkItem_166 (by decide) ?_
                    refine xc_Vv (wr := [(ys, .inl (cI, 449, .inl ms)), (ywa, .inl (cI, 6, .inl a8))]) hF (c_X9_number l D cI cJ cZ cS ta sa sv H.size h0 ys yk yo yt mk0 yfa yfe mL mS mM yro yhe ygr mF mC mY yta mz f2_345 t2_346 v2_334 w2_347 ywa ybi ysi ynu ymo tp 0 99 (by omega) (by omega) (by omega) (by omega) (by omega)) kv_X9_282 ⟨rfl, rfl, Nat.le_of_ble_eq_true rfl, Nat.le_of_ble_eq_true rfl⟩ ⟨Nat.le_of_ble_eq_true rfl, Nat.le_of_ble_eq_true rfl⟩ hK hN hZ hP hD hS hA [2, 3] [0, 1] rfl rfl rfl rfl (by decide) 0 rfl rfl rfl rfl hl.1 rfl (Nat.le_of_ble_eq_true rfl) dX9_walkItem_168 (fun u_r_354 H locs hw_r_354 hP hD hS => ?_)
                    obtain ⟨f2_355, t2_356, v2_357, w2_358⟩ := u_r_354
                    try dsimp only at hw_r_354
                    obtain ⟨i_359, i_360, i_361, i_362, i_363, i_364⟩ := hw_r_354
                    have hP : va_P D vwCl [(ys, .inl (cI, 449, .inl ms)), (ywa, .inl (cI, 6, .inl a8)), (h0, .inr (9, [.ref ys, .ref yk, .ref yo, .ref yt, .int mk0, .ref yfa, .ref yfe, .int mL, .int mS, .int mM, .ref yro, .ref yhe, .ref ygr, .int mF, .int mC, .int mY, .ref yta, .int (nI (mz)), .int (nI (f2_355)), .int (nI (t2_356)), .int v2_357, .int w2_358, .ref ywa, .ref ybi, .ref ysi, .ref ynu, .ref ymo])), (yta, .inl (cI, 120, .inl tp))] H := hP
                    have hD : va_D A [(ys, .inl (cI, 449, .inl ms)), (ywa, .inl (cI, 6, .inl a8)), (h0, .inr (9, [.ref ys, .ref yk, .ref yo, .ref yt, .int mk0, .ref yfa, .ref yfe, .int mL, .int mS, .int mM, .ref yro, .ref yhe, .ref ygr, .int mF, .int mC, .int mY, .ref yta, .int (nI (mz)), .int (nI (f2_355)), .int (nI (t2_356)), .int v2_357, .int w2_358, .ref ywa, .ref ybi, .ref ysi, .ref ynu, .ref ymo])), (yta, .inl (cI, 120, .inl tp))] := hD
                    refine lv_aload_n hx hb dX9_walkItem_171 rfl (lv_at hl 3 rfl) ?_
                    refine xg hF kf_X9_275 hK hP 2 rfl rfl dX9_walkItem_172 ?_
                    refine lv_istore_n (lv' := [(3, .int v2_357), (2, .int v2_334), (1, .int (nI (n8))), (0, .ref h0)]) hx hb dX9_walkItem_175 rfl hl (by decide) rfl (fun ls hl => ?_)
                    refine lv_aload_n hx hb dX9_walkItem_176 rfl (lv_at hl 3 rfl) ?_
                    refine xg hF kf_X9_266 hK hP 2 rfl rfl dX9_walkItem_177 ?_
                    refine lv_if_ne (tgt := 252) hx hb dX9_walkItem_180 (by decide) (fun c_365 => ?_) (fun c_365 => absurd rfl (i_11 (hc8 (i_330 (i_341 (i_353 (i_364 c_365).1).1).1).1).1).2.1)
                    exact W.vret hx hb hr (fun t ht hW => ⟨⟨(f2_355, t2_356, v2_357, w2_358, ms, a8, Wn), rfl, ⟨(by first | assumption | omega), (by first | assumption | omega), (by first | assumption | omega), (by first | assumption | omega), (by first | assumption | omega), (fun h => ⟨(i_11 (hc8 (i_330 (i_341 (i_353 (i_364 h).1).1).1).1).1).1, trivial⟩), hs0, hs1, hs2, hsS, hsM, hsp, hsr, hsw, hsR⟩, by rw [ht]; exact hP.sub [2, 0, 3, 1] rfl, hD.sub [2, 0, 3, 1] (by decide) rfl⟩, hS.F ht⟩) hS.2.2 dX9_walkItem_252 hlk
                  · skip
                    refine lv_if_eq (tgt := 176) hx hb dX9_walkItem_156 (by decide) (fun c_366 => ?_) (fun c_366 => absurd (by decide) c_366)
                    refine lv_aload_n hx hb dX9_walkItem_176 rfl (lv_at hl 3 rfl) ?_
                    refine xg hF kf_X9_266 hK hP 2 rfl rfl dX9_walkItem_177 ?_
                    refine lv_if_ne (tgt := 252) hx hb dX9_walkItem_180 (by decide) (fun c_367 => ?_) (fun c_367 => absurd rfl (i_11 (hc8 (i_330 (i_341 c_367).1).1).1).2.1)
                    exact W.vret hx hb hr (fun t ht hW => ⟨⟨(f2_332, t2_333, v2_334, w2_335, ms, a8, Wn), rfl, ⟨(by first | assumption | omega), (by first | assumption | omega), (by first | assumption | omega), (by first | assumption | omega), (by first | assumption | omega), (fun h => ⟨(i_11 (hc8 (i_330 (i_341 h).1).1).1).1, trivial⟩), hs0, hs1, hs2, hsS, hsM, hsp, hsr, hsw, hsR⟩, by rw [ht]; exact hP.sub [2, 0, 3, 1] rfl, hD.sub [2, 0, 3, 1] (by decide) rfl⟩, hS.F ht⟩) hS.2.2 dX9_walkItem_252 hlk
                · skip
                  refine xc_Vv (wr := [(ys, .inl (cI, 449, .inl ms)), (ywa, .inl (cI, 6, .inl a8))]) hF (c_X9_needs l D cI cJ cZ cS ta sa sv H.size h0 ys yk yo yt mk0 yfa yfe mL mS mM yro yhe ygr mF mC mY yta mz f8 t8 mv w8 ywa ybi ysi ynu ymo tp 0 (by omega) (by omega) (by omega) (by omega) (by omega)) kv_X9_278 ⟨rfl, rfl, Nat.le_of_ble_eq_true rfl, Nat.le_of_ble_eq_true rfl⟩ ⟨Nat.le_of_ble_eq_true rfl, Nat.le_of_ble_eq_true rfl⟩ hK hN hZ hP hD hS hA [2, 3] [0, 1] rfl rfl rfl rfl (by decide) 0 rfl rfl rfl rfl hl.1 rfl (Nat.le_of_ble_eq_true rfl) dX9_walkItem_120 (fun u_r_368 H locs hw_r_368 hP hD hS => ?_)
                  obtain ⟨f2_369, t2_370, w2_371⟩ := u_r_368
                  try dsimp only at hw_r_368
                  obtain ⟨i_372, i_373, i_374, i_375, i_376, i_377⟩ := hw_r_368
                  have hP : va_P D vwCl [(ys, .inl (cI, 449, .inl ms)), (ywa, .inl (cI, 6, .inl a8)), (h0, .inr (9, [.ref ys, .ref yk, .ref yo, .ref yt, .int mk0, .ref yfa, .ref yfe, .int mL, .int mS, .int mM, .ref yro, .ref yhe, .ref ygr, .int mF, .int mC, .int mY, .ref yta, .int (nI (mz)), .int (nI (f2_369)), .int (nI (t2_370)), .int mv, .int w2_371, .ref ywa, .ref ybi, .ref ysi, .ref ynu, .ref ymo])), (yta, .inl (cI, 120, .inl tp))] H := hP
                  have hD : va_D A [(ys, .inl (cI, 449, .inl ms)), (ywa, .inl (cI, 6, .inl a8)), (h0, .inr (9, [.ref ys, .ref yk, .ref yo, .ref yt, .int mk0, .ref yfa, .ref yfe, .int mL, .int mS, .int mM, .ref yro, .ref yhe, .ref ygr, .int mF, .int mC, .int mY, .ref yta, .int (nI (mz)), .int (nI (f2_369)), .int (nI (t2_370)), .int mv, .int w2_371, .ref ywa, .ref ybi, .ref ysi, .ref ynu, .ref ymo])), (yta, .inl (cI, 120, .inl tp))] := hD
                  refine lv_aload_n hx hb dX9_walkItem_123 rfl (lv_at hl 1 rfl) ?_
                  refine lv_sipush (v := (-9999)) hx hb dX9_walkItem_124 (by decide) ?_
                  refine lv_sipush (v := 9999) hx hb dX9_walkItem_127 (by decide) ?_
                  refine xc_Vv (wr := [(ys, .inl (cI, 449, .inl ms)), (ywa, .inl (cI, 6, .inl a8))]) hF (c_X9_mile l D cI cJ cZ cS ta sa sv H.size h0 ys yk yo yt mk0 yfa yfe mL mS mM yro yhe ygr mF mC mY yta mz f2_369 t2_370 mv w2_371 ywa ybi ysi ynu ymo tp (-9999) 9999 (by omega) (by omega) (by omega) (by omega) (by omega)) kv_X9_287 ⟨rfl, rfl, Nat.le_of_ble_eq_true rfl, Nat.le_of_ble_eq_true rfl⟩ ⟨Nat.le_of_ble_eq_true rfl, Nat.le_of_ble_eq_true rfl⟩ hK hN hZ hP hD hS hA [2, 3] [0, 1] rfl rfl rfl rfl (by decide) 0 rfl rfl rfl rfl hl.1 rfl (Nat.le_of_ble_eq_true rfl) dX9_walkItem_130 (fun u_r_378 H locs hw_r_378 hP hD hS => ?_)
                  obtain ⟨f2_379, t2_380, v2_381, w2_382⟩ := u_r_378
                  try dsimp only at hw_r_378
                  obtain ⟨i_383, i_384, i_385, i_386, i_387, i_388⟩ := hw_r_378
                  have hP : va_P D vwCl [(ys, .inl (cI, 449, .inl ms)), (ywa, .inl (cI, 6, .inl a8)), (h0, .inr (9, [.ref ys, .ref yk, .ref yo, .ref yt, .int mk0, .ref yfa, .ref yfe, .int mL, .int mS, .int mM, .ref yro, .ref yhe, .ref ygr, .int mF, .int mC, .int mY, .ref yta, .int (nI (mz)), .int (nI (f2_379)), .int (nI (t2_380)), .int v2_381, .int w2_382, .ref ywa, .ref ybi, .ref ysi, .ref ynu, .ref ymo])), (yta, .inl (cI, 120, .inl tp))] H := hP
                  have hD : va_D A [(ys, .inl (cI, 449, .inl ms)), (ywa, .inl (cI, 6, .inl a8)), (h0, .inr (9, [.ref ys, .ref yk, .ref yo, .ref yt, .int mk0, .ref yfa, .ref yfe, .int mL, .int mS, .int mM, .ref yro, .ref yhe, .ref ygr, .int mF, .int mC, .int mY, .ref yta, .int (nI (mz)), .int (nI (f2_379)), .int (nI (t2_380)), .int v2_381, .int w2_382, .ref ywa, .ref ybi, .ref ysi, .ref ynu, .ref ymo])), (yta, .inl (cI, 120, .inl tp))] := hD
                  refine lv_aload_n hx hb dX9_walkItem_133 rfl (lv_at hl 1 rfl) ?_
                  refine xg hF kf_X9_275 hK hP 2 rfl rfl dX9_walkItem_134 ?_
                  refine lv_istore_n (lv' := [(2, .int v2_381), (1, .int (nI (n8))), (0, .ref h0)]) hx hb dX9_walkItem_137 rfl hl (by decide) rfl (fun ls hl => ?_)
                  refine lv_iconst (v := 0) hx hb dX9_walkItem_138 (by decide) ?_
                  refine lv_istore_n (lv' := [(3, .int 0), (2, .int v2_381), (1, .int (nI (n8))), (0, .ref h0)]) hx hb dX9_walkItem_139 rfl hl (by decide) rfl (fun ls hl => ?_)
                  refine lv_aload_n hx hb dX9_walkItem_140 rfl (lv_at hl 3 rfl) ?_
                  refine lv_bipush (v := 115) hx hb dX9_walkItem_141 (by decide) ?_
                  refine lv_bipush (v := 108) hx hb dX9_walkItem_143 (by decide) ?_
                  refine lv_bipush (v := 97) hx hb dX9_walkItem_145 (by decide) ?_
                  refine lv_bipush (v := 99) hx hb dX9_walkItem_147 (by decide) ?_
                  refine lv_bipush (v := 107) hx hb dX9_walkItem_149 (by decide) ?_
                  refine lv_iconst (v := 0) hx hb dX9_walkItem_151 (by decide) ?_
                  refine lv_iconst (v := 0) hx hb dX9_walkItem_152 (by decide) ?_
                  refine xc_Vr hF (c_X9_isWord l D cI cJ cZ cS ta sa sv H.size h0 ys yk yo yt mk0 yfa yfe mL mS mM yro yhe ygr mF mC mY yta mz f2_379 t2_380 v2_381 w2_382 ywa ybi ysi ynu ymo tp 115 108 97 99 107 0 0 (by omega) (by omega)) kv_X9_290 ⟨rfl, rfl, Nat.le_of_ble_eq_true rfl, Nat.le_of_ble_eq_true rfl⟩ ⟨Nat.le_of_ble_eq_true rfl, Nat.le_of_ble_eq_true rfl⟩ hK hN hZ hP hD hS hA [2, 3] rfl rfl 0 rfl rfl rfl rfl hl.1 rfl (Nat.le_of_ble_eq_true rfl) dX9_walkItem_153 (fun r_389 hw_r_389 => ?_)
                  rcases hw_r_389 with rfl | rfl
                  · skip
                    refine lv_if_eq (tgt := 176) hx hb dX9_walkItem_156 (by decide) (fun c_390 => absurd c_390 (by decide)) (fun c_390 => ?_)
                    refine lv_aload_n hx hb dX9_walkItem_159 rfl (lv_at hl 3 rfl) ?_
                    refine lv_iconst (v := 1) hx hb dX9_walkItem_160 (by decide) ?_
                    refine xc_Vv (wr := [(ys, .inl (cI, 449, .inl ms)), (ywa, .inl (cI, 6, .inl a8))]) hF (c_X9_needs l D cI cJ cZ cS ta sa sv H.size h0 ys yk yo yt mk0 yfa yfe mL mS mM yro yhe ygr mF mC mY yta mz f2_379 t2_380 v2_381 w2_382 ywa ybi ysi ynu ymo tp 1 (by omega) (by omega) (by omega) (by omega) (by omega)) kv_X9_278 ⟨rfl, rfl, Nat.le_of_ble_eq_true rfl, Nat.le_of_ble_eq_true rfl⟩ ⟨Nat.le_of_ble_eq_true rfl, Nat.le_of_ble_eq_true rfl⟩ hK hN hZ hP hD hS hA [2, 3] [0, 1] rfl rfl rfl rfl (by decide) 0 rfl rfl rfl rfl hl.1 rfl (Nat.le_of_ble_eq_true rfl) dX9_walkItem_161 (fun u_r_391 H locs hw_r_391 hP hD hS => ?_)
                    obtain ⟨f2_392, t2_393, w2_394⟩ := u_r_391
                    try dsimp only at hw_r_391
                    obtain ⟨i_395, i_396, i_397, i_398, i_399, i_400⟩ := hw_r_391
                    have hP : va_P D vwCl [(ys, .inl (cI, 449, .inl ms)), (ywa, .inl (cI, 6, .inl a8)), (h0, .inr (9, [.ref ys, .ref yk, .ref yo, .ref yt, .int mk0, .ref yfa, .ref yfe, .int mL, .int mS, .int mM, .ref yro, .ref yhe, .ref ygr, .int mF, .int mC, .int mY, .ref yta, .int (nI (mz)), .int (nI (f2_392)), .int (nI (t2_393)), .int v2_381, .int w2_394, .ref ywa, .ref ybi, .ref ysi, .ref ynu, .ref ymo])), (yta, .inl (cI, 120, .inl tp))] H := hP
                    have hD : va_D A [(ys, .inl (cI, 449, .inl ms)), (ywa, .inl (cI, 6, .inl a8)), (h0, .inr (9, [.ref ys, .ref yk, .ref yo, .ref yt, .int mk0, .ref yfa, .ref yfe, .int mL, .int mS, .int mM, .ref yro, .ref yhe, .ref ygr, .int mF, .int mC, .int mY, .ref yta, .int (nI (mz)), .int (nI (f2_392)), .int (nI (t2_393)), .int v2_381, .int w2_394, .ref ywa, .ref ybi, .ref ysi, .ref ynu, .ref ymo])), (yta, .inl (cI, 120, .inl tp))] := hD
                    refine lv_aload_n hx hb dX9_walkItem_164 rfl (lv_at hl 3 rfl) ?_
                    refine lv_iconst (v := 0) hx hb dX9_walkItem_165 (by decide) ?_
                    refine lv_bipush (v := 99) hx hb dX9_walkItem_166 (by decide) ?_
                    refine xc_Vv (wr := [(ys, .inl (cI, 449, .inl ms)), (ywa, .inl (cI, 6, .inl a8))]) hF (c_X9_number l D cI cJ cZ cS ta sa sv H.size h0 ys yk yo yt mk0 yfa yfe mL mS mM yro yhe ygr mF mC mY yta mz f2_392 t2_393 v2_381 w2_394 ywa ybi ysi ynu ymo tp 0 99 (by omega) (by omega) (by omega) (by omega) (by omega)) kv_X9_282 ⟨rfl, rfl, Nat.le_of_ble_eq_true rfl, Nat.le_of_ble_eq_true rfl⟩ ⟨Nat.le_of_ble_eq_true rfl, Nat.le_of_ble_eq_true rfl⟩ hK hN hZ hP hD hS hA [2, 3] [0, 1] rfl rfl rfl rfl (by decide) 0 rfl rfl rfl rfl hl.1 rfl (Nat.le_of_ble_eq_true rfl) dX9_walkItem_168 (fun u_r_401 H locs hw_r_401 hP hD hS => ?_)
                    obtain ⟨f2_402, t2_403, v2_404, w2_405⟩ := u_r_401
                    try dsimp only at hw_r_401
                    obtain ⟨i_406, i_407, i_408, i_409, i_410, i_411⟩ := hw_r_401
                    have hP : va_P D vwCl [(ys, .inl (cI, 449, .inl ms)), (ywa, .inl (cI, 6, .inl a8)), (h0, .inr (9, [.ref ys, .ref yk, .ref yo, .ref yt, .int mk0, .ref yfa, .ref yfe, .int mL, .int mS, .int mM, .ref yro, .ref yhe, .ref ygr, .int mF, .int mC, .int mY, .ref yta, .int (nI (mz)), .int (nI (f2_402)), .int (nI (t2_403)), .int v2_404, .int w2_405, .ref ywa, .ref ybi, .ref ysi, .ref ynu, .ref ymo])), (yta, .inl (cI, 120, .inl tp))] H := hP
                    have hD : va_D A [(ys, .inl (cI, 449, .inl ms)), (ywa, .inl (cI, 6, .inl a8)), (h0, .inr (9, [.ref ys, .ref yk, .ref yo, .ref yt, .int mk0, .ref yfa, .ref yfe, .int mL, .int mS, .int mM, .ref yro, .ref yhe, .ref ygr, .int mF, .int mC, .int mY, .ref yta, .int (nI (mz)), .int (nI (f2_402)), .int (nI (t2_403)), .int v2_404, .int w2_405, .ref ywa, .ref ybi, .ref ysi, .ref ynu, .ref ymo])), (yta, .inl (cI, 120, .inl tp))] := hD
                    refine lv_aload_n hx hb dX9_walkItem_171 rfl (lv_at hl 3 rfl) ?_
                    refine xg hF kf_X9_275 hK hP 2 rfl rfl dX9_walkItem_172 ?_
                    refine lv_istore_n (lv' := [(3, .int v2_404), (2, .int v2_381), (1, .int (nI (n8))), (0, .ref h0)]) hx hb dX9_walkItem_175 rfl hl (by decide) rfl (fun ls hl => ?_)
                    refine lv_aload_n hx hb dX9_walkItem_176 rfl (lv_at hl 3 rfl) ?_
                    refine xg hF kf_X9_266 hK hP 2 rfl rfl dX9_walkItem_177 ?_
                    refine lv_if_ne (tgt := 252) hx hb dX9_walkItem_180 (by decide) (fun c_412 => ?_) (fun c_412 => absurd rfl (i_377 (i_388 (i_400 (i_411 c_412).1).1).1).2.1)
                    exact W.vret hx hb hr (fun t ht hW => ⟨⟨(f2_402, t2_403, v2_404, w2_405, ms, a8, Wn), rfl, ⟨(by first | assumption | omega), (by first | assumption | omega), (by first | assumption | omega), (by first | assumption | omega), (by first | assumption | omega), (fun h => ⟨(i_11 (hc8 (i_377 (i_388 (i_400 (i_411 h).1).1).1).1).1).1, trivial⟩), hs0, hs1, hs2, hsS, hsM, hsp, hsr, hsw, hsR⟩, by rw [ht]; exact hP.sub [2, 0, 3, 1] rfl, hD.sub [2, 0, 3, 1] (by decide) rfl⟩, hS.F ht⟩) hS.2.2 dX9_walkItem_252 hlk
                  · skip
                    refine lv_if_eq (tgt := 176) hx hb dX9_walkItem_156 (by decide) (fun c_413 => ?_) (fun c_413 => absurd (by decide) c_413)
                    refine lv_aload_n hx hb dX9_walkItem_176 rfl (lv_at hl 3 rfl) ?_
                    refine xg hF kf_X9_266 hK hP 2 rfl rfl dX9_walkItem_177 ?_
                    refine lv_if_ne (tgt := 252) hx hb dX9_walkItem_180 (by decide) (fun c_414 => ?_) (fun c_414 => absurd rfl (i_377 (i_388 c_414).1).2.1)
                    exact W.vret hx hb hr (fun t ht hW => ⟨⟨(f2_379, t2_380, v2_381, w2_382, ms, a8, Wn), rfl, ⟨(by first | assumption | omega), (by first | assumption | omega), (by first | assumption | omega), (by first | assumption | omega), (by first | assumption | omega), (fun h => ⟨(i_11 (hc8 (i_377 (i_388 h).1).1).1).1, trivial⟩), hs0, hs1, hs2, hsS, hsM, hsp, hsr, hsw, hsR⟩, by rw [ht]; exact hP.sub [2, 0, 3, 1] rfl, hD.sub [2, 0, 3, 1] (by decide) rfl⟩, hS.F ht⟩) hS.2.2 dX9_walkItem_252 hlk
            · skip
              refine xc_Sr hF (c_X9_isDigit l D cI cJ cZ cS ta sa sv H.size (-1) ) ks_X9_263 ⟨rfl, rfl, Nat.le_of_ble_eq_true rfl, Nat.le_of_ble_eq_true rfl⟩ ⟨Nat.le_of_ble_eq_true rfl, Nat.le_of_ble_eq_true rfl⟩ hK hN hZ hP hD hS hA [] rfl rfl rfl hl.1 rfl (Nat.le_of_ble_eq_true rfl) dX9_walkItem_48 (fun r_415 hw_r_415 => ?_)
              rcases hw_r_415 with ⟨rfl, h_416, h_417⟩ | ⟨rfl, h_418⟩
              · skip
                refine lv_if_eq (tgt := 105) hx hb dX9_walkItem_51 (by decide) (fun c_419 => absurd c_419 (by decide)) (fun c_419 => ?_)
                refine lv_aload_n hx hb dX9_walkItem_54 rfl (lv_at hl 1 rfl) ?_
                refine xc_Vr hF (c_X9_numberHere l D cI cJ cZ cS ta sa sv H.size h0 ys yk yo yt mk0 yfa yfe mL mS mM yro yhe ygr mF mC mY yta mz f8 t8 mv w8 ywa ybi ysi ynu ymo tp (by omega) (by omega) (by omega) (by omega) (by omega)) kv_X9_284 ⟨rfl, rfl, Nat.le_of_ble_eq_true rfl, Nat.le_of_ble_eq_true rfl⟩ ⟨Nat.le_of_ble_eq_true rfl, Nat.le_of_ble_eq_true rfl⟩ hK hN hZ hP hD hS hA [2, 3] rfl rfl 0 rfl rfl rfl rfl hl.1 rfl (Nat.le_of_ble_eq_true rfl) dX9_walkItem_55 (fun r_420 hw_r_420 => ?_)
                refine lv_istore_n (lv' := [(2, .int r_420), (1, .int (nI (n8))), (0, .ref h0)]) hx hb dX9_walkItem_58 rfl hl (by decide) rfl (fun ls hl => ?_)
                refine lv_aload_n hx hb dX9_walkItem_59 rfl (lv_at hl 2 rfl) ?_
                refine lv_aload_n hx hb dX9_walkItem_60 rfl (lv_at hl 2 rfl) ?_
                refine lv_iload_n hx hb dX9_walkItem_61 rfl (lv_at hl 0 rfl) ?_
                refine xc_Vr hF (c_X9_isPlace l D cI cJ cZ cS ta sa sv H.size h0 ys yk yo yt mk0 yfa yfe mL mS mM yro yhe ygr mF mC mY yta mz f8 t8 mv w8 ywa ybi ysi ynu ymo ms P Rn Wn r_420 hs0 hs1 hs2 hsS hsM hsp hsr hsw hsR) kv_X9_61 ⟨rfl, rfl, Nat.le_of_ble_eq_true rfl, Nat.le_of_ble_eq_true rfl⟩ ⟨Nat.le_of_ble_eq_true rfl, Nat.le_of_ble_eq_true rfl⟩ hK hN hZ hP hD hS hA [2, 0] rfl rfl 0 rfl rfl rfl rfl hl.1 rfl (Nat.le_of_ble_eq_true rfl) dX9_walkItem_62 (fun r_421 hw_r_421 => ?_)
                rcases hw_r_421 with ⟨k_422, rfl, rfl, h_424⟩ | rfl
                · skip
                  refine lv_if_eq (tgt := 88) hx hb dX9_walkItem_65 (by decide) (fun c_425 => absurd c_425 (by decide)) (fun c_425 => ?_)
                  refine lv_iload_n hx hb dX9_walkItem_68 rfl (lv_at hl 1 rfl) ?_
                  refine lv_if_eq (tgt := 84) hx hb dX9_walkItem_69 (by decide) (fun c_426 => ?_) (fun c_426 => ?_)
                  · skip
                    have nc_426 : n8 = 0 := xn_eq (a := n8) (b := 0) (by omega) (by omega) c_426
                    refine lv_iconst (v := 1) hx hb dX9_walkItem_84 (by decide) ?_
                    refine lv_goto (tgt := 89) hx hb dX9_walkItem_85 (by decide) ?_
                    refine xc_Vv (wr := [(ys, .inl (cI, 449, .inl ms)), (ywa, .inl (cI, 6, .inl a8))]) hF (c_X9_needs l D cI cJ cZ cS ta sa sv H.size h0 ys yk yo yt mk0 yfa yfe mL mS mM yro yhe ygr mF mC mY yta mz f8 t8 mv w8 ywa ybi ysi ynu ymo tp 1 (by omega) (by omega) (by omega) (by omega) (by omega)) kv_X9_278 ⟨rfl, rfl, Nat.le_of_ble_eq_true rfl, Nat.le_of_ble_eq_true rfl⟩ ⟨Nat.le_of_ble_eq_true rfl, Nat.le_of_ble_eq_true rfl⟩ hK hN hZ hP hD hS hA [2, 3] [0, 1] rfl rfl rfl rfl (by decide) 0 rfl rfl rfl rfl hl.1 rfl (Nat.le_of_ble_eq_true rfl) dX9_walkItem_89 (fun u_r_427 H locs hw_r_427 hP hD hS => ?_)
                    obtain ⟨f2_428, t2_429, w2_430⟩ := u_r_427
                    try dsimp only at hw_r_427
                    obtain ⟨i_431, i_432, i_433, i_434, i_435, i_436⟩ := hw_r_427
                    have hP : va_P D vwCl [(ys, .inl (cI, 449, .inl ms)), (ywa, .inl (cI, 6, .inl a8)), (h0, .inr (9, [.ref ys, .ref yk, .ref yo, .ref yt, .int mk0, .ref yfa, .ref yfe, .int mL, .int mS, .int mM, .ref yro, .ref yhe, .ref ygr, .int mF, .int mC, .int mY, .ref yta, .int (nI (mz)), .int (nI (f2_428)), .int (nI (t2_429)), .int mv, .int w2_430, .ref ywa, .ref ybi, .ref ysi, .ref ynu, .ref ymo])), (yta, .inl (cI, 120, .inl tp))] H := hP
                    have hD : va_D A [(ys, .inl (cI, 449, .inl ms)), (ywa, .inl (cI, 6, .inl a8)), (h0, .inr (9, [.ref ys, .ref yk, .ref yo, .ref yt, .int mk0, .ref yfa, .ref yfe, .int mL, .int mS, .int mM, .ref yro, .ref yhe, .ref ygr, .int mF, .int mC, .int mY, .ref yta, .int (nI (mz)), .int (nI (f2_428)), .int (nI (t2_429)), .int mv, .int w2_430, .ref ywa, .ref ybi, .ref ysi, .ref ynu, .ref ymo])), (yta, .inl (cI, 120, .inl tp))] := hD
                    refine lv_aload_n hx hb dX9_walkItem_92 rfl (lv_at hl 2 rfl) ?_
                    refine xg hF kf_X9_40 hK hP 2 rfl rfl dX9_walkItem_93 ?_
                    refine lv_iload_n hx hb dX9_walkItem_96 rfl (lv_at hl 1 rfl) ?_
                    refine lv_iload_n hx hb dX9_walkItem_97 rfl (lv_at hl 0 rfl) ?_
                    refine va_iast hx hb hK hP hD hS 1 0 rfl rfl (vp_in_nI (show n8 < 6 by omega) (by decide)) dX9_walkItem_98 (fun H locs hP hD hS => ?_)
                    rw [nI_clamp (show n8 < 2 ^ 31 by omega)] at hP hD
                    obtain ⟨f_437, ef_437⟩ : ∃ g, g = upd a8 n8 (nI (k_422)) := ⟨_, rfl⟩
                    rw [← ef_437] at hP hD
                    have hP : va_P D vwCl [(ys, .inl (cI, 449, .inl ms)), (ywa, .inl (cI, 6, .inl f_437)), (h0, .inr (9, [.ref ys, .ref yk, .ref yo, .ref yt, .int mk0, .ref yfa, .ref yfe, .int mL, .int mS, .int mM, .ref yro, .ref yhe, .ref ygr, .int mF, .int mC, .int mY, .ref yta, .int (nI (mz)), .int (nI (f2_428)), .int (nI (t2_429)), .int mv, .int w2_430, .ref ywa, .ref ybi, .ref ysi, .ref ynu, .ref ymo])), (yta, .inl (cI, 120, .inl tp))] H := hP
                    have hD : va_D A [(ys, .inl (cI, 449, .inl ms)), (ywa, .inl (cI, 6, .inl f_437)), (h0, .inr (9, [.ref ys, .ref yk, .ref yo, .ref yt, .int mk0, .ref yfa, .ref yfe, .int mL, .int mS, .int mM, .ref yro, .ref yhe, .ref ygr, .int mF, .int mC, .int mY, .ref yta, .int (nI (mz)), .int (nI (f2_428)), .int (nI (t2_429)), .int mv, .int w2_430, .ref ywa, .ref ybi, .ref ysi, .ref ynu, .ref ymo])), (yta, .inl (cI, 120, .inl tp))] := hD
                    refine lv_iinc (v := nI (n8 + 1)) (lv' := [(1, .int (nI (n8 + 1))), (2, .int (nI (k_422))), (0, .ref h0)]) hx hb dX9_walkItem_99 hl (k := 1) rfl (nI_1 (n8)) (by decide) rfl (fun ls hl => ?_)
                    refine lv_goto (tgt := 22) hx hb dX9_walkItem_102 (by decide) ?_
                    exact ih_22 (n8 + 1) f2_428 t2_429 w2_430 f_437 _ _ _ (by omega) (by omega) (by omega) (by omega) (by omega) (by omega) (by omega) (fun h => ⟨(hc8 (i_436 h).1).1, trivial⟩) (wk_A.put hA8 c_12 (show k_422 < 10 by omega) ef_437) (hP.sub [0, 1, 2, 3] rfl) (hD.sub [0, 1, 2, 3] (by decide) rfl) hS (lv_sub hl [0, 2] rfl)
                  · skip
                    have nc_426 : n8 ≠ 0 := xn_ne (a := n8) (b := 0) (by omega) (by omega) c_426
                    refine lv_iload_n hx hb dX9_walkItem_72 rfl (lv_at hl 0 rfl) ?_
                    refine lv_aload_n hx hb dX9_walkItem_73 rfl (lv_at hl 2 rfl) ?_
                    refine xg hF kf_X9_40 hK hP 2 rfl rfl dX9_walkItem_74 ?_
                    refine lv_iload_n hx hb dX9_walkItem_77 rfl (lv_at hl 1 rfl) ?_
                    refine lv_iconst (v := 1) hx hb dX9_walkItem_78 (by decide) ?_
                    refine lv_isub hx hb dX9_walkItem_79 ?_
                    refine xl_i (y := nI (n8 - 1)) (pk_sub (show 1 ≤ n8 by omega)) ?_
                    refine va_iald hx hb hK hP 1 0 rfl rfl (vp_in_nI (show n8 - 1 < 6 by omega) (by decide)) dX9_walkItem_80 ?_
                    refine xl_i (y := a8 (n8 - 1)) (congrArg a8 (nI_clamp (show n8 - 1 < 2 ^ 31 by omega))) ?_
                    refine lv_icmp_eq (tgt := 88) hx hb dX9_walkItem_81 (by decide) (fun c_438 => ?_) (fun c_438 => ?_)
                    · skip
                      refine lv_iconst (v := 0) hx hb dX9_walkItem_88 (by decide) ?_
                      refine xc_Vv (wr := [(ys, .inl (cI, 449, .inl ms)), (ywa, .inl (cI, 6, .inl a8))]) hF (c_X9_needs l D cI cJ cZ cS ta sa sv H.size h0 ys yk yo yt mk0 yfa yfe mL mS mM yro yhe ygr mF mC mY yta mz f8 t8 mv w8 ywa ybi ysi ynu ymo tp 0 (by omega) (by omega) (by omega) (by omega) (by omega)) kv_X9_278 ⟨rfl, rfl, Nat.le_of_ble_eq_true rfl, Nat.le_of_ble_eq_true rfl⟩ ⟨Nat.le_of_ble_eq_true rfl, Nat.le_of_ble_eq_true rfl⟩ hK hN hZ hP hD hS hA [2, 3] [0, 1] rfl rfl rfl rfl (by decide) 0 rfl rfl rfl rfl hl.1 rfl (Nat.le_of_ble_eq_true rfl) dX9_walkItem_89 (fun u_r_439 H locs hw_r_439 hP hD hS => ?_)
                      obtain ⟨f2_440, t2_441, w2_442⟩ := u_r_439
                      try dsimp only at hw_r_439
                      obtain ⟨i_443, i_444, i_445, i_446, i_447, i_448⟩ := hw_r_439
                      have hP : va_P D vwCl [(ys, .inl (cI, 449, .inl ms)), (ywa, .inl (cI, 6, .inl a8)), (h0, .inr (9, [.ref ys, .ref yk, .ref yo, .ref yt, .int mk0, .ref yfa, .ref yfe, .int mL, .int mS, .int mM, .ref yro, .ref yhe, .ref ygr, .int mF, .int mC, .int mY, .ref yta, .int (nI (mz)), .int (nI (f2_440)), .int (nI (t2_441)), .int mv, .int w2_442, .ref ywa, .ref ybi, .ref ysi, .ref ynu, .ref ymo])), (yta, .inl (cI, 120, .inl tp))] H := hP
                      have hD : va_D A [(ys, .inl (cI, 449, .inl ms)), (ywa, .inl (cI, 6, .inl a8)), (h0, .inr (9, [.ref ys, .ref yk, .ref yo, .ref yt, .int mk0, .ref yfa, .ref yfe, .int mL, .int mS, .int mM, .ref yro, .ref yhe, .ref ygr, .int mF, .int mC, .int mY, .ref yta, .int (nI (mz)), .int (nI (f2_440)), .int (nI (t2_441)), .int mv, .int w2_442, .ref ywa, .ref ybi, .ref ysi, .ref ynu, .ref ymo])), (yta, .inl (cI, 120, .inl tp))] := hD
                      refine lv_aload_n hx hb dX9_walkItem_92 rfl (lv_at hl 2 rfl) ?_
                      refine xg hF kf_X9_40 hK hP 2 rfl rfl dX9_walkItem_93 ?_
                      refine lv_iload_n hx hb dX9_walkItem_96 rfl (lv_at hl 1 rfl) ?_
                      refine lv_iload_n hx hb dX9_walkItem_97 rfl (lv_at hl 0 rfl) ?_
                      refine va_iast hx hb hK hP hD hS 1 0 rfl rfl (vp_in_nI (show n8 < 6 by omega) (by decide)) dX9_walkItem_98 (fun H locs hP hD hS => ?_)
                      rw [nI_clamp (show n8 < 2 ^ 31 by omega)] at hP hD
                      obtain ⟨f_449, ef_449⟩ : ∃ g, g = upd a8 n8 (nI (k_422)) := ⟨_, rfl⟩
                      rw [← ef_449] at hP hD
                      have hP : va_P D vwCl [(ys, .inl (cI, 449, .inl ms)), (ywa, .inl (cI, 6, .inl f_449)), (h0, .inr (9, [.ref ys, .ref yk, .ref yo, .ref yt, .int mk0, .ref yfa, .ref yfe, .int mL, .int mS, .int mM, .ref yro, .ref yhe, .ref ygr, .int mF, .int mC, .int mY, .ref yta, .int (nI (mz)), .int (nI (f2_440)), .int (nI (t2_441)), .int mv, .int w2_442, .ref ywa, .ref ybi, .ref ysi, .ref ynu, .ref ymo])), (yta, .inl (cI, 120, .inl tp))] H := hP
                      have hD : va_D A [(ys, .inl (cI, 449, .inl ms)), (ywa, .inl (cI, 6, .inl f_449)), (h0, .inr (9, [.ref ys, .ref yk, .ref yo, .ref yt, .int mk0, .ref yfa, .ref yfe, .int mL, .int mS, .int mM, .ref yro, .ref yhe, .ref ygr, .int mF, .int mC, .int mY, .ref yta, .int (nI (mz)), .int (nI (f2_440)), .int (nI (t2_441)), .int mv, .int w2_442, .ref ywa, .ref ybi, .ref ysi, .ref ynu, .ref ymo])), (yta, .inl (cI, 120, .inl tp))] := hD
                      refine lv_iinc (v := nI (n8 + 1)) (lv' := [(1, .int (nI (n8 + 1))), (2, .int (nI (k_422))), (0, .ref h0)]) hx hb dX9_walkItem_99 hl (k := 1) rfl (nI_1 (n8)) (by decide) rfl (fun ls hl => ?_)
                      refine lv_goto (tgt := 22) hx hb dX9_walkItem_102 (by decide) ?_
                      exact ih_22 (n8 + 1) f2_440 t2_441 w2_442 f_449 _ _ _ (by omega) (by omega) (by omega) (by omega) (by omega) (by omega) (by omega) (fun h => ⟨(hc8 (i_448 h).1).1, trivial⟩) (wk_A.no (fun h => absurd rfl (i_448 h).2.1)) (hP.sub [0, 1, 2, 3] rfl) (hD.sub [0, 1, 2, 3] (by decide) rfl) hS (lv_sub hl [0, 2] rfl)
                    · skip
                      refine lv_iconst (v := 1) hx hb dX9_walkItem_84 (by decide) ?_
                      refine lv_goto (tgt := 89) hx hb dX9_walkItem_85 (by decide) ?_
                      refine xc_Vv (wr := [(ys, .inl (cI, 449, .inl ms)), (ywa, .inl (cI, 6, .inl a8))]) hF (c_X9_needs l D cI cJ cZ cS ta sa sv H.size h0 ys yk yo yt mk0 yfa yfe mL mS mM yro yhe ygr mF mC mY yta mz f8 t8 mv w8 ywa ybi ysi ynu ymo tp 1 (by omega) (by omega) (by omega) (by omega) (by omega)) kv_X9_278 ⟨rfl, rfl, Nat.le_of_ble_eq_true rfl, Nat.le_of_ble_eq_true rfl⟩ ⟨Nat.le_of_ble_eq_true rfl, Nat.le_of_ble_eq_true rfl⟩ hK hN hZ hP hD hS hA [2, 3] [0, 1] rfl rfl rfl rfl (by decide) 0 rfl rfl rfl rfl hl.1 rfl (Nat.le_of_ble_eq_true rfl) dX9_walkItem_89 (fun u_r_450 H locs hw_r_450 hP hD hS => ?_)
                      obtain ⟨f2_451, t2_452, w2_453⟩ := u_r_450
                      try dsimp only at hw_r_450
                      obtain ⟨i_454, i_455, i_456, i_457, i_458, i_459⟩ := hw_r_450
                      have hP : va_P D vwCl [(ys, .inl (cI, 449, .inl ms)), (ywa, .inl (cI, 6, .inl a8)), (h0, .inr (9, [.ref ys, .ref yk, .ref yo, .ref yt, .int mk0, .ref yfa, .ref yfe, .int mL, .int mS, .int mM, .ref yro, .ref yhe, .ref ygr, .int mF, .int mC, .int mY, .ref yta, .int (nI (mz)), .int (nI (f2_451)), .int (nI (t2_452)), .int mv, .int w2_453, .ref ywa, .ref ybi, .ref ysi, .ref ynu, .ref ymo])), (yta, .inl (cI, 120, .inl tp))] H := hP
                      have hD : va_D A [(ys, .inl (cI, 449, .inl ms)), (ywa, .inl (cI, 6, .inl a8)), (h0, .inr (9, [.ref ys, .ref yk, .ref yo, .ref yt, .int mk0, .ref yfa, .ref yfe, .int mL, .int mS, .int mM, .ref yro, .ref yhe, .ref ygr, .int mF, .int mC, .int mY, .ref yta, .int (nI (mz)), .int (nI (f2_451)), .int (nI (t2_452)), .int mv, .int w2_453, .ref ywa, .ref ybi, .ref ysi, .ref ynu, .ref ymo])), (yta, .inl (cI, 120, .inl tp))] := hD
                      refine lv_aload_n hx hb dX9_walkItem_92 rfl (lv_at hl 2 rfl) ?_
                      refine xg hF kf_X9_40 hK hP 2 rfl rfl dX9_walkItem_93 ?_
                      refine lv_iload_n hx hb dX9_walkItem_96 rfl (lv_at hl 1 rfl) ?_
                      refine lv_iload_n hx hb dX9_walkItem_97 rfl (lv_at hl 0 rfl) ?_
                      refine va_iast hx hb hK hP hD hS 1 0 rfl rfl (vp_in_nI (show n8 < 6 by omega) (by decide)) dX9_walkItem_98 (fun H locs hP hD hS => ?_)
                      rw [nI_clamp (show n8 < 2 ^ 31 by omega)] at hP hD
                      obtain ⟨f_460, ef_460⟩ : ∃ g, g = upd a8 n8 (nI (k_422)) := ⟨_, rfl⟩
                      rw [← ef_460] at hP hD
                      have hP : va_P D vwCl [(ys, .inl (cI, 449, .inl ms)), (ywa, .inl (cI, 6, .inl f_460)), (h0, .inr (9, [.ref ys, .ref yk, .ref yo, .ref yt, .int mk0, .ref yfa, .ref yfe, .int mL, .int mS, .int mM, .ref yro, .ref yhe, .ref ygr, .int mF, .int mC, .int mY, .ref yta, .int (nI (mz)), .int (nI (f2_451)), .int (nI (t2_452)), .int mv, .int w2_453, .ref ywa, .ref ybi, .ref ysi, .ref ynu, .ref ymo])), (yta, .inl (cI, 120, .inl tp))] H := hP
                      have hD : va_D A [(ys, .inl (cI, 449, .inl ms)), (ywa, .inl (cI, 6, .inl f_460)), (h0, .inr (9, [.ref ys, .ref yk, .ref yo, .ref yt, .int mk0, .ref yfa, .ref yfe, .int mL, .int mS, .int mM, .ref yro, .ref yhe, .ref ygr, .int mF, .int mC, .int mY, .ref yta, .int (nI (mz)), .int (nI (f2_451)), .int (nI (t2_452)), .int mv, .int w2_453, .ref ywa, .ref ybi, .ref ysi, .ref ynu, .ref ymo])), (yta, .inl (cI, 120, .inl tp))] := hD
                      refine lv_iinc (v := nI (n8 + 1)) (lv' := [(1, .int (nI (n8 + 1))), (2, .int (nI (k_422))), (0, .ref h0)]) hx hb dX9_walkItem_99 hl (k := 1) rfl (nI_1 (n8)) (by decide) rfl (fun ls hl => ?_)
                      refine lv_goto (tgt := 22) hx hb dX9_walkItem_102 (by decide) ?_
                      exact ih_22 (n8 + 1) f2_451 t2_452 w2_453 f_460 _ _ _ (by omega) (by omega) (by omega) (by omega) (by omega) (by omega) (by omega) (fun h => ⟨(hc8 (i_459 h).1).1, trivial⟩) (wk_A.put hA8 c_12 (show k_422 < 10 by omega) ef_460) (hP.sub [0, 1, 2, 3] rfl) (hD.sub [0, 1, 2, 3] (by decide) rfl) hS (lv_sub hl [0, 2] rfl)
                · skip
                  refine lv_if_eq (tgt := 88) hx hb dX9_walkItem_65 (by decide) (fun c_461 => ?_) (fun c_461 => absurd (by decide) c_461)
                  refine lv_iconst (v := 0) hx hb dX9_walkItem_88 (by decide) ?_
                  refine xc_Vv (wr := [(ys, .inl (cI, 449, .inl ms)), (ywa, .inl (cI, 6, .inl a8))]) hF (c_X9_needs l D cI cJ cZ cS ta sa sv H.size h0 ys yk yo yt mk0 yfa yfe mL mS mM yro yhe ygr mF mC mY yta mz f8 t8 mv w8 ywa ybi ysi ynu ymo tp 0 (by omega) (by omega) (by omega) (by omega) (by omega)) kv_X9_278 ⟨rfl, rfl, Nat.le_of_ble_eq_true rfl, Nat.le_of_ble_eq_true rfl⟩ ⟨Nat.le_of_ble_eq_true rfl, Nat.le_of_ble_eq_true rfl⟩ hK hN hZ hP hD hS hA [2, 3] [0, 1] rfl rfl rfl rfl (by decide) 0 rfl rfl rfl rfl hl.1 rfl (Nat.le_of_ble_eq_true rfl) dX9_walkItem_89 (fun u_r_462 H locs hw_r_462 hP hD hS => ?_)
                  obtain ⟨f2_463, t2_464, w2_465⟩ := u_r_462
                  try dsimp only at hw_r_462
                  obtain ⟨i_466, i_467, i_468, i_469, i_470, i_471⟩ := hw_r_462
                  have hP : va_P D vwCl [(ys, .inl (cI, 449, .inl ms)), (ywa, .inl (cI, 6, .inl a8)), (h0, .inr (9, [.ref ys, .ref yk, .ref yo, .ref yt, .int mk0, .ref yfa, .ref yfe, .int mL, .int mS, .int mM, .ref yro, .ref yhe, .ref ygr, .int mF, .int mC, .int mY, .ref yta, .int (nI (mz)), .int (nI (f2_463)), .int (nI (t2_464)), .int mv, .int w2_465, .ref ywa, .ref ybi, .ref ysi, .ref ynu, .ref ymo])), (yta, .inl (cI, 120, .inl tp))] H := hP
                  have hD : va_D A [(ys, .inl (cI, 449, .inl ms)), (ywa, .inl (cI, 6, .inl a8)), (h0, .inr (9, [.ref ys, .ref yk, .ref yo, .ref yt, .int mk0, .ref yfa, .ref yfe, .int mL, .int mS, .int mM, .ref yro, .ref yhe, .ref ygr, .int mF, .int mC, .int mY, .ref yta, .int (nI (mz)), .int (nI (f2_463)), .int (nI (t2_464)), .int mv, .int w2_465, .ref ywa, .ref ybi, .ref ysi, .ref ynu, .ref ymo])), (yta, .inl (cI, 120, .inl tp))] := hD
                  refine lv_aload_n hx hb dX9_walkItem_92 rfl (lv_at hl 2 rfl) ?_
                  refine xg hF kf_X9_40 hK hP 2 rfl rfl dX9_walkItem_93 ?_
                  refine lv_iload_n hx hb dX9_walkItem_96 rfl (lv_at hl 1 rfl) ?_
                  refine lv_iload_n hx hb dX9_walkItem_97 rfl (lv_at hl 0 rfl) ?_
                  refine va_iast hx hb hK hP hD hS 1 0 rfl rfl (vp_in_nI (show n8 < 6 by omega) (by decide)) dX9_walkItem_98 (fun H locs hP hD hS => ?_)
                  rw [nI_clamp (show n8 < 2 ^ 31 by omega)] at hP hD
                  obtain ⟨f_472, ef_472⟩ : ∃ g, g = upd a8 n8 r_420 := ⟨_, rfl⟩
                  rw [← ef_472] at hP hD
                  have hP : va_P D vwCl [(ys, .inl (cI, 449, .inl ms)), (ywa, .inl (cI, 6, .inl f_472)), (h0, .inr (9, [.ref ys, .ref yk, .ref yo, .ref yt, .int mk0, .ref yfa, .ref yfe, .int mL, .int mS, .int mM, .ref yro, .ref yhe, .ref ygr, .int mF, .int mC, .int mY, .ref yta, .int (nI (mz)), .int (nI (f2_463)), .int (nI (t2_464)), .int mv, .int w2_465, .ref ywa, .ref ybi, .ref ysi, .ref ynu, .ref ymo])), (yta, .inl (cI, 120, .inl tp))] H := hP
                  have hD : va_D A [(ys, .inl (cI, 449, .inl ms)), (ywa, .inl (cI, 6, .inl f_472)), (h0, .inr (9, [.ref ys, .ref yk, .ref yo, .ref yt, .int mk0, .ref yfa, .ref yfe, .int mL, .int mS, .int mM, .ref yro, .ref yhe, .ref ygr, .int mF, .int mC, .int mY, .ref yta, .int (nI (mz)), .int (nI (f2_463)), .int (nI (t2_464)), .int mv, .int w2_465, .ref ywa, .ref ybi, .ref ysi, .ref ynu, .ref ymo])), (yta, .inl (cI, 120, .inl tp))] := hD
                  refine lv_iinc (v := nI (n8 + 1)) (lv' := [(1, .int (nI (n8 + 1))), (2, .int r_420), (0, .ref h0)]) hx hb dX9_walkItem_99 hl (k := 1) rfl (nI_1 (n8)) (by decide) rfl (fun ls hl => ?_)
                  refine lv_goto (tgt := 22) hx hb dX9_walkItem_102 (by decide) ?_
                  exact ih_22 (n8 + 1) f2_463 t2_464 w2_465 f_472 _ _ _ (by omega) (by omega) (by omega) (by omega) (by omega) (by omega) (by omega) (fun h => ⟨(hc8 (i_471 h).1).1, trivial⟩) (wk_A.no (fun h => absurd rfl (i_471 h).2.1)) (hP.sub [0, 1, 2, 3] rfl) (hD.sub [0, 1, 2, 3] (by decide) rfl) hS (lv_sub hl [0, 2] rfl)
              · skip
                refine lv_if_eq (tgt := 105) hx hb dX9_walkItem_51 (by decide) (fun c_473 => ?_) (fun c_473 => absurd (by decide) c_473)
                refine lv_aload_n hx hb dX9_walkItem_105 rfl (lv_at hl 1 rfl) ?_
                refine lv_aload_n hx hb dX9_walkItem_106 rfl (lv_at hl 1 rfl) ?_
                refine lv_bipush (v := 97) hx hb dX9_walkItem_107 (by decide) ?_
                refine lv_bipush (v := 108) hx hb dX9_walkItem_109 (by decide) ?_
                refine lv_bipush (v := 108) hx hb dX9_walkItem_111 (by decide) ?_
                refine lv_iconst (v := 0) hx hb dX9_walkItem_113 (by decide) ?_
                refine lv_iconst (v := 0) hx hb dX9_walkItem_114 (by decide) ?_
                refine lv_iconst (v := 0) hx hb dX9_walkItem_115 (by decide) ?_
                refine lv_iconst (v := 0) hx hb dX9_walkItem_116 (by decide) ?_
                refine xc_Vr hF (c_X9_isWord l D cI cJ cZ cS ta sa sv H.size h0 ys yk yo yt mk0 yfa yfe mL mS mM yro yhe ygr mF mC mY yta mz f8 t8 mv w8 ywa ybi ysi ynu ymo tp 97 108 108 0 0 0 0 (by omega) (by omega)) kv_X9_290 ⟨rfl, rfl, Nat.le_of_ble_eq_true rfl, Nat.le_of_ble_eq_true rfl⟩ ⟨Nat.le_of_ble_eq_true rfl, Nat.le_of_ble_eq_true rfl⟩ hK hN hZ hP hD hS hA [2, 3] rfl rfl 0 rfl rfl rfl rfl hl.1 rfl (Nat.le_of_ble_eq_true rfl) dX9_walkItem_117 (fun r_474 hw_r_474 => ?_)
                rcases hw_r_474 with rfl | rfl
                · skip
                  refine xc_Vv (wr := [(ys, .inl (cI, 449, .inl ms)), (ywa, .inl (cI, 6, .inl a8))]) hF (c_X9_needs l D cI cJ cZ cS ta sa sv H.size h0 ys yk yo yt mk0 yfa yfe mL mS mM yro yhe ygr mF mC mY yta mz f8 t8 mv w8 ywa ybi ysi ynu ymo tp 1 (by omega) (by omega) (by omega) (by omega) (by omega)) kv_X9_278 ⟨rfl, rfl, Nat.le_of_ble_eq_true rfl, Nat.le_of_ble_eq_true rfl⟩ ⟨Nat.le_of_ble_eq_true rfl, Nat.le_of_ble_eq_true rfl⟩ hK hN hZ hP hD hS hA [2, 3] [0, 1] rfl rfl rfl rfl (by decide) 0 rfl rfl rfl rfl hl.1 rfl (Nat.le_of_ble_eq_true rfl) dX9_walkItem_120 (fun u_r_475 H locs hw_r_475 hP hD hS => ?_)
                  obtain ⟨f2_476, t2_477, w2_478⟩ := u_r_475
                  try dsimp only at hw_r_475
                  obtain ⟨i_479, i_480, i_481, i_482, i_483, i_484⟩ := hw_r_475
                  have hP : va_P D vwCl [(ys, .inl (cI, 449, .inl ms)), (ywa, .inl (cI, 6, .inl a8)), (h0, .inr (9, [.ref ys, .ref yk, .ref yo, .ref yt, .int mk0, .ref yfa, .ref yfe, .int mL, .int mS, .int mM, .ref yro, .ref yhe, .ref ygr, .int mF, .int mC, .int mY, .ref yta, .int (nI (mz)), .int (nI (f2_476)), .int (nI (t2_477)), .int mv, .int w2_478, .ref ywa, .ref ybi, .ref ysi, .ref ynu, .ref ymo])), (yta, .inl (cI, 120, .inl tp))] H := hP
                  have hD : va_D A [(ys, .inl (cI, 449, .inl ms)), (ywa, .inl (cI, 6, .inl a8)), (h0, .inr (9, [.ref ys, .ref yk, .ref yo, .ref yt, .int mk0, .ref yfa, .ref yfe, .int mL, .int mS, .int mM, .ref yro, .ref yhe, .ref ygr, .int mF, .int mC, .int mY, .ref yta, .int (nI (mz)), .int (nI (f2_476)), .int (nI (t2_477)), .int mv, .int w2_478, .ref ywa, .ref ybi, .ref ysi, .ref ynu, .ref ymo])), (yta, .inl (cI, 120, .inl tp))] := hD
                  refine lv_aload_n hx hb dX9_walkItem_123 rfl (lv_at hl 1 rfl) ?_
                  refine lv_sipush (v := (-9999)) hx hb dX9_walkItem_124 (by decide) ?_
                  refine lv_sipush (v := 9999) hx hb dX9_walkItem_127 (by decide) ?_
                  refine xc_Vv (wr := [(ys, .inl (cI, 449, .inl ms)), (ywa, .inl (cI, 6, .inl a8))]) hF (c_X9_mile l D cI cJ cZ cS ta sa sv H.size h0 ys yk yo yt mk0 yfa yfe mL mS mM yro yhe ygr mF mC mY yta mz f2_476 t2_477 mv w2_478 ywa ybi ysi ynu ymo tp (-9999) 9999 (by omega) (by omega) (by omega) (by omega) (by omega)) kv_X9_287 ⟨rfl, rfl, Nat.le_of_ble_eq_true rfl, Nat.le_of_ble_eq_true rfl⟩ ⟨Nat.le_of_ble_eq_true rfl, Nat.le_of_ble_eq_true rfl⟩ hK hN hZ hP hD hS hA [2, 3] [0, 1] rfl rfl rfl rfl (by decide) 0 rfl rfl rfl rfl hl.1 rfl (Nat.le_of_ble_eq_true rfl) dX9_walkItem_130 (fun u_r_485 H locs hw_r_485 hP hD hS => ?_)
                  obtain ⟨f2_486, t2_487, v2_488, w2_489⟩ := u_r_485
                  try dsimp only at hw_r_485
                  obtain ⟨i_490, i_491, i_492, i_493, i_494, i_495⟩ := hw_r_485
                  have hP : va_P D vwCl [(ys, .inl (cI, 449, .inl ms)), (ywa, .inl (cI, 6, .inl a8)), (h0, .inr (9, [.ref ys, .ref yk, .ref yo, .ref yt, .int mk0, .ref yfa, .ref yfe, .int mL, .int mS, .int mM, .ref yro, .ref yhe, .ref ygr, .int mF, .int mC, .int mY, .ref yta, .int (nI (mz)), .int (nI (f2_486)), .int (nI (t2_487)), .int v2_488, .int w2_489, .ref ywa, .ref ybi, .ref ysi, .ref ynu, .ref ymo])), (yta, .inl (cI, 120, .inl tp))] H := hP
                  have hD : va_D A [(ys, .inl (cI, 449, .inl ms)), (ywa, .inl (cI, 6, .inl a8)), (h0, .inr (9, [.ref ys, .ref yk, .ref yo, .ref yt, .int mk0, .ref yfa, .ref yfe, .int mL, .int mS, .int mM, .ref yro, .ref yhe, .ref ygr, .int mF, .int mC, .int mY, .ref yta, .int (nI (mz)), .int (nI (f2_486)), .int (nI (t2_487)), .int v2_488, .int w2_489, .ref ywa, .ref ybi, .ref ysi, .ref ynu, .ref ymo])), (yta, .inl (cI, 120, .inl tp))] := hD
                  refine lv_aload_n hx hb dX9_walkItem_133 rfl (lv_at hl 1 rfl) ?_
                  refine xg hF kf_X9_275 hK hP 2 rfl rfl dX9_walkItem_134 ?_
                  refine lv_istore_n (lv' := [(2, .int v2_488), (1, .int (nI (n8))), (0, .ref h0)]) hx hb dX9_walkItem_137 rfl hl (by decide) rfl (fun ls hl => ?_)
                  refine lv_iconst (v := 0) hx hb dX9_walkItem_138 (by decide) ?_
                  refine lv_istore_n (lv' := [(3, .int 0), (2, .int v2_488), (1, .int (nI (n8))), (0, .ref h0)]) hx hb dX9_walkItem_139 rfl hl (by decide) rfl (fun ls hl => ?_)
                  refine lv_aload_n hx hb dX9_walkItem_140 rfl (lv_at hl 3 rfl) ?_
                  refine lv_bipush (v := 115) hx hb dX9_walkItem_141 (by decide) ?_
                  refine lv_bipush (v := 108) hx hb dX9_walkItem_143 (by decide) ?_
                  refine lv_bipush (v := 97) hx hb dX9_walkItem_145 (by decide) ?_
                  refine lv_bipush (v := 99) hx hb dX9_walkItem_147 (by decide) ?_
                  refine lv_bipush (v := 107) hx hb dX9_walkItem_149 (by decide) ?_
                  refine lv_iconst (v := 0) hx hb dX9_walkItem_151 (by decide) ?_
                  refine lv_iconst (v := 0) hx hb dX9_walkItem_152 (by decide) ?_
                  refine xc_Vr hF (c_X9_isWord l D cI cJ cZ cS ta sa sv H.size h0 ys yk yo yt mk0 yfa yfe mL mS mM yro yhe ygr mF mC mY yta mz f2_486 t2_487 v2_488 w2_489 ywa ybi ysi ynu ymo tp 115 108 97 99 107 0 0 (by omega) (by omega)) kv_X9_290 ⟨rfl, rfl, Nat.le_of_ble_eq_true rfl, Nat.le_of_ble_eq_true rfl⟩ ⟨Nat.le_of_ble_eq_true rfl, Nat.le_of_ble_eq_true rfl⟩ hK hN hZ hP hD hS hA [2, 3] rfl rfl 0 rfl rfl rfl rfl hl.1 rfl (Nat.le_of_ble_eq_true rfl) dX9_walkItem_153 (fun r_496 hw_r_496 => ?_)
                  rcases hw_r_496 with rfl | rfl
                  · skip
                    refine lv_if_eq (tgt := 176) hx hb dX9_walkItem_156 (by decide) (fun c_497 => absurd c_497 (by decide)) (fun c_497 => ?_)
                    refine lv_aload_n hx hb dX9_walkItem_159 rfl (lv_at hl 3 rfl) ?_
                    refine lv_iconst (v := 1) hx hb dX9_walkItem_160 (by decide) ?_
                    refine xc_Vv (wr := [(ys, .inl (cI, 449, .inl ms)), (ywa, .inl (cI, 6, .inl a8))]) hF (c_X9_needs l D cI cJ cZ cS ta sa sv H.size h0 ys yk yo yt mk0 yfa yfe mL mS mM yro yhe ygr mF mC mY yta mz f2_486 t2_487 v2_488 w2_489 ywa ybi ysi ynu ymo tp 1 (by omega) (by omega) (by omega) (by omega) (by omega)) kv_X9_278 ⟨rfl, rfl, Nat.le_of_ble_eq_true rfl, Nat.le_of_ble_eq_true rfl⟩ ⟨Nat.le_of_ble_eq_true rfl, Nat.le_of_ble_eq_true rfl⟩ hK hN hZ hP hD hS hA [2, 3] [0, 1] rfl rfl rfl rfl (by decide) 0 rfl rfl rfl rfl hl.1 rfl (Nat.le_of_ble_eq_true rfl) dX9_walkItem_161 (fun u_r_498 H locs hw_r_498 hP hD hS => ?_)
                    obtain ⟨f2_499, t2_500, w2_501⟩ := u_r_498
                    try dsimp only at hw_r_498
                    obtain ⟨i_502, i_503, i_504, i_505, i_506, i_507⟩ := hw_r_498
                    have hP : va_P D vwCl [(ys, .inl (cI, 449, .inl ms)), (ywa, .inl (cI, 6, .inl a8)), (h0, .inr (9, [.ref ys, .ref yk, .ref yo, .ref yt, .int mk0, .ref yfa, .ref yfe, .int mL, .int mS, .int mM, .ref yro, .ref yhe, .ref ygr, .int mF, .int mC, .int mY, .ref yta, .int (nI (mz)), .int (nI (f2_499)), .int (nI (t2_500)), .int v2_488, .int w2_501, .ref ywa, .ref ybi, .ref ysi, .ref ynu, .ref ymo])), (yta, .inl (cI, 120, .inl tp))] H := hP
                    have hD : va_D A [(ys, .inl (cI, 449, .inl ms)), (ywa, .inl (cI, 6, .inl a8)), (h0, .inr (9, [.ref ys, .ref yk, .ref yo, .ref yt, .int mk0, .ref yfa, .ref yfe, .int mL, .int mS, .int mM, .ref yro, .ref yhe, .ref ygr, .int mF, .int mC, .int mY, .ref yta, .int (nI (mz)), .int (nI (f2_499)), .int (nI (t2_500)), .int v2_488, .int w2_501, .ref ywa, .ref ybi, .ref ysi, .ref ynu, .ref ymo])), (yta, .inl (cI, 120, .inl tp))] := hD
                    refine lv_aload_n hx hb dX9_walkItem_164 rfl (lv_at hl 3 rfl) ?_
                    refine lv_iconst (v := 0) hx hb dX9_walkItem_165 (by decide) ?_
                    refine lv_bipush (v := 99) hx hb dX9_walkItem_166 (by decide) ?_
                    refine xc_Vv (wr := [(ys, .inl (cI, 449, .inl ms)), (ywa, .inl (cI, 6, .inl a8))]) hF (c_X9_number l D cI cJ cZ cS ta sa sv H.size h0 ys yk yo yt mk0 yfa yfe mL mS mM yro yhe ygr mF mC mY yta mz f2_499 t2_500 v2_488 w2_501 ywa ybi ysi ynu ymo tp 0 99 (by omega) (by omega) (by omega) (by omega) (by omega)) kv_X9_282 ⟨rfl, rfl, Nat.le_of_ble_eq_true rfl, Nat.le_of_ble_eq_true rfl⟩ ⟨Nat.le_of_ble_eq_true rfl, Nat.le_of_ble_eq_true rfl⟩ hK hN hZ hP hD hS hA [2, 3] [0, 1] rfl rfl rfl rfl (by decide) 0 rfl rfl rfl rfl hl.1 rfl (Nat.le_of_ble_eq_true rfl) dX9_walkItem_168 (fun u_r_508 H locs hw_r_508 hP hD hS => ?_)
                    obtain ⟨f2_509, t2_510, v2_511, w2_512⟩ := u_r_508
                    try dsimp only at hw_r_508
                    obtain ⟨i_513, i_514, i_515, i_516, i_517, i_518⟩ := hw_r_508
                    have hP : va_P D vwCl [(ys, .inl (cI, 449, .inl ms)), (ywa, .inl (cI, 6, .inl a8)), (h0, .inr (9, [.ref ys, .ref yk, .ref yo, .ref yt, .int mk0, .ref yfa, .ref yfe, .int mL, .int mS, .int mM, .ref yro, .ref yhe, .ref ygr, .int mF, .int mC, .int mY, .ref yta, .int (nI (mz)), .int (nI (f2_509)), .int (nI (t2_510)), .int v2_511, .int w2_512, .ref ywa, .ref ybi, .ref ysi, .ref ynu, .ref ymo])), (yta, .inl (cI, 120, .inl tp))] H := hP
                    have hD : va_D A [(ys, .inl (cI, 449, .inl ms)), (ywa, .inl (cI, 6, .inl a8)), (h0, .inr (9, [.ref ys, .ref yk, .ref yo, .ref yt, .int mk0, .ref yfa, .ref yfe, .int mL, .int mS, .int mM, .ref yro, .ref yhe, .ref ygr, .int mF, .int mC, .int mY, .ref yta, .int (nI (mz)), .int (nI (f2_509)), .int (nI (t2_510)), .int v2_511, .int w2_512, .ref ywa, .ref ybi, .ref ysi, .ref ynu, .ref ymo])), (yta, .inl (cI, 120, .inl tp))] := hD
                    refine lv_aload_n hx hb dX9_walkItem_171 rfl (lv_at hl 3 rfl) ?_
                    refine xg hF kf_X9_275 hK hP 2 rfl rfl dX9_walkItem_172 ?_
                    refine lv_istore_n (lv' := [(3, .int v2_511), (2, .int v2_488), (1, .int (nI (n8))), (0, .ref h0)]) hx hb dX9_walkItem_175 rfl hl (by decide) rfl (fun ls hl => ?_)
                    refine lv_aload_n hx hb dX9_walkItem_176 rfl (lv_at hl 3 rfl) ?_
                    refine xg hF kf_X9_266 hK hP 2 rfl rfl dX9_walkItem_177 ?_
                    refine lv_if_ne (tgt := 252) hx hb dX9_walkItem_180 (by decide) (fun c_519 => ?_) (fun c_519 => absurd rfl (i_11 (hc8 (i_484 (i_495 (i_507 (i_518 c_519).1).1).1).1).1).2.1)
                    exact W.vret hx hb hr (fun t ht hW => ⟨⟨(f2_509, t2_510, v2_511, w2_512, ms, a8, Wn), rfl, ⟨(by first | assumption | omega), (by first | assumption | omega), (by first | assumption | omega), (by first | assumption | omega), (by first | assumption | omega), (fun h => ⟨(i_11 (hc8 (i_484 (i_495 (i_507 (i_518 h).1).1).1).1).1).1, trivial⟩), hs0, hs1, hs2, hsS, hsM, hsp, hsr, hsw, hsR⟩, by rw [ht]; exact hP.sub [2, 0, 3, 1] rfl, hD.sub [2, 0, 3, 1] (by decide) rfl⟩, hS.F ht⟩) hS.2.2 dX9_walkItem_252 hlk
                  · skip
                    refine lv_if_eq (tgt := 176) hx hb dX9_walkItem_156 (by decide) (fun c_520 => ?_) (fun c_520 => absurd (by decide) c_520)
                    refine lv_aload_n hx hb dX9_walkItem_176 rfl (lv_at hl 3 rfl) ?_
                    refine xg hF kf_X9_266 hK hP 2 rfl rfl dX9_walkItem_177 ?_
                    refine lv_if_ne (tgt := 252) hx hb dX9_walkItem_180 (by decide) (fun c_521 => ?_) (fun c_521 => absurd rfl (i_11 (hc8 (i_484 (i_495 c_521).1).1).1).2.1)
                    exact W.vret hx hb hr (fun t ht hW => ⟨⟨(f2_486, t2_487, v2_488, w2_489, ms, a8, Wn), rfl, ⟨(by first | assumption | omega), (by first | assumption | omega), (by first | assumption | omega), (by first | assumption | omega), (by first | assumption | omega), (fun h => ⟨(i_11 (hc8 (i_484 (i_495 h).1).1).1).1, trivial⟩), hs0, hs1, hs2, hsS, hsM, hsp, hsr, hsw, hsR⟩, by rw [ht]; exact hP.sub [2, 0, 3, 1] rfl, hD.sub [2, 0, 3, 1] (by decide) rfl⟩, hS.F ht⟩) hS.2.2 dX9_walkItem_252 hlk
                · skip
                  refine xc_Vv (wr := [(ys, .inl (cI, 449, .inl ms)), (ywa, .inl (cI, 6, .inl a8))]) hF (c_X9_needs l D cI cJ cZ cS ta sa sv H.size h0 ys yk yo yt mk0 yfa yfe mL mS mM yro yhe ygr mF mC mY yta mz f8 t8 mv w8 ywa ybi ysi ynu ymo tp 0 (by omega) (by omega) (by omega) (by omega) (by omega)) kv_X9_278 ⟨rfl, rfl, Nat.le_of_ble_eq_true rfl, Nat.le_of_ble_eq_true rfl⟩ ⟨Nat.le_of_ble_eq_true rfl, Nat.le_of_ble_eq_true rfl⟩ hK hN hZ hP hD hS hA [2, 3] [0, 1] rfl rfl rfl rfl (by decide) 0 rfl rfl rfl rfl hl.1 rfl (Nat.le_of_ble_eq_true rfl) dX9_walkItem_120 (fun u_r_522 H locs hw_r_522 hP hD hS => ?_)
                  obtain ⟨f2_523, t2_524, w2_525⟩ := u_r_522
                  try dsimp only at hw_r_522
                  obtain ⟨i_526, i_527, i_528, i_529, i_530, i_531⟩ := hw_r_522
                  have hP : va_P D vwCl [(ys, .inl (cI, 449, .inl ms)), (ywa, .inl (cI, 6, .inl a8)), (h0, .inr (9, [.ref ys, .ref yk, .ref yo, .ref yt, .int mk0, .ref yfa, .ref yfe, .int mL, .int mS, .int mM, .ref yro, .ref yhe, .ref ygr, .int mF, .int mC, .int mY, .ref yta, .int (nI (mz)), .int (nI (f2_523)), .int (nI (t2_524)), .int mv, .int w2_525, .ref ywa, .ref ybi, .ref ysi, .ref ynu, .ref ymo])), (yta, .inl (cI, 120, .inl tp))] H := hP
                  have hD : va_D A [(ys, .inl (cI, 449, .inl ms)), (ywa, .inl (cI, 6, .inl a8)), (h0, .inr (9, [.ref ys, .ref yk, .ref yo, .ref yt, .int mk0, .ref yfa, .ref yfe, .int mL, .int mS, .int mM, .ref yro, .ref yhe, .ref ygr, .int mF, .int mC, .int mY, .ref yta, .int (nI (mz)), .int (nI (f2_523)), .int (nI (t2_524)), .int mv, .int w2_525, .ref ywa, .ref ybi, .ref ysi, .ref ynu, .ref ymo])), (yta, .inl (cI, 120, .inl tp))] := hD
                  refine lv_aload_n hx hb dX9_walkItem_123 rfl (lv_at hl 1 rfl) ?_
                  refine lv_sipush (v := (-9999)) hx hb dX9_walkItem_124 (by decide) ?_
                  refine lv_sipush (v := 9999) hx hb dX9_walkItem_127 (by decide) ?_
                  refine xc_Vv (wr := [(ys, .inl (cI, 449, .inl ms)), (ywa, .inl (cI, 6, .inl a8))]) hF (c_X9_mile l D cI cJ cZ cS ta sa sv H.size h0 ys yk yo yt mk0 yfa yfe mL mS mM yro yhe ygr mF mC mY yta mz f2_523 t2_524 mv w2_525 ywa ybi ysi ynu ymo tp (-9999) 9999 (by omega) (by omega) (by omega) (by omega) (by omega)) kv_X9_287 ⟨rfl, rfl, Nat.le_of_ble_eq_true rfl, Nat.le_of_ble_eq_true rfl⟩ ⟨Nat.le_of_ble_eq_true rfl, Nat.le_of_ble_eq_true rfl⟩ hK hN hZ hP hD hS hA [2, 3] [0, 1] rfl rfl rfl rfl (by decide) 0 rfl rfl rfl rfl hl.1 rfl (Nat.le_of_ble_eq_true rfl) dX9_walkItem_130 (fun u_r_532 H locs hw_r_532 hP hD hS => ?_)
                  obtain ⟨f2_533, t2_534, v2_535, w2_536⟩ := u_r_532
                  try dsimp only at hw_r_532
                  obtain ⟨i_537, i_538, i_539, i_540, i_541, i_542⟩ := hw_r_532
                  have hP : va_P D vwCl [(ys, .inl (cI, 449, .inl ms)), (ywa, .inl (cI, 6, .inl a8)), (h0, .inr (9, [.ref ys, .ref yk, .ref yo, .ref yt, .int mk0, .ref yfa, .ref yfe, .int mL, .int mS, .int mM, .ref yro, .ref yhe, .ref ygr, .int mF, .int mC, .int mY, .ref yta, .int (nI (mz)), .int (nI (f2_533)), .int (nI (t2_534)), .int v2_535, .int w2_536, .ref ywa, .ref ybi, .ref ysi, .ref ynu, .ref ymo])), (yta, .inl (cI, 120, .inl tp))] H := hP
                  have hD : va_D A [(ys, .inl (cI, 449, .inl ms)), (ywa, .inl (cI, 6, .inl a8)), (h0, .inr (9, [.ref ys, .ref yk, .ref yo, .ref yt, .int mk0, .ref yfa, .ref yfe, .int mL, .int mS, .int mM, .ref yro, .ref yhe, .ref ygr, .int mF, .int mC, .int mY, .ref yta, .int (nI (mz)), .int (nI (f2_533)), .int (nI (t2_534)), .int v2_535, .int w2_536, .ref ywa, .ref ybi, .ref ysi, .ref ynu, .ref ymo])), (yta, .inl (cI, 120, .inl tp))] := hD
                  refine lv_aload_n hx hb dX9_walkItem_133 rfl (lv_at hl 1 rfl) ?_
                  refine xg hF kf_X9_275 hK hP 2 rfl rfl dX9_walkItem_134 ?_
                  refine lv_istore_n (lv' := [(2, .int v2_535), (1, .int (nI (n8))), (0, .ref h0)]) hx hb dX9_walkItem_137 rfl hl (by decide) rfl (fun ls hl => ?_)
                  refine lv_iconst (v := 0) hx hb dX9_walkItem_138 (by decide) ?_
                  refine lv_istore_n (lv' := [(3, .int 0), (2, .int v2_535), (1, .int (nI (n8))), (0, .ref h0)]) hx hb dX9_walkItem_139 rfl hl (by decide) rfl (fun ls hl => ?_)
                  refine lv_aload_n hx hb dX9_walkItem_140 rfl (lv_at hl 3 rfl) ?_
                  refine lv_bipush (v := 115) hx hb dX9_walkItem_141 (by decide) ?_
                  refine lv_bipush (v := 108) hx hb dX9_walkItem_143 (by decide) ?_
                  refine lv_bipush (v := 97) hx hb dX9_walkItem_145 (by decide) ?_
                  refine lv_bipush (v := 99) hx hb dX9_walkItem_147 (by decide) ?_
                  refine lv_bipush (v := 107) hx hb dX9_walkItem_149 (by decide) ?_
                  refine lv_iconst (v := 0) hx hb dX9_walkItem_151 (by decide) ?_
                  refine lv_iconst (v := 0) hx hb dX9_walkItem_152 (by decide) ?_
                  refine xc_Vr hF (c_X9_isWord l D cI cJ cZ cS ta sa sv H.size h0 ys yk yo yt mk0 yfa yfe mL mS mM yro yhe ygr mF mC mY yta mz f2_533 t2_534 v2_535 w2_536 ywa ybi ysi ynu ymo tp 115 108 97 99 107 0 0 (by omega) (by omega)) kv_X9_290 ⟨rfl, rfl, Nat.le_of_ble_eq_true rfl, Nat.le_of_ble_eq_true rfl⟩ ⟨Nat.le_of_ble_eq_true rfl, Nat.le_of_ble_eq_true rfl⟩ hK hN hZ hP hD hS hA [2, 3] rfl rfl 0 rfl rfl rfl rfl hl.1 rfl (Nat.le_of_ble_eq_true rfl) dX9_walkItem_153 (fun r_543 hw_r_543 => ?_)
                  rcases hw_r_543 with rfl | rfl
                  · skip
                    refine lv_if_eq (tgt := 176) hx hb dX9_walkItem_156 (by decide) (fun c_544 => absurd c_544 (by decide)) (fun c_544 => ?_)
                    refine lv_aload_n hx hb dX9_walkItem_159 rfl (lv_at hl 3 rfl) ?_
                    refine lv_iconst (v := 1) hx hb dX9_walkItem_160 (by decide) ?_
                    refine xc_Vv (wr := [(ys, .inl (cI, 449, .inl ms)), (ywa, .inl (cI, 6, .inl a8))]) hF (c_X9_needs l D cI cJ cZ cS ta sa sv H.size h0 ys yk yo yt mk0 yfa yfe mL mS mM yro yhe ygr mF mC mY yta mz f2_533 t2_534 v2_535 w2_536 ywa ybi ysi ynu ymo tp 1 (by omega) (by omega) (by omega) (by omega) (by omega)) kv_X9_278 ⟨rfl, rfl, Nat.le_of_ble_eq_true rfl, Nat.le_of_ble_eq_true rfl⟩ ⟨Nat.le_of_ble_eq_true rfl, Nat.le_of_ble_eq_true rfl⟩ hK hN hZ hP hD hS hA [2, 3] [0, 1] rfl rfl rfl rfl (by decide) 0 rfl rfl rfl rfl hl.1 rfl (Nat.le_of_ble_eq_true rfl) dX9_walkItem_161 (fun u_r_545 H locs hw_r_545 hP hD hS => ?_)
                    obtain ⟨f2_546, t2_547, w2_548⟩ := u_r_545
                    try dsimp only at hw_r_545
                    obtain ⟨i_549, i_550, i_551, i_552, i_553, i_554⟩ := hw_r_545
                    have hP : va_P D vwCl [(ys, .inl (cI, 449, .inl ms)), (ywa, .inl (cI, 6, .inl a8)), (h0, .inr (9, [.ref ys, .ref yk, .ref yo, .ref yt, .int mk0, .ref yfa, .ref yfe, .int mL, .int mS, .int mM, .ref yro, .ref yhe, .ref ygr, .int mF, .int mC, .int mY, .ref yta, .int (nI (mz)), .int (nI (f2_546)), .int (nI (t2_547)), .int v2_535, .int w2_548, .ref ywa, .ref ybi, .ref ysi, .ref ynu, .ref ymo])), (yta, .inl (cI, 120, .inl tp))] H := hP
                    have hD : va_D A [(ys, .inl (cI, 449, .inl ms)), (ywa, .inl (cI, 6, .inl a8)), (h0, .inr (9, [.ref ys, .ref yk, .ref yo, .ref yt, .int mk0, .ref yfa, .ref yfe, .int mL, .int mS, .int mM, .ref yro, .ref yhe, .ref ygr, .int mF, .int mC, .int mY, .ref yta, .int (nI (mz)), .int (nI (f2_546)), .int (nI (t2_547)), .int v2_535, .int w2_548, .ref ywa, .ref ybi, .ref ysi, .ref ynu, .ref ymo])), (yta, .inl (cI, 120, .inl tp))] := hD
                    refine lv_aload_n hx hb dX9_walkItem_164 rfl (lv_at hl 3 rfl) ?_
                    refine lv_iconst (v := 0) hx hb dX9_walkItem_165 (by decide) ?_
                    refine lv_bipush (v := 99) hx hb dX9_walkItem_166 (by decide) ?_
                    refine xc_Vv (wr := [(ys, .inl (cI, 449, .inl ms)), (ywa, .inl (cI, 6, .inl a8))]) hF (c_X9_number l D cI cJ cZ cS ta sa sv H.size h0 ys yk yo yt mk0 yfa yfe mL mS mM yro yhe ygr mF mC mY yta mz f2_546 t2_547 v2_535 w2_548 ywa ybi ysi ynu ymo tp 0 99 (by omega) (by omega) (by omega) (by omega) (by omega)) kv_X9_282 ⟨rfl, rfl, Nat.le_of_ble_eq_true rfl, Nat.le_of_ble_eq_true rfl⟩ ⟨Nat.le_of_ble_eq_true rfl, Nat.le_of_ble_eq_true rfl⟩ hK hN hZ hP hD hS hA [2, 3] [0, 1] rfl rfl rfl rfl (by decide) 0 rfl rfl rfl rfl hl.1 rfl (Nat.le_of_ble_eq_true rfl) dX9_walkItem_168 (fun u_r_555 H locs hw_r_555 hP hD hS => ?_)
                    obtain ⟨f2_556, t2_557, v2_558, w2_559⟩ := u_r_555
                    try dsimp only at hw_r_555
                    obtain ⟨i_560, i_561, i_562, i_563, i_564, i_565⟩ := hw_r_555
                    have hP : va_P D vwCl [(ys, .inl (cI, 449, .inl ms)), (ywa, .inl (cI, 6, .inl a8)), (h0, .inr (9, [.ref ys, .ref yk, .ref yo, .ref yt, .int mk0, .ref yfa, .ref yfe, .int mL, .int mS, .int mM, .ref yro, .ref yhe, .ref ygr, .int mF, .int mC, .int mY, .ref yta, .int (nI (mz)), .int (nI (f2_556)), .int (nI (t2_557)), .int v2_558, .int w2_559, .ref ywa, .ref ybi, .ref ysi, .ref ynu, .ref ymo])), (yta, .inl (cI, 120, .inl tp))] H := hP
                    have hD : va_D A [(ys, .inl (cI, 449, .inl ms)), (ywa, .inl (cI, 6, .inl a8)), (h0, .inr (9, [.ref ys, .ref yk, .ref yo, .ref yt, .int mk0, .ref yfa, .ref yfe, .int mL, .int mS, .int mM, .ref yro, .ref yhe, .ref ygr, .int mF, .int mC, .int mY, .ref yta, .int (nI (mz)), .int (nI (f2_556)), .int (nI (t2_557)), .int v2_558, .int w2_559, .ref ywa, .ref ybi, .ref ysi, .ref ynu, .ref ymo])), (yta, .inl (cI, 120, .inl tp))] := hD
                    refine lv_aload_n hx hb dX9_walkItem_171 rfl (lv_at hl 3 rfl) ?_
                    refine xg hF kf_X9_275 hK hP 2 rfl rfl dX9_walkItem_172 ?_
                    refine lv_istore_n (lv' := [(3, .int v2_558), (2, .int v2_535), (1, .int (nI (n8))), (0, .ref h0)]) hx hb dX9_walkItem_175 rfl hl (by decide) rfl (fun ls hl => ?_)
                    refine lv_aload_n hx hb dX9_walkItem_176 rfl (lv_at hl 3 rfl) ?_
                    refine xg hF kf_X9_266 hK hP 2 rfl rfl dX9_walkItem_177 ?_
                    refine lv_if_ne (tgt := 252) hx hb dX9_walkItem_180 (by decide) (fun c_566 => ?_) (fun c_566 => absurd rfl (i_531 (i_542 (i_554 (i_565 c_566).1).1).1).2.1)
                    exact W.vret hx hb hr (fun t ht hW => ⟨⟨(f2_556, t2_557, v2_558, w2_559, ms, a8, Wn), rfl, ⟨(by first | assumption | omega), (by first | assumption | omega), (by first | assumption | omega), (by first | assumption | omega), (by first | assumption | omega), (fun h => ⟨(i_11 (hc8 (i_531 (i_542 (i_554 (i_565 h).1).1).1).1).1).1, trivial⟩), hs0, hs1, hs2, hsS, hsM, hsp, hsr, hsw, hsR⟩, by rw [ht]; exact hP.sub [2, 0, 3, 1] rfl, hD.sub [2, 0, 3, 1] (by decide) rfl⟩, hS.F ht⟩) hS.2.2 dX9_walkItem_252 hlk
                  · skip
                    refine lv_if_eq (tgt := 176) hx hb dX9_walkItem_156 (by decide) (fun c_567 => ?_) (fun c_567 => absurd (by decide) c_567)
                    refine lv_aload_n hx hb dX9_walkItem_176 rfl (lv_at hl 3 rfl) ?_
                    refine xg hF kf_X9_266 hK hP 2 rfl rfl dX9_walkItem_177 ?_
                    refine lv_if_ne (tgt := 252) hx hb dX9_walkItem_180 (by decide) (fun c_568 => ?_) (fun c_568 => absurd rfl (i_531 (i_542 c_568).1).2.1)
                    exact W.vret hx hb hr (fun t ht hW => ⟨⟨(f2_533, t2_534, v2_535, w2_536, ms, a8, Wn), rfl, ⟨(by first | assumption | omega), (by first | assumption | omega), (by first | assumption | omega), (by first | assumption | omega), (by first | assumption | omega), (fun h => ⟨(i_11 (hc8 (i_531 (i_542 h).1).1).1).1, trivial⟩), hs0, hs1, hs2, hsS, hsM, hsp, hsr, hsw, hsR⟩, by rw [ht]; exact hP.sub [2, 0, 3, 1] rfl, hD.sub [2, 0, 3, 1] (by decide) rfl⟩, hS.F ht⟩) hS.2.2 dX9_walkItem_252 hlk
  · skip
    have nc_1 : Wn < 8 := xn_nle (a := 8) (b := Wn) (by omega) (by omega) c_1
    refine lv_iconst (v := 1) hx hb dX9_walkItem_12 (by decide) ?_
    refine lv_goto (tgt := 17) hx hb dX9_walkItem_13 (by decide) ?_
    refine xc_Vv (wr := [(ys, .inl (cI, 449, .inl ms)), (ywa, .inl (cI, 6, .inl wa))]) hF (c_X9_needs l D cI cJ cZ cS ta sa sv s.heap.size h0 ys yk yo yt mk0 yfa yfe mL mS mM yro yhe ygr mF mC mY yta mz mf mt mv mw ywa ybi ysi ynu ymo tp 1 (by omega) (by omega) (by omega) (by omega) (by omega)) kv_X9_278 ⟨rfl, rfl, Nat.le_of_ble_eq_true rfl, Nat.le_of_ble_eq_true rfl⟩ ⟨Nat.le_of_ble_eq_true rfl, Nat.le_of_ble_eq_true rfl⟩ hK hN hZ hP hD hS hA [0, 2] [1, 3] rfl rfl rfl rfl (by decide) 0 rfl rfl rfl rfl hl.1 rfl (Nat.le_of_ble_eq_true rfl) dX9_walkItem_17 (fun u_r_569 H locs hw_r_569 hP hD hS => ?_)
    obtain ⟨f2_570, t2_571, w2_572⟩ := u_r_569
    try dsimp only at hw_r_569
    obtain ⟨i_573, i_574, i_575, i_576, i_577, i_578⟩ := hw_r_569
    have hP : va_P D vwCl [(ys, .inl (cI, 449, .inl ms)), (ywa, .inl (cI, 6, .inl wa)), (h0, .inr (9, [.ref ys, .ref yk, .ref yo, .ref yt, .int mk0, .ref yfa, .ref yfe, .int mL, .int mS, .int mM, .ref yro, .ref yhe, .ref ygr, .int mF, .int mC, .int mY, .ref yta, .int (nI (mz)), .int (nI (f2_570)), .int (nI (t2_571)), .int mv, .int w2_572, .ref ywa, .ref ybi, .ref ysi, .ref ynu, .ref ymo])), (yta, .inl (cI, 120, .inl tp))] H := hP
    have hD : va_D A [(ys, .inl (cI, 449, .inl ms)), (ywa, .inl (cI, 6, .inl wa)), (h0, .inr (9, [.ref ys, .ref yk, .ref yo, .ref yt, .int mk0, .ref yfa, .ref yfe, .int mL, .int mS, .int mM, .ref yro, .ref yhe, .ref ygr, .int mF, .int mC, .int mY, .ref yta, .int (nI (mz)), .int (nI (f2_570)), .int (nI (t2_571)), .int mv, .int w2_572, .ref ywa, .ref ybi, .ref ysi, .ref ynu, .ref ymo])), (yta, .inl (cI, 120, .inl tp))] := hD
    refine lv_iconst (v := 0) hx hb dX9_walkItem_20 (by decide) ?_
    refine lv_istore_n (lv' := [(1, .int 0), (0, .ref h0)]) hx hb dX9_walkItem_21 rfl hl (by decide) rfl (fun ls hl => ?_)
    suffices loop_22 : ∀ (n_22 : Nat) (n8 : Nat) (f8 : Nat) (t8 : Nat) (w8 : Int32) (a8 : Nat → Int32) (H : Heap) (locs : List Loc) (ls : Array Slot), 6 - n8 < n_22 → (n8 ≤ 6) → (f8 ≤ mz) → (t8 ≤ mz) → (f8 ≤ t8) → (f8 < t8 ∨ f8 = mz) → (mf ≤ f8) → (w8 = 0 → w2_572 = 0 ∧ True) → (wk_A n8 w8 a8) → va_P D vwCl [(ys, .inl (cI, 449, .inl ms)), (ywa, .inl (cI, 6, .inl a8)), (h0, .inr (9, [.ref ys, .ref yk, .ref yo, .ref yt, .int mk0, .ref yfa, .ref yfe, .int mL, .int mS, .int mM, .ref yro, .ref yhe, .ref ygr, .int mF, .int mC, .int mY, .ref yta, .int (nI (mz)), .int (nI (f8)), .int (nI (t8)), .int mv, .int w8, .ref ywa, .ref ybi, .ref ysi, .ref ynu, .ref ymo])), (yta, .inl (cI, 120, .inl tp))] H → va_D A [(ys, .inl (cI, 449, .inl ms)), (ywa, .inl (cI, 6, .inl a8)), (h0, .inr (9, [.ref ys, .ref yk, .ref yo, .ref yt, .int mk0, .ref yfa, .ref yfe, .int mL, .int mS, .int mM, .ref yro, .ref yhe, .ref ygr, .int mF, .int mC, .int mY, .ref yta, .int (nI (mz)), .int (nI (f8)), .int (nI (t8)), .int mv, .int w8, .ref ywa, .ref ybi, .ref ysi, .ref ynu, .ref ymo])), (yta, .inl (cI, 120, .inl tp))] → va_S A s.heap H locs → lv_has ls 6 [(1, .int (nI (n8))), (0, .ref h0)] → W p l e ({ frames := 6, cells := 0, slots := 0, locals := 136 }) s m ([.ref h0] : List Value).toArray below meth c H locs 0 0 (MQ below (XQv (fun (u : Nat × Nat × Int32 × Int32 × (Nat → Int32) × (Nat → Int32) × Nat) => match u with | (f2, t2, v2, w2, ms2, wa2, W2) => (f2 ≤ mz) ∧ (t2 ≤ mz) ∧ (f2 ≤ t2) ∧ (f2 < t2 ∨ f2 = mz) ∧ (mf ≤ f2) ∧ (w2 = 0 → mw = 0 ∧ True) ∧ (ms2 0 = nI P) ∧ (ms2 1 = nI Rn) ∧ (ms2 2 = nI W2) ∧ (SI ms2) ∧ (MI ms2) ∧ (P ≤ 10) ∧ (Rn ≤ 8) ∧ (W2 ≤ 8) ∧ (RI Rn ms2)) D (fun (u : Nat × Nat × Int32 × Int32 × (Nat → Int32) × (Nat → Int32) × Nat) => match u with | (f2, t2, v2, w2, ms2, wa2, W2) => [(h0, .inr (9, [.ref ys, .ref yk, .ref yo, .ref yt, .int mk0, .ref yfa, .ref yfe, .int mL, .int mS, .int mM, .ref yro, .ref yhe, .ref ygr, .int mF, .int mC, .int mY, .ref yta, .int (nI (mz)), .int (nI (f2)), .int (nI (t2)), .int v2, .int w2, .ref ywa, .ref ybi, .ref ysi, .ref ynu, .ref ymo])), (ys, .inl (cI, 449, .inl ms2)), (yta, .inl (cI, 120, .inl tp)), (ywa, .inl (cI, 6, .inl wa2))]) A) ([.ref h0] : List Value).toArray s 0 0 A) (F0 m 22 ls []) by
      exact loop_22 _ 0 f2_570 t2_571 w2_572 wa _ _ _ (Nat.lt_succ_self _) (by omega) (by omega) (by omega) (by omega) (by omega) (by omega) (fun h => ⟨h, trivial⟩) wk_A.zero hP hD hS (lv_sub hl [0, 1] rfl)
    intro n_22
    induction n_22 with
    | zero =>
      intro n8 f8 t8 w8 a8 H locs ls hm_22
      exact absurd hm_22 (Nat.not_lt_zero _)
    | succ n_22 ih_22 =>
      intro n8 f8 t8 w8 a8 H locs ls hm_22 hn8 hf81 hf82 hf83 hf84 hf85 hc8 hA8 hP hD hS hl
      refine lv_aload_n hx hb dX9_walkItem_22 rfl (lv_at hl 1 rfl) ?_
      refine xg hF kf_X9_266 hK hP 2 rfl rfl dX9_walkItem_23 ?_
      refine lv_if_ne (tgt := 105) hx hb dX9_walkItem_26 (by decide) (fun c_579 => ?_) (fun c_579 => ?_)
      · skip
        refine lv_aload_n hx hb dX9_walkItem_105 rfl (lv_at hl 1 rfl) ?_
        refine lv_aload_n hx hb dX9_walkItem_106 rfl (lv_at hl 1 rfl) ?_
        refine lv_bipush (v := 97) hx hb dX9_walkItem_107 (by decide) ?_
        refine lv_bipush (v := 108) hx hb dX9_walkItem_109 (by decide) ?_
        refine lv_bipush (v := 108) hx hb dX9_walkItem_111 (by decide) ?_
        refine lv_iconst (v := 0) hx hb dX9_walkItem_113 (by decide) ?_
        refine lv_iconst (v := 0) hx hb dX9_walkItem_114 (by decide) ?_
        refine lv_iconst (v := 0) hx hb dX9_walkItem_115 (by decide) ?_
        refine lv_iconst (v := 0) hx hb dX9_walkItem_116 (by decide) ?_
        refine xc_Vr hF (c_X9_isWord l D cI cJ cZ cS ta sa sv H.size h0 ys yk yo yt mk0 yfa yfe mL mS mM yro yhe ygr mF mC mY yta mz f8 t8 mv w8 ywa ybi ysi ynu ymo tp 97 108 108 0 0 0 0 (by omega) (by omega)) kv_X9_290 ⟨rfl, rfl, Nat.le_of_ble_eq_true rfl, Nat.le_of_ble_eq_true rfl⟩ ⟨Nat.le_of_ble_eq_true rfl, Nat.le_of_ble_eq_true rfl⟩ hK hN hZ hP hD hS hA [2, 3] rfl rfl 0 rfl rfl rfl rfl hl.1 rfl (Nat.le_of_ble_eq_true rfl) dX9_walkItem_117 (fun r_580 hw_r_580 => ?_)
        rcases hw_r_580 with rfl | rfl
        · skip
          refine xc_Vv (wr := [(ys, .inl (cI, 449, .inl ms)), (ywa, .inl (cI, 6, .inl a8))]) hF (c_X9_needs l D cI cJ cZ cS ta sa sv H.size h0 ys yk yo yt mk0 yfa yfe mL mS mM yro yhe ygr mF mC mY yta mz f8 t8 mv w8 ywa ybi ysi ynu ymo tp 1 (by omega) (by omega) (by omega) (by omega) (by omega)) kv_X9_278 ⟨rfl, rfl, Nat.le_of_ble_eq_true rfl, Nat.le_of_ble_eq_true rfl⟩ ⟨Nat.le_of_ble_eq_true rfl, Nat.le_of_ble_eq_true rfl⟩ hK hN hZ hP hD hS hA [2, 3] [0, 1] rfl rfl rfl rfl (by decide) 0 rfl rfl rfl rfl hl.1 rfl (Nat.le_of_ble_eq_true rfl) dX9_walkItem_120 (fun u_r_581 H locs hw_r_581 hP hD hS => ?_)
          obtain ⟨f2_582, t2_583, w2_584⟩ := u_r_581
          try dsimp only at hw_r_581
          obtain ⟨i_585, i_586, i_587, i_588, i_589, i_590⟩ := hw_r_581
          have hP : va_P D vwCl [(ys, .inl (cI, 449, .inl ms)), (ywa, .inl (cI, 6, .inl a8)), (h0, .inr (9, [.ref ys, .ref yk, .ref yo, .ref yt, .int mk0, .ref yfa, .ref yfe, .int mL, .int mS, .int mM, .ref yro, .ref yhe, .ref ygr, .int mF, .int mC, .int mY, .ref yta, .int (nI (mz)), .int (nI (f2_582)), .int (nI (t2_583)), .int mv, .int w2_584, .ref ywa, .ref ybi, .ref ysi, .ref ynu, .ref ymo])), (yta, .inl (cI, 120, .inl tp))] H := hP
          have hD : va_D A [(ys, .inl (cI, 449, .inl ms)), (ywa, .inl (cI, 6, .inl a8)), (h0, .inr (9, [.ref ys, .ref yk, .ref yo, .ref yt, .int mk0, .ref yfa, .ref yfe, .int mL, .int mS, .int mM, .ref yro, .ref yhe, .ref ygr, .int mF, .int mC, .int mY, .ref yta, .int (nI (mz)), .int (nI (f2_582)), .int (nI (t2_583)), .int mv, .int w2_584, .ref ywa, .ref ybi, .ref ysi, .ref ynu, .ref ymo])), (yta, .inl (cI, 120, .inl tp))] := hD
          refine lv_aload_n hx hb dX9_walkItem_123 rfl (lv_at hl 1 rfl) ?_
          refine lv_sipush (v := (-9999)) hx hb dX9_walkItem_124 (by decide) ?_
          refine lv_sipush (v := 9999) hx hb dX9_walkItem_127 (by decide) ?_
          refine xc_Vv (wr := [(ys, .inl (cI, 449, .inl ms)), (ywa, .inl (cI, 6, .inl a8))]) hF (c_X9_mile l D cI cJ cZ cS ta sa sv H.size h0 ys yk yo yt mk0 yfa yfe mL mS mM yro yhe ygr mF mC mY yta mz f2_582 t2_583 mv w2_584 ywa ybi ysi ynu ymo tp (-9999) 9999 (by omega) (by omega) (by omega) (by omega) (by omega)) kv_X9_287 ⟨rfl, rfl, Nat.le_of_ble_eq_true rfl, Nat.le_of_ble_eq_true rfl⟩ ⟨Nat.le_of_ble_eq_true rfl, Nat.le_of_ble_eq_true rfl⟩ hK hN hZ hP hD hS hA [2, 3] [0, 1] rfl rfl rfl rfl (by decide) 0 rfl rfl rfl rfl hl.1 rfl (Nat.le_of_ble_eq_true rfl) dX9_walkItem_130 (fun u_r_591 H locs hw_r_591 hP hD hS => ?_)
          obtain ⟨f2_592, t2_593, v2_594, w2_595⟩ := u_r_591
          try dsimp only at hw_r_591
          obtain ⟨i_596, i_597, i_598, i_599, i_600, i_601⟩ := hw_r_591
          have hP : va_P D vwCl [(ys, .inl (cI, 449, .inl ms)), (ywa, .inl (cI, 6, .inl a8)), (h0, .inr (9, [.ref ys, .ref yk, .ref yo, .ref yt, .int mk0, .ref yfa, .ref yfe, .int mL, .int mS, .int mM, .ref yro, .ref yhe, .ref ygr, .int mF, .int mC, .int mY, .ref yta, .int (nI (mz)), .int (nI (f2_592)), .int (nI (t2_593)), .int v2_594, .int w2_595, .ref ywa, .ref ybi, .ref ysi, .ref ynu, .ref ymo])), (yta, .inl (cI, 120, .inl tp))] H := hP
          have hD : va_D A [(ys, .inl (cI, 449, .inl ms)), (ywa, .inl (cI, 6, .inl a8)), (h0, .inr (9, [.ref ys, .ref yk, .ref yo, .ref yt, .int mk0, .ref yfa, .ref yfe, .int mL, .int mS, .int mM, .ref yro, .ref yhe, .ref ygr, .int mF, .int mC, .int mY, .ref yta, .int (nI (mz)), .int (nI (f2_592)), .int (nI (t2_593)), .int v2_594, .int w2_595, .ref ywa, .ref ybi, .ref ysi, .ref ynu, .ref ymo])), (yta, .inl (cI, 120, .inl tp))] := hD
          refine lv_aload_n hx hb dX9_walkItem_133 rfl (lv_at hl 1 rfl) ?_
          refine xg hF kf_X9_275 hK hP 2 rfl rfl dX9_walkItem_134 ?_
          refine lv_istore_n (lv' := [(2, .int v2_594), (1, .int (nI (n8))), (0, .ref h0)]) hx hb dX9_walkItem_137 rfl hl (by decide) rfl (fun ls hl => ?_)
          refine lv_iconst (v := 0) hx hb dX9_walkItem_138 (by decide) ?_
          refine lv_istore_n (lv' := [(3, .int 0), (2, .int v2_594), (1, .int (nI (n8))), (0, .ref h0)]) hx hb dX9_walkItem_139 rfl hl (by decide) rfl (fun ls hl => ?_)
          refine lv_aload_n hx hb dX9_walkItem_140 rfl (lv_at hl 3 rfl) ?_
          refine lv_bipush (v := 115) hx hb dX9_walkItem_141 (by decide) ?_
          refine lv_bipush (v := 108) hx hb dX9_walkItem_143 (by decide) ?_
          refine lv_bipush (v := 97) hx hb dX9_walkItem_145 (by decide) ?_
          refine lv_bipush (v := 99) hx hb dX9_walkItem_147 (by decide) ?_
          refine lv_bipush (v := 107) hx hb dX9_walkItem_149 (by decide) ?_
          refine lv_iconst (v := 0) hx hb dX9_walkItem_151 (by decide) ?_
          refine lv_iconst (v := 0) hx hb dX9_walkItem_152 (by decide) ?_
          refine xc_Vr hF (c_X9_isWord l D cI cJ cZ cS ta sa sv H.size h0 ys yk yo yt mk0 yfa yfe mL mS mM yro yhe ygr mF mC mY yta mz f2_592 t2_593 v2_594 w2_595 ywa ybi ysi ynu ymo tp 115 108 97 99 107 0 0 (by omega) (by omega)) kv_X9_290 ⟨rfl, rfl, Nat.le_of_ble_eq_true rfl, Nat.le_of_ble_eq_true rfl⟩ ⟨Nat.le_of_ble_eq_true rfl, Nat.le_of_ble_eq_true rfl⟩ hK hN hZ hP hD hS hA [2, 3] rfl rfl 0 rfl rfl rfl rfl hl.1 rfl (Nat.le_of_ble_eq_true rfl) dX9_walkItem_153 (fun r_602 hw_r_602 => ?_)
          rcases hw_r_602 with rfl | rfl
          · skip
            refine lv_if_eq (tgt := 176) hx hb dX9_walkItem_156 (by decide) (fun c_603 => absurd c_603 (by decide)) (fun c_603 => ?_)
            refine lv_aload_n hx hb dX9_walkItem_159 rfl (lv_at hl 3 rfl) ?_
            refine lv_iconst (v := 1) hx hb dX9_walkItem_160 (by decide) ?_
            refine xc_Vv (wr := [(ys, .inl (cI, 449, .inl ms)), (ywa, .inl (cI, 6, .inl a8))]) hF (c_X9_needs l D cI cJ cZ cS ta sa sv H.size h0 ys yk yo yt mk0 yfa yfe mL mS mM yro yhe ygr mF mC mY yta mz f2_592 t2_593 v2_594 w2_595 ywa ybi ysi ynu ymo tp 1 (by omega) (by omega) (by omega) (by omega) (by omega)) kv_X9_278 ⟨rfl, rfl, Nat.le_of_ble_eq_true rfl, Nat.le_of_ble_eq_true rfl⟩ ⟨Nat.le_of_ble_eq_true rfl, Nat.le_of_ble_eq_true rfl⟩ hK hN hZ hP hD hS hA [2, 3] [0, 1] rfl rfl rfl rfl (by decide) 0 rfl rfl rfl rfl hl.1 rfl (Nat.le_of_ble_eq_true rfl) dX9_walkItem_161 (fun u_r_604 H locs hw_r_604 hP hD hS => ?_)
            obtain ⟨f2_605, t2_606, w2_607⟩ := u_r_604
            try dsimp only at hw_r_604
            obtain ⟨i_608, i_609, i_610, i_611, i_612, i_613⟩ := hw_r_604
            have hP : va_P D vwCl [(ys, .inl (cI, 449, .inl ms)), (ywa, .inl (cI, 6, .inl a8)), (h0, .inr (9, [.ref ys, .ref yk, .ref yo, .ref yt, .int mk0, .ref yfa, .ref yfe, .int mL, .int mS, .int mM, .ref yro, .ref yhe, .ref ygr, .int mF, .int mC, .int mY, .ref yta, .int (nI (mz)), .int (nI (f2_605)), .int (nI (t2_606)), .int v2_594, .int w2_607, .ref ywa, .ref ybi, .ref ysi, .ref ynu, .ref ymo])), (yta, .inl (cI, 120, .inl tp))] H := hP
            have hD : va_D A [(ys, .inl (cI, 449, .inl ms)), (ywa, .inl (cI, 6, .inl a8)), (h0, .inr (9, [.ref ys, .ref yk, .ref yo, .ref yt, .int mk0, .ref yfa, .ref yfe, .int mL, .int mS, .int mM, .ref yro, .ref yhe, .ref ygr, .int mF, .int mC, .int mY, .ref yta, .int (nI (mz)), .int (nI (f2_605)), .int (nI (t2_606)), .int v2_594, .int w2_607, .ref ywa, .ref ybi, .ref ysi, .ref ynu, .ref ymo])), (yta, .inl (cI, 120, .inl tp))] := hD
            refine lv_aload_n hx hb dX9_walkItem_164 rfl (lv_at hl 3 rfl) ?_
            refine lv_iconst (v := 0) hx hb dX9_walkItem_165 (by decide) ?_
            refine lv_bipush (v := 99) hx hb dX9_walkItem_166 (by decide) ?_
            refine xc_Vv (wr := [(ys, .inl (cI, 449, .inl ms)), (ywa, .inl (cI, 6, .inl a8))]) hF (c_X9_number l D cI cJ cZ cS ta sa sv H.size h0 ys yk yo yt mk0 yfa yfe mL mS mM yro yhe ygr mF mC mY yta mz f2_605 t2_606 v2_594 w2_607 ywa ybi ysi ynu ymo tp 0 99 (by omega) (by omega) (by omega) (by omega) (by omega)) kv_X9_282 ⟨rfl, rfl, Nat.le_of_ble_eq_true rfl, Nat.le_of_ble_eq_true rfl⟩ ⟨Nat.le_of_ble_eq_true rfl, Nat.le_of_ble_eq_true rfl⟩ hK hN hZ hP hD hS hA [2, 3] [0, 1] rfl rfl rfl rfl (by decide) 0 rfl rfl rfl rfl hl.1 rfl (Nat.le_of_ble_eq_true rfl) dX9_walkItem_168 (fun u_r_614 H locs hw_r_614 hP hD hS => ?_)
            obtain ⟨f2_615, t2_616, v2_617, w2_618⟩ := u_r_614
            try dsimp only at hw_r_614
            obtain ⟨i_619, i_620, i_621, i_622, i_623, i_624⟩ := hw_r_614
            have hP : va_P D vwCl [(ys, .inl (cI, 449, .inl ms)), (ywa, .inl (cI, 6, .inl a8)), (h0, .inr (9, [.ref ys, .ref yk, .ref yo, .ref yt, .int mk0, .ref yfa, .ref yfe, .int mL, .int mS, .int mM, .ref yro, .ref yhe, .ref ygr, .int mF, .int mC, .int mY, .ref yta, .int (nI (mz)), .int (nI (f2_615)), .int (nI (t2_616)), .int v2_617, .int w2_618, .ref ywa, .ref ybi, .ref ysi, .ref ynu, .ref ymo])), (yta, .inl (cI, 120, .inl tp))] H := hP
            have hD : va_D A [(ys, .inl (cI, 449, .inl ms)), (ywa, .inl (cI, 6, .inl a8)), (h0, .inr (9, [.ref ys, .ref yk, .ref yo, .ref yt, .int mk0, .ref yfa, .ref yfe, .int mL, .int mS, .int mM, .ref yro, .ref yhe, .ref ygr, .int mF, .int mC, .int mY, .ref yta, .int (nI (mz)), .int (nI (f2_615)), .int (nI (t2_616)), .int v2_617, .int w2_618, .ref ywa, .ref ybi, .ref ysi, .ref ynu, .ref ymo])), (yta, .inl (cI, 120, .inl tp))] := hD
            refine lv_aload_n hx hb dX9_walkItem_171 rfl (lv_at hl 3 rfl) ?_
            refine xg hF kf_X9_275 hK hP 2 rfl rfl dX9_walkItem_172 ?_
            refine lv_istore_n (lv' := [(3, .int v2_617), (2, .int v2_594), (1, .int (nI (n8))), (0, .ref h0)]) hx hb dX9_walkItem_175 rfl hl (by decide) rfl (fun ls hl => ?_)
            refine lv_aload_n hx hb dX9_walkItem_176 rfl (lv_at hl 3 rfl) ?_
            refine xg hF kf_X9_266 hK hP 2 rfl rfl dX9_walkItem_177 ?_
            refine lv_if_ne (tgt := 252) hx hb dX9_walkItem_180 (by decide) (fun c_625 => ?_) (fun c_625 => absurd (i_590 (i_601 (i_613 (i_624 c_625).1).1).1).1 c_579)
            exact W.vret hx hb hr (fun t ht hW => ⟨⟨(f2_615, t2_616, v2_617, w2_618, ms, a8, Wn), rfl, ⟨(by first | assumption | omega), (by first | assumption | omega), (by first | assumption | omega), (by first | assumption | omega), (by first | assumption | omega), (fun h => ⟨(i_578 (hc8 (i_590 (i_601 (i_613 (i_624 h).1).1).1).1).1).1, trivial⟩), hs0, hs1, hs2, hsS, hsM, hsp, hsr, hsw, hsR⟩, by rw [ht]; exact hP.sub [2, 0, 3, 1] rfl, hD.sub [2, 0, 3, 1] (by decide) rfl⟩, hS.F ht⟩) hS.2.2 dX9_walkItem_252 hlk
          · skip
            refine lv_if_eq (tgt := 176) hx hb dX9_walkItem_156 (by decide) (fun c_626 => ?_) (fun c_626 => absurd (by decide) c_626)
            refine lv_aload_n hx hb dX9_walkItem_176 rfl (lv_at hl 3 rfl) ?_
            refine xg hF kf_X9_266 hK hP 2 rfl rfl dX9_walkItem_177 ?_
            refine lv_if_ne (tgt := 252) hx hb dX9_walkItem_180 (by decide) (fun c_627 => ?_) (fun c_627 => absurd (i_590 (i_601 c_627).1).1 c_579)
            exact W.vret hx hb hr (fun t ht hW => ⟨⟨(f2_592, t2_593, v2_594, w2_595, ms, a8, Wn), rfl, ⟨(by first | assumption | omega), (by first | assumption | omega), (by first | assumption | omega), (by first | assumption | omega), (by first | assumption | omega), (fun h => ⟨(i_578 (hc8 (i_590 (i_601 h).1).1).1).1, trivial⟩), hs0, hs1, hs2, hsS, hsM, hsp, hsr, hsw, hsR⟩, by rw [ht]; exact hP.sub [2, 0, 3, 1] rfl, hD.sub [2, 0, 3, 1] (by decide) rfl⟩, hS.F ht⟩) hS.2.2 dX9_walkItem_252 hlk
        · skip
          refine xc_Vv (wr := [(ys, .inl (cI, 449, .inl ms)), (ywa, .inl (cI, 6, .inl a8))]) hF (c_X9_needs l D cI cJ cZ cS ta sa sv H.size h0 ys yk yo yt mk0 yfa yfe mL mS mM yro yhe ygr mF mC mY yta mz f8 t8 mv w8 ywa ybi ysi ynu ymo tp 0 (by omega) (by omega) (by omega) (by omega) (by omega)) kv_X9_278 ⟨rfl, rfl, Nat.le_of_ble_eq_true rfl, Nat.le_of_ble_eq_true rfl⟩ ⟨Nat.le_of_ble_eq_true rfl, Nat.le_of_ble_eq_true rfl⟩ hK hN hZ hP hD hS hA [2, 3] [0, 1] rfl rfl rfl rfl (by decide) 0 rfl rfl rfl rfl hl.1 rfl (Nat.le_of_ble_eq_true rfl) dX9_walkItem_120 (fun u_r_628 H locs hw_r_628 hP hD hS => ?_)
          obtain ⟨f2_629, t2_630, w2_631⟩ := u_r_628
          try dsimp only at hw_r_628
          obtain ⟨i_632, i_633, i_634, i_635, i_636, i_637⟩ := hw_r_628
          have hP : va_P D vwCl [(ys, .inl (cI, 449, .inl ms)), (ywa, .inl (cI, 6, .inl a8)), (h0, .inr (9, [.ref ys, .ref yk, .ref yo, .ref yt, .int mk0, .ref yfa, .ref yfe, .int mL, .int mS, .int mM, .ref yro, .ref yhe, .ref ygr, .int mF, .int mC, .int mY, .ref yta, .int (nI (mz)), .int (nI (f2_629)), .int (nI (t2_630)), .int mv, .int w2_631, .ref ywa, .ref ybi, .ref ysi, .ref ynu, .ref ymo])), (yta, .inl (cI, 120, .inl tp))] H := hP
          have hD : va_D A [(ys, .inl (cI, 449, .inl ms)), (ywa, .inl (cI, 6, .inl a8)), (h0, .inr (9, [.ref ys, .ref yk, .ref yo, .ref yt, .int mk0, .ref yfa, .ref yfe, .int mL, .int mS, .int mM, .ref yro, .ref yhe, .ref ygr, .int mF, .int mC, .int mY, .ref yta, .int (nI (mz)), .int (nI (f2_629)), .int (nI (t2_630)), .int mv, .int w2_631, .ref ywa, .ref ybi, .ref ysi, .ref ynu, .ref ymo])), (yta, .inl (cI, 120, .inl tp))] := hD
          refine lv_aload_n hx hb dX9_walkItem_123 rfl (lv_at hl 1 rfl) ?_
          refine lv_sipush (v := (-9999)) hx hb dX9_walkItem_124 (by decide) ?_
          refine lv_sipush (v := 9999) hx hb dX9_walkItem_127 (by decide) ?_
          refine xc_Vv (wr := [(ys, .inl (cI, 449, .inl ms)), (ywa, .inl (cI, 6, .inl a8))]) hF (c_X9_mile l D cI cJ cZ cS ta sa sv H.size h0 ys yk yo yt mk0 yfa yfe mL mS mM yro yhe ygr mF mC mY yta mz f2_629 t2_630 mv w2_631 ywa ybi ysi ynu ymo tp (-9999) 9999 (by omega) (by omega) (by omega) (by omega) (by omega)) kv_X9_287 ⟨rfl, rfl, Nat.le_of_ble_eq_true rfl, Nat.le_of_ble_eq_true rfl⟩ ⟨Nat.le_of_ble_eq_true rfl, Nat.le_of_ble_eq_true rfl⟩ hK hN hZ hP hD hS hA [2, 3] [0, 1] rfl rfl rfl rfl (by decide) 0 rfl rfl rfl rfl hl.1 rfl (Nat.le_of_ble_eq_true rfl) dX9_walkItem_130 (fun u_r_638 H locs hw_r_638 hP hD hS => ?_)
          obtain ⟨f2_639, t2_640, v2_641, w2_642⟩ := u_r_638
          try dsimp only at hw_r_638
          obtain ⟨i_643, i_644, i_645, i_646, i_647, i_648⟩ := hw_r_638
          have hP : va_P D vwCl [(ys, .inl (cI, 449, .inl ms)), (ywa, .inl (cI, 6, .inl a8)), (h0, .inr (9, [.ref ys, .ref yk, .ref yo, .ref yt, .int mk0, .ref yfa, .ref yfe, .int mL, .int mS, .int mM, .ref yro, .ref yhe, .ref ygr, .int mF, .int mC, .int mY, .ref yta, .int (nI (mz)), .int (nI (f2_639)), .int (nI (t2_640)), .int v2_641, .int w2_642, .ref ywa, .ref ybi, .ref ysi, .ref ynu, .ref ymo])), (yta, .inl (cI, 120, .inl tp))] H := hP
          have hD : va_D A [(ys, .inl (cI, 449, .inl ms)), (ywa, .inl (cI, 6, .inl a8)), (h0, .inr (9, [.ref ys, .ref yk, .ref yo, .ref yt, .int mk0, .ref yfa, .ref yfe, .int mL, .int mS, .int mM, .ref yro, .ref yhe, .ref ygr, .int mF, .int mC, .int mY, .ref yta, .int (nI (mz)), .int (nI (f2_639)), .int (nI (t2_640)), .int v2_641, .int w2_642, .ref ywa, .ref ybi, .ref ysi, .ref ynu, .ref ymo])), (yta, .inl (cI, 120, .inl tp))] := hD
          refine lv_aload_n hx hb dX9_walkItem_133 rfl (lv_at hl 1 rfl) ?_
          refine xg hF kf_X9_275 hK hP 2 rfl rfl dX9_walkItem_134 ?_
          refine lv_istore_n (lv' := [(2, .int v2_641), (1, .int (nI (n8))), (0, .ref h0)]) hx hb dX9_walkItem_137 rfl hl (by decide) rfl (fun ls hl => ?_)
          refine lv_iconst (v := 0) hx hb dX9_walkItem_138 (by decide) ?_
          refine lv_istore_n (lv' := [(3, .int 0), (2, .int v2_641), (1, .int (nI (n8))), (0, .ref h0)]) hx hb dX9_walkItem_139 rfl hl (by decide) rfl (fun ls hl => ?_)
          refine lv_aload_n hx hb dX9_walkItem_140 rfl (lv_at hl 3 rfl) ?_
          refine lv_bipush (v := 115) hx hb dX9_walkItem_141 (by decide) ?_
          refine lv_bipush (v := 108) hx hb dX9_walkItem_143 (by decide) ?_
          refine lv_bipush (v := 97) hx hb dX9_walkItem_145 (by decide) ?_
          refine lv_bipush (v := 99) hx hb dX9_walkItem_147 (by decide) ?_
          refine lv_bipush (v := 107) hx hb dX9_walkItem_149 (by decide) ?_
          refine lv_iconst (v := 0) hx hb dX9_walkItem_151 (by decide) ?_
          refine lv_iconst (v := 0) hx hb dX9_walkItem_152 (by decide) ?_
          refine xc_Vr hF (c_X9_isWord l D cI cJ cZ cS ta sa sv H.size h0 ys yk yo yt mk0 yfa yfe mL mS mM yro yhe ygr mF mC mY yta mz f2_639 t2_640 v2_641 w2_642 ywa ybi ysi ynu ymo tp 115 108 97 99 107 0 0 (by omega) (by omega)) kv_X9_290 ⟨rfl, rfl, Nat.le_of_ble_eq_true rfl, Nat.le_of_ble_eq_true rfl⟩ ⟨Nat.le_of_ble_eq_true rfl, Nat.le_of_ble_eq_true rfl⟩ hK hN hZ hP hD hS hA [2, 3] rfl rfl 0 rfl rfl rfl rfl hl.1 rfl (Nat.le_of_ble_eq_true rfl) dX9_walkItem_153 (fun r_649 hw_r_649 => ?_)
          rcases hw_r_649 with rfl | rfl
          · skip
            refine lv_if_eq (tgt := 176) hx hb dX9_walkItem_156 (by decide) (fun c_650 => absurd c_650 (by decide)) (fun c_650 => ?_)
            refine lv_aload_n hx hb dX9_walkItem_159 rfl (lv_at hl 3 rfl) ?_
            refine lv_iconst (v := 1) hx hb dX9_walkItem_160 (by decide) ?_
            refine xc_Vv (wr := [(ys, .inl (cI, 449, .inl ms)), (ywa, .inl (cI, 6, .inl a8))]) hF (c_X9_needs l D cI cJ cZ cS ta sa sv H.size h0 ys yk yo yt mk0 yfa yfe mL mS mM yro yhe ygr mF mC mY yta mz f2_639 t2_640 v2_641 w2_642 ywa ybi ysi ynu ymo tp 1 (by omega) (by omega) (by omega) (by omega) (by omega)) kv_X9_278 ⟨rfl, rfl, Nat.le_of_ble_eq_true rfl, Nat.le_of_ble_eq_true rfl⟩ ⟨Nat.le_of_ble_eq_true rfl, Nat.le_of_ble_eq_true rfl⟩ hK hN hZ hP hD hS hA [2, 3] [0, 1] rfl rfl rfl rfl (by decide) 0 rfl rfl rfl rfl hl.1 rfl (Nat.le_of_ble_eq_true rfl) dX9_walkItem_161 (fun u_r_651 H locs hw_r_651 hP hD hS => ?_)
            obtain ⟨f2_652, t2_653, w2_654⟩ := u_r_651
            try dsimp only at hw_r_651
            obtain ⟨i_655, i_656, i_657, i_658, i_659, i_660⟩ := hw_r_651
            have hP : va_P D vwCl [(ys, .inl (cI, 449, .inl ms)), (ywa, .inl (cI, 6, .inl a8)), (h0, .inr (9, [.ref ys, .ref yk, .ref yo, .ref yt, .int mk0, .ref yfa, .ref yfe, .int mL, .int mS, .int mM, .ref yro, .ref yhe, .ref ygr, .int mF, .int mC, .int mY, .ref yta, .int (nI (mz)), .int (nI (f2_652)), .int (nI (t2_653)), .int v2_641, .int w2_654, .ref ywa, .ref ybi, .ref ysi, .ref ynu, .ref ymo])), (yta, .inl (cI, 120, .inl tp))] H := hP
            have hD : va_D A [(ys, .inl (cI, 449, .inl ms)), (ywa, .inl (cI, 6, .inl a8)), (h0, .inr (9, [.ref ys, .ref yk, .ref yo, .ref yt, .int mk0, .ref yfa, .ref yfe, .int mL, .int mS, .int mM, .ref yro, .ref yhe, .ref ygr, .int mF, .int mC, .int mY, .ref yta, .int (nI (mz)), .int (nI (f2_652)), .int (nI (t2_653)), .int v2_641, .int w2_654, .ref ywa, .ref ybi, .ref ysi, .ref ynu, .ref ymo])), (yta, .inl (cI, 120, .inl tp))] := hD
            refine lv_aload_n hx hb dX9_walkItem_164 rfl (lv_at hl 3 rfl) ?_
            refine lv_iconst (v := 0) hx hb dX9_walkItem_165 (by decide) ?_
            refine lv_bipush (v := 99) hx hb dX9_walkItem_166 (by decide) ?_
            refine xc_Vv (wr := [(ys, .inl (cI, 449, .inl ms)), (ywa, .inl (cI, 6, .inl a8))]) hF (c_X9_number l D cI cJ cZ cS ta sa sv H.size h0 ys yk yo yt mk0 yfa yfe mL mS mM yro yhe ygr mF mC mY yta mz f2_652 t2_653 v2_641 w2_654 ywa ybi ysi ynu ymo tp 0 99 (by omega) (by omega) (by omega) (by omega) (by omega)) kv_X9_282 ⟨rfl, rfl, Nat.le_of_ble_eq_true rfl, Nat.le_of_ble_eq_true rfl⟩ ⟨Nat.le_of_ble_eq_true rfl, Nat.le_of_ble_eq_true rfl⟩ hK hN hZ hP hD hS hA [2, 3] [0, 1] rfl rfl rfl rfl (by decide) 0 rfl rfl rfl rfl hl.1 rfl (Nat.le_of_ble_eq_true rfl) dX9_walkItem_168 (fun u_r_661 H locs hw_r_661 hP hD hS => ?_)
            obtain ⟨f2_662, t2_663, v2_664, w2_665⟩ := u_r_661
            try dsimp only at hw_r_661
            obtain ⟨i_666, i_667, i_668, i_669, i_670, i_671⟩ := hw_r_661
            have hP : va_P D vwCl [(ys, .inl (cI, 449, .inl ms)), (ywa, .inl (cI, 6, .inl a8)), (h0, .inr (9, [.ref ys, .ref yk, .ref yo, .ref yt, .int mk0, .ref yfa, .ref yfe, .int mL, .int mS, .int mM, .ref yro, .ref yhe, .ref ygr, .int mF, .int mC, .int mY, .ref yta, .int (nI (mz)), .int (nI (f2_662)), .int (nI (t2_663)), .int v2_664, .int w2_665, .ref ywa, .ref ybi, .ref ysi, .ref ynu, .ref ymo])), (yta, .inl (cI, 120, .inl tp))] H := hP
            have hD : va_D A [(ys, .inl (cI, 449, .inl ms)), (ywa, .inl (cI, 6, .inl a8)), (h0, .inr (9, [.ref ys, .ref yk, .ref yo, .ref yt, .int mk0, .ref yfa, .ref yfe, .int mL, .int mS, .int mM, .ref yro, .ref yhe, .ref ygr, .int mF, .int mC, .int mY, .ref yta, .int (nI (mz)), .int (nI (f2_662)), .int (nI (t2_663)), .int v2_664, .int w2_665, .ref ywa, .ref ybi, .ref ysi, .ref ynu, .ref ymo])), (yta, .inl (cI, 120, .inl tp))] := hD
            refine lv_aload_n hx hb dX9_walkItem_171 rfl (lv_at hl 3 rfl) ?_
            refine xg hF kf_X9_275 hK hP 2 rfl rfl dX9_walkItem_172 ?_
            refine lv_istore_n (lv' := [(3, .int v2_664), (2, .int v2_641), (1, .int (nI (n8))), (0, .ref h0)]) hx hb dX9_walkItem_175 rfl hl (by decide) rfl (fun ls hl => ?_)
            refine lv_aload_n hx hb dX9_walkItem_176 rfl (lv_at hl 3 rfl) ?_
            refine xg hF kf_X9_266 hK hP 2 rfl rfl dX9_walkItem_177 ?_
            refine lv_if_ne (tgt := 252) hx hb dX9_walkItem_180 (by decide) (fun c_672 => ?_) (fun c_672 => absurd rfl (i_637 (i_648 (i_660 (i_671 c_672).1).1).1).2.1)
            exact W.vret hx hb hr (fun t ht hW => ⟨⟨(f2_662, t2_663, v2_664, w2_665, ms, a8, Wn), rfl, ⟨(by first | assumption | omega), (by first | assumption | omega), (by first | assumption | omega), (by first | assumption | omega), (by first | assumption | omega), (fun h => ⟨(i_578 (hc8 (i_637 (i_648 (i_660 (i_671 h).1).1).1).1).1).1, trivial⟩), hs0, hs1, hs2, hsS, hsM, hsp, hsr, hsw, hsR⟩, by rw [ht]; exact hP.sub [2, 0, 3, 1] rfl, hD.sub [2, 0, 3, 1] (by decide) rfl⟩, hS.F ht⟩) hS.2.2 dX9_walkItem_252 hlk
          · skip
            refine lv_if_eq (tgt := 176) hx hb dX9_walkItem_156 (by decide) (fun c_673 => ?_) (fun c_673 => absurd (by decide) c_673)
            refine lv_aload_n hx hb dX9_walkItem_176 rfl (lv_at hl 3 rfl) ?_
            refine xg hF kf_X9_266 hK hP 2 rfl rfl dX9_walkItem_177 ?_
            refine lv_if_ne (tgt := 252) hx hb dX9_walkItem_180 (by decide) (fun c_674 => ?_) (fun c_674 => absurd rfl (i_637 (i_648 c_674).1).2.1)
            exact W.vret hx hb hr (fun t ht hW => ⟨⟨(f2_639, t2_640, v2_641, w2_642, ms, a8, Wn), rfl, ⟨(by first | assumption | omega), (by first | assumption | omega), (by first | assumption | omega), (by first | assumption | omega), (by first | assumption | omega), (fun h => ⟨(i_578 (hc8 (i_637 (i_648 h).1).1).1).1, trivial⟩), hs0, hs1, hs2, hsS, hsM, hsp, hsr, hsw, hsR⟩, by rw [ht]; exact hP.sub [2, 0, 3, 1] rfl, hD.sub [2, 0, 3, 1] (by decide) rfl⟩, hS.F ht⟩) hS.2.2 dX9_walkItem_252 hlk
      · skip
        refine lv_iload_n hx hb dX9_walkItem_29 rfl (lv_at hl 0 rfl) ?_
        refine lv_bipush (v := 6) hx hb dX9_walkItem_30 (by decide) ?_
        refine lv_icmp_ge (tgt := 105) hx hb dX9_walkItem_32 (by decide) (fun c_675 => ?_) (fun c_675 => ?_)
        · skip
          have nc_675 : 6 ≤ n8 := xn_le (a := 6) (b := n8) (by omega) (by omega) c_675
          refine lv_aload_n hx hb dX9_walkItem_105 rfl (lv_at hl 1 rfl) ?_
          refine lv_aload_n hx hb dX9_walkItem_106 rfl (lv_at hl 1 rfl) ?_
          refine lv_bipush (v := 97) hx hb dX9_walkItem_107 (by decide) ?_
          refine lv_bipush (v := 108) hx hb dX9_walkItem_109 (by decide) ?_
          refine lv_bipush (v := 108) hx hb dX9_walkItem_111 (by decide) ?_
          refine lv_iconst (v := 0) hx hb dX9_walkItem_113 (by decide) ?_
          refine lv_iconst (v := 0) hx hb dX9_walkItem_114 (by decide) ?_
          refine lv_iconst (v := 0) hx hb dX9_walkItem_115 (by decide) ?_
          refine lv_iconst (v := 0) hx hb dX9_walkItem_116 (by decide) ?_
          refine xc_Vr hF (c_X9_isWord l D cI cJ cZ cS ta sa sv H.size h0 ys yk yo yt mk0 yfa yfe mL mS mM yro yhe ygr mF mC mY yta mz f8 t8 mv w8 ywa ybi ysi ynu ymo tp 97 108 108 0 0 0 0 (by omega) (by omega)) kv_X9_290 ⟨rfl, rfl, Nat.le_of_ble_eq_true rfl, Nat.le_of_ble_eq_true rfl⟩ ⟨Nat.le_of_ble_eq_true rfl, Nat.le_of_ble_eq_true rfl⟩ hK hN hZ hP hD hS hA [2, 3] rfl rfl 0 rfl rfl rfl rfl hl.1 rfl (Nat.le_of_ble_eq_true rfl) dX9_walkItem_117 (fun r_676 hw_r_676 => ?_)
          rcases hw_r_676 with rfl | rfl
          · skip
            refine xc_Vv (wr := [(ys, .inl (cI, 449, .inl ms)), (ywa, .inl (cI, 6, .inl a8))]) hF (c_X9_needs l D cI cJ cZ cS ta sa sv H.size h0 ys yk yo yt mk0 yfa yfe mL mS mM yro yhe ygr mF mC mY yta mz f8 t8 mv w8 ywa ybi ysi ynu ymo tp 1 (by omega) (by omega) (by omega) (by omega) (by omega)) kv_X9_278 ⟨rfl, rfl, Nat.le_of_ble_eq_true rfl, Nat.le_of_ble_eq_true rfl⟩ ⟨Nat.le_of_ble_eq_true rfl, Nat.le_of_ble_eq_true rfl⟩ hK hN hZ hP hD hS hA [2, 3] [0, 1] rfl rfl rfl rfl (by decide) 0 rfl rfl rfl rfl hl.1 rfl (Nat.le_of_ble_eq_true rfl) dX9_walkItem_120 (fun u_r_677 H locs hw_r_677 hP hD hS => ?_)
            obtain ⟨f2_678, t2_679, w2_680⟩ := u_r_677
            try dsimp only at hw_r_677
            obtain ⟨i_681, i_682, i_683, i_684, i_685, i_686⟩ := hw_r_677
            have hP : va_P D vwCl [(ys, .inl (cI, 449, .inl ms)), (ywa, .inl (cI, 6, .inl a8)), (h0, .inr (9, [.ref ys, .ref yk, .ref yo, .ref yt, .int mk0, .ref yfa, .ref yfe, .int mL, .int mS, .int mM, .ref yro, .ref yhe, .ref ygr, .int mF, .int mC, .int mY, .ref yta, .int (nI (mz)), .int (nI (f2_678)), .int (nI (t2_679)), .int mv, .int w2_680, .ref ywa, .ref ybi, .ref ysi, .ref ynu, .ref ymo])), (yta, .inl (cI, 120, .inl tp))] H := hP
            have hD : va_D A [(ys, .inl (cI, 449, .inl ms)), (ywa, .inl (cI, 6, .inl a8)), (h0, .inr (9, [.ref ys, .ref yk, .ref yo, .ref yt, .int mk0, .ref yfa, .ref yfe, .int mL, .int mS, .int mM, .ref yro, .ref yhe, .ref ygr, .int mF, .int mC, .int mY, .ref yta, .int (nI (mz)), .int (nI (f2_678)), .int (nI (t2_679)), .int mv, .int w2_680, .ref ywa, .ref ybi, .ref ysi, .ref ynu, .ref ymo])), (yta, .inl (cI, 120, .inl tp))] := hD
            refine lv_aload_n hx hb dX9_walkItem_123 rfl (lv_at hl 1 rfl) ?_
            refine lv_sipush (v := (-9999)) hx hb dX9_walkItem_124 (by decide) ?_
            refine lv_sipush (v := 9999) hx hb dX9_walkItem_127 (by decide) ?_
            refine xc_Vv (wr := [(ys, .inl (cI, 449, .inl ms)), (ywa, .inl (cI, 6, .inl a8))]) hF (c_X9_mile l D cI cJ cZ cS ta sa sv H.size h0 ys yk yo yt mk0 yfa yfe mL mS mM yro yhe ygr mF mC mY yta mz f2_678 t2_679 mv w2_680 ywa ybi ysi ynu ymo tp (-9999) 9999 (by omega) (by omega) (by omega) (by omega) (by omega)) kv_X9_287 ⟨rfl, rfl, Nat.le_of_ble_eq_true rfl, Nat.le_of_ble_eq_true rfl⟩ ⟨Nat.le_of_ble_eq_true rfl, Nat.le_of_ble_eq_true rfl⟩ hK hN hZ hP hD hS hA [2, 3] [0, 1] rfl rfl rfl rfl (by decide) 0 rfl rfl rfl rfl hl.1 rfl (Nat.le_of_ble_eq_true rfl) dX9_walkItem_130 (fun u_r_687 H locs hw_r_687 hP hD hS => ?_)
            obtain ⟨f2_688, t2_689, v2_690, w2_691⟩ := u_r_687
            try dsimp only at hw_r_687
            obtain ⟨i_692, i_693, i_694, i_695, i_696, i_697⟩ := hw_r_687
            have hP : va_P D vwCl [(ys, .inl (cI, 449, .inl ms)), (ywa, .inl (cI, 6, .inl a8)), (h0, .inr (9, [.ref ys, .ref yk, .ref yo, .ref yt, .int mk0, .ref yfa, .ref yfe, .int mL, .int mS, .int mM, .ref yro, .ref yhe, .ref ygr, .int mF, .int mC, .int mY, .ref yta, .int (nI (mz)), .int (nI (f2_688)), .int (nI (t2_689)), .int v2_690, .int w2_691, .ref ywa, .ref ybi, .ref ysi, .ref ynu, .ref ymo])), (yta, .inl (cI, 120, .inl tp))] H := hP
            have hD : va_D A [(ys, .inl (cI, 449, .inl ms)), (ywa, .inl (cI, 6, .inl a8)), (h0, .inr (9, [.ref ys, .ref yk, .ref yo, .ref yt, .int mk0, .ref yfa, .ref yfe, .int mL, .int mS, .int mM, .ref yro, .ref yhe, .ref ygr, .int mF, .int mC, .int mY, .ref yta, .int (nI (mz)), .int (nI (f2_688)), .int (nI (t2_689)), .int v2_690, .int w2_691, .ref ywa, .ref ybi, .ref ysi, .ref ynu, .ref ymo])), (yta, .inl (cI, 120, .inl tp))] := hD
            refine lv_aload_n hx hb dX9_walkItem_133 rfl (lv_at hl 1 rfl) ?_
            refine xg hF kf_X9_275 hK hP 2 rfl rfl dX9_walkItem_134 ?_
            refine lv_istore_n (lv' := [(2, .int v2_690), (1, .int (nI (n8))), (0, .ref h0)]) hx hb dX9_walkItem_137 rfl hl (by decide) rfl (fun ls hl => ?_)
            refine lv_iconst (v := 0) hx hb dX9_walkItem_138 (by decide) ?_
            refine lv_istore_n (lv' := [(3, .int 0), (2, .int v2_690), (1, .int (nI (n8))), (0, .ref h0)]) hx hb dX9_walkItem_139 rfl hl (by decide) rfl (fun ls hl => ?_)
            refine lv_aload_n hx hb dX9_walkItem_140 rfl (lv_at hl 3 rfl) ?_
            refine lv_bipush (v := 115) hx hb dX9_walkItem_141 (by decide) ?_
            refine lv_bipush (v := 108) hx hb dX9_walkItem_143 (by decide) ?_
            refine lv_bipush (v := 97) hx hb dX9_walkItem_145 (by decide) ?_
            refine lv_bipush (v := 99) hx hb dX9_walkItem_147 (by decide) ?_
            refine lv_bipush (v := 107) hx hb dX9_walkItem_149 (by decide) ?_
            refine lv_iconst (v := 0) hx hb dX9_walkItem_151 (by decide) ?_
            refine lv_iconst (v := 0) hx hb dX9_walkItem_152 (by decide) ?_
            refine xc_Vr hF (c_X9_isWord l D cI cJ cZ cS ta sa sv H.size h0 ys yk yo yt mk0 yfa yfe mL mS mM yro yhe ygr mF mC mY yta mz f2_688 t2_689 v2_690 w2_691 ywa ybi ysi ynu ymo tp 115 108 97 99 107 0 0 (by omega) (by omega)) kv_X9_290 ⟨rfl, rfl, Nat.le_of_ble_eq_true rfl, Nat.le_of_ble_eq_true rfl⟩ ⟨Nat.le_of_ble_eq_true rfl, Nat.le_of_ble_eq_true rfl⟩ hK hN hZ hP hD hS hA [2, 3] rfl rfl 0 rfl rfl rfl rfl hl.1 rfl (Nat.le_of_ble_eq_true rfl) dX9_walkItem_153 (fun r_698 hw_r_698 => ?_)
            rcases hw_r_698 with rfl | rfl
            · skip
              refine lv_if_eq (tgt := 176) hx hb dX9_walkItem_156 (by decide) (fun c_699 => absurd c_699 (by decide)) (fun c_699 => ?_)
              refine lv_aload_n hx hb dX9_walkItem_159 rfl (lv_at hl 3 rfl) ?_
              refine lv_iconst (v := 1) hx hb dX9_walkItem_160 (by decide) ?_
              refine xc_Vv (wr := [(ys, .inl (cI, 449, .inl ms)), (ywa, .inl (cI, 6, .inl a8))]) hF (c_X9_needs l D cI cJ cZ cS ta sa sv H.size h0 ys yk yo yt mk0 yfa yfe mL mS mM yro yhe ygr mF mC mY yta mz f2_688 t2_689 v2_690 w2_691 ywa ybi ysi ynu ymo tp 1 (by omega) (by omega) (by omega) (by omega) (by omega)) kv_X9_278 ⟨rfl, rfl, Nat.le_of_ble_eq_true rfl, Nat.le_of_ble_eq_true rfl⟩ ⟨Nat.le_of_ble_eq_true rfl, Nat.le_of_ble_eq_true rfl⟩ hK hN hZ hP hD hS hA [2, 3] [0, 1] rfl rfl rfl rfl (by decide) 0 rfl rfl rfl rfl hl.1 rfl (Nat.le_of_ble_eq_true rfl) dX9_walkItem_161 (fun u_r_700 H locs hw_r_700 hP hD hS => ?_)
              obtain ⟨f2_701, t2_702, w2_703⟩ := u_r_700
              try dsimp only at hw_r_700
              obtain ⟨i_704, i_705, i_706, i_707, i_708, i_709⟩ := hw_r_700
              have hP : va_P D vwCl [(ys, .inl (cI, 449, .inl ms)), (ywa, .inl (cI, 6, .inl a8)), (h0, .inr (9, [.ref ys, .ref yk, .ref yo, .ref yt, .int mk0, .ref yfa, .ref yfe, .int mL, .int mS, .int mM, .ref yro, .ref yhe, .ref ygr, .int mF, .int mC, .int mY, .ref yta, .int (nI (mz)), .int (nI (f2_701)), .int (nI (t2_702)), .int v2_690, .int w2_703, .ref ywa, .ref ybi, .ref ysi, .ref ynu, .ref ymo])), (yta, .inl (cI, 120, .inl tp))] H := hP
              have hD : va_D A [(ys, .inl (cI, 449, .inl ms)), (ywa, .inl (cI, 6, .inl a8)), (h0, .inr (9, [.ref ys, .ref yk, .ref yo, .ref yt, .int mk0, .ref yfa, .ref yfe, .int mL, .int mS, .int mM, .ref yro, .ref yhe, .ref ygr, .int mF, .int mC, .int mY, .ref yta, .int (nI (mz)), .int (nI (f2_701)), .int (nI (t2_702)), .int v2_690, .int w2_703, .ref ywa, .ref ybi, .ref ysi, .ref ynu, .ref ymo])), (yta, .inl (cI, 120, .inl tp))] := hD
              refine lv_aload_n hx hb dX9_walkItem_164 rfl (lv_at hl 3 rfl) ?_
              refine lv_iconst (v := 0) hx hb dX9_walkItem_165 (by decide) ?_
              refine lv_bipush (v := 99) hx hb dX9_walkItem_166 (by decide) ?_
              refine xc_Vv (wr := [(ys, .inl (cI, 449, .inl ms)), (ywa, .inl (cI, 6, .inl a8))]) hF (c_X9_number l D cI cJ cZ cS ta sa sv H.size h0 ys yk yo yt mk0 yfa yfe mL mS mM yro yhe ygr mF mC mY yta mz f2_701 t2_702 v2_690 w2_703 ywa ybi ysi ynu ymo tp 0 99 (by omega) (by omega) (by omega) (by omega) (by omega)) kv_X9_282 ⟨rfl, rfl, Nat.le_of_ble_eq_true rfl, Nat.le_of_ble_eq_true rfl⟩ ⟨Nat.le_of_ble_eq_true rfl, Nat.le_of_ble_eq_true rfl⟩ hK hN hZ hP hD hS hA [2, 3] [0, 1] rfl rfl rfl rfl (by decide) 0 rfl rfl rfl rfl hl.1 rfl (Nat.le_of_ble_eq_true rfl) dX9_walkItem_168 (fun u_r_710 H locs hw_r_710 hP hD hS => ?_)
              obtain ⟨f2_711, t2_712, v2_713, w2_714⟩ := u_r_710
              try dsimp only at hw_r_710
              obtain ⟨i_715, i_716, i_717, i_718, i_719, i_720⟩ := hw_r_710
              have hP : va_P D vwCl [(ys, .inl (cI, 449, .inl ms)), (ywa, .inl (cI, 6, .inl a8)), (h0, .inr (9, [.ref ys, .ref yk, .ref yo, .ref yt, .int mk0, .ref yfa, .ref yfe, .int mL, .int mS, .int mM, .ref yro, .ref yhe, .ref ygr, .int mF, .int mC, .int mY, .ref yta, .int (nI (mz)), .int (nI (f2_711)), .int (nI (t2_712)), .int v2_713, .int w2_714, .ref ywa, .ref ybi, .ref ysi, .ref ynu, .ref ymo])), (yta, .inl (cI, 120, .inl tp))] H := hP
              have hD : va_D A [(ys, .inl (cI, 449, .inl ms)), (ywa, .inl (cI, 6, .inl a8)), (h0, .inr (9, [.ref ys, .ref yk, .ref yo, .ref yt, .int mk0, .ref yfa, .ref yfe, .int mL, .int mS, .int mM, .ref yro, .ref yhe, .ref ygr, .int mF, .int mC, .int mY, .ref yta, .int (nI (mz)), .int (nI (f2_711)), .int (nI (t2_712)), .int v2_713, .int w2_714, .ref ywa, .ref ybi, .ref ysi, .ref ynu, .ref ymo])), (yta, .inl (cI, 120, .inl tp))] := hD
              refine lv_aload_n hx hb dX9_walkItem_171 rfl (lv_at hl 3 rfl) ?_
              refine xg hF kf_X9_275 hK hP 2 rfl rfl dX9_walkItem_172 ?_
              refine lv_istore_n (lv' := [(3, .int v2_713), (2, .int v2_690), (1, .int (nI (n8))), (0, .ref h0)]) hx hb dX9_walkItem_175 rfl hl (by decide) rfl (fun ls hl => ?_)
              refine lv_aload_n hx hb dX9_walkItem_176 rfl (lv_at hl 3 rfl) ?_
              refine xg hF kf_X9_266 hK hP 2 rfl rfl dX9_walkItem_177 ?_
              refine lv_if_ne (tgt := 252) hx hb dX9_walkItem_180 (by decide) (fun c_721 => ?_) (fun c_721 => ?_)
              · skip
                exact W.vret hx hb hr (fun t ht hW => ⟨⟨(f2_711, t2_712, v2_713, w2_714, ms, a8, Wn), rfl, ⟨(by first | assumption | omega), (by first | assumption | omega), (by first | assumption | omega), (by first | assumption | omega), (by first | assumption | omega), (fun h => ⟨(i_578 (hc8 (i_686 (i_697 (i_709 (i_720 h).1).1).1).1).1).1, trivial⟩), hs0, hs1, hs2, hsS, hsM, hsp, hsr, hsw, hsR⟩, by rw [ht]; exact hP.sub [2, 0, 3, 1] rfl, hD.sub [2, 0, 3, 1] (by decide) rfl⟩, hS.F ht⟩) hS.2.2 dX9_walkItem_252 hlk
              · skip
                refine lv_sipush (v := 377) hx hb dX9_walkItem_183 (by decide) ?_
                refine lv_bipush (v := 9) hx hb dX9_walkItem_186 (by decide) ?_
                refine lv_aload_n hx hb dX9_walkItem_188 rfl (lv_at hl 3 rfl) ?_
                refine lv_aload_n hx hb dX9_walkItem_189 rfl (lv_at hl 3 rfl) ?_
                refine xg hF kf_X9_40 hK hP 2 rfl rfl dX9_walkItem_190 ?_
                refine lv_iconst (v := 0) hx hb dX9_walkItem_193 (by decide) ?_
                refine va_iald hx hb hK hP 1 0 rfl rfl (xin 0 6 (by decide) (by decide)) dX9_walkItem_194 ?_
                refine xl_i (y := a8 0) (congrArg a8 rfl) ?_
                obtain ⟨z_722, ez_722, hz_7220⟩ := wk_A.get hA8 (i_686 (i_697 (i_709 (i_720 c_721).1).1).1).1 (show 0 < n8 by omega)
                refine xl_i (y := nI (z_722)) ez_722 ?_
                refine lv_aload_n hx hb dX9_walkItem_195 rfl (lv_at hl 3 rfl) ?_
                refine xg hF kf_X9_40 hK hP 2 rfl rfl dX9_walkItem_196 ?_
                refine lv_iconst (v := 1) hx hb dX9_walkItem_199 (by decide) ?_
                refine va_iald hx hb hK hP 1 0 rfl rfl (xin 1 6 (by decide) (by decide)) dX9_walkItem_200 ?_
                refine xl_i (y := a8 1) (congrArg a8 rfl) ?_
                obtain ⟨z_723, ez_723, hz_7230⟩ := wk_A.get hA8 (i_686 (i_697 (i_709 (i_720 c_721).1).1).1).1 (show 1 < n8 by omega)
                refine xl_i (y := nI (z_723)) ez_723 ?_
                refine lv_iload_n hx hb dX9_walkItem_201 rfl (lv_at hl 1 rfl) ?_
                refine lv_iload_n hx hb dX9_walkItem_202 rfl (lv_at hl 0 rfl) ?_
                refine xc_Vi (wr := [(ywa, .inl (cI, 6, .inl a8)), (yta, .inl (cI, 120, .inl tp))]) hF (c_X9_newWalk l D cI cJ cZ cS ta sa sv H.size h0 ys yk yo yt mk0 yfa yfe mL mS mM yro yhe ygr mF mC mY yta mz f2_711 t2_712 v2_713 w2_714 ywa ybi ysi ynu ymo ms P Rn Wn z_722 z_723 v2_690 v2_713 (by omega) (by omega) (by omega) hs0 hs1 hs2 hsS hsM hsp hsr hsw hsR) kv_X9_196 ⟨rfl, rfl, Nat.le_of_ble_eq_true rfl, Nat.le_of_ble_eq_true rfl⟩ ⟨Nat.le_of_ble_eq_true rfl, Nat.le_of_ble_eq_true rfl⟩ hK hN hZ hP hD hS hA [2, 0] [1, 3] rfl rfl rfl rfl (by decide) 0 rfl rfl rfl rfl hl.1 rfl (Nat.le_of_ble_eq_true rfl) dX9_walkItem_203 (fun r_724 u_r_724 H locs hw_r_724 hP hD hS => ?_)
                obtain ⟨ms2_725, rfl⟩ : ∃ z, z = u_r_724 := ⟨_, rfl⟩
                try dsimp only at hw_r_724
                obtain ⟨hw_r_724, i_726, i_727, i_728, i_729, i_730, i_731, i_732, i_733, i_734⟩ := hw_r_724
                have hP : va_P D vwCl [(ywa, .inl (cI, 6, .inl a8)), (yta, .inl (cI, 120, .inl tp)), (h0, .inr (9, [.ref ys, .ref yk, .ref yo, .ref yt, .int mk0, .ref yfa, .ref yfe, .int mL, .int mS, .int mM, .ref yro, .ref yhe, .ref ygr, .int mF, .int mC, .int mY, .ref yta, .int (nI (mz)), .int (nI (f2_711)), .int (nI (t2_712)), .int v2_713, .int w2_714, .ref ywa, .ref ybi, .ref ysi, .ref ynu, .ref ymo])), (ys, .inl (cI, 449, .inl ms2_725))] H := hP
                have hD : va_D A [(ywa, .inl (cI, 6, .inl a8)), (yta, .inl (cI, 120, .inl tp)), (h0, .inr (9, [.ref ys, .ref yk, .ref yo, .ref yt, .int mk0, .ref yfa, .ref yfe, .int mL, .int mS, .int mM, .ref yro, .ref yhe, .ref ygr, .int mF, .int mC, .int mY, .ref yta, .int (nI (mz)), .int (nI (f2_711)), .int (nI (t2_712)), .int v2_713, .int w2_714, .ref ywa, .ref ybi, .ref ysi, .ref ynu, .ref ymo])), (ys, .inl (cI, 449, .inl ms2_725))] := hD
                subst hw_r_724
                refine lv_imul hx hb dX9_walkItem_206 ?_
                refine xl_i (y := nI (9 * Wn)) (pk_mul 9 Wn) ?_
                refine lv_iadd hx hb dX9_walkItem_207 ?_
                refine xl_i (y := nI (377 + (9 * Wn))) (nI_add 377 (9 * Wn)) ?_
                refine lv_istore (lv' := [(4, .int (nI (377 + (9 * Wn)))), (3, .int v2_713), (2, .int v2_690), (1, .int (nI (n8))), (0, .ref h0)]) hx hb dX9_walkItem_208 hl (by decide) rfl (fun ls hl => ?_)
                refine lv_aload_n hx hb dX9_walkItem_210 rfl (lv_at hl 4 rfl) ?_
                refine xg hF kf_X9_7 hK hP 2 rfl rfl dX9_walkItem_211 ?_
                refine lv_iload hx hb dX9_walkItem_214 (lv_at hl 0 rfl) ?_
                refine lv_iload_n hx hb dX9_walkItem_216 rfl (lv_at hl 3 rfl) ?_
                refine va_iast hx hb hK hP hD hS 3 0 rfl rfl (vp_in_nI (show 377 + (9 * Wn) < 449 by omega) (by decide)) dX9_walkItem_217 (fun H locs hP hD hS => ?_)
                rw [nI_clamp (show 377 + (9 * Wn) < 2 ^ 31 by omega)] at hP hD
                obtain ⟨f_735, ef_735⟩ : ∃ g, g = upd ms2_725 (377 + (9 * Wn)) (nI (n8)) := ⟨_, rfl⟩
                rw [← ef_735] at hP hD
                have k0_f_735 : f_735 0 = nI P := by rw [ef_735]; exact (pk_un (show 0 ≠ (377 + (9 * Wn)) by omega)).trans i_726
                have k1_f_735 : f_735 1 = nI Rn := by rw [ef_735]; exact (pk_un (show 1 ≠ (377 + (9 * Wn)) by omega)).trans i_727
                have k2_f_735 : f_735 2 = nI (Wn + 1) := by rw [ef_735]; exact (pk_un (show 2 ≠ (377 + (9 * Wn)) by omega)).trans i_728
                have kS_f_735 : SI f_735 := by rw [ef_735]; exact SI.upd i_729 (okS.wl (w := Wn) (q := n8) (by omega) (by omega) (by omega))
                have kM_f_735 : MI f_735 := by rw [ef_735]; exact MI.upd i_730 (okM.out (show (377 + (9 * Wn)) < 13 ∨ 113 ≤ (377 + (9 * Wn)) by omega))
                have kR_f_735 : RI Rn f_735 := by rw [ef_735]; exact RI.upd i_734 (fun r9 hr9 e9 => by omega)
                have hP : va_P D vwCl [(ywa, .inl (cI, 6, .inl a8)), (yta, .inl (cI, 120, .inl tp)), (h0, .inr (9, [.ref ys, .ref yk, .ref yo, .ref yt, .int mk0, .ref yfa, .ref yfe, .int mL, .int mS, .int mM, .ref yro, .ref yhe, .ref ygr, .int mF, .int mC, .int mY, .ref yta, .int (nI (mz)), .int (nI (f2_711)), .int (nI (t2_712)), .int v2_713, .int w2_714, .ref ywa, .ref ybi, .ref ysi, .ref ynu, .ref ymo])), (ys, .inl (cI, 449, .inl f_735))] H := hP
                have hD : va_D A [(ywa, .inl (cI, 6, .inl a8)), (yta, .inl (cI, 120, .inl tp)), (h0, .inr (9, [.ref ys, .ref yk, .ref yo, .ref yt, .int mk0, .ref yfa, .ref yfe, .int mL, .int mS, .int mM, .ref yro, .ref yhe, .ref ygr, .int mF, .int mC, .int mY, .ref yta, .int (nI (mz)), .int (nI (f2_711)), .int (nI (t2_712)), .int v2_713, .int w2_714, .ref ywa, .ref ybi, .ref ysi, .ref ynu, .ref ymo])), (ys, .inl (cI, 449, .inl f_735))] := hD
                refine lv_iconst (v := 2) hx hb dX9_walkItem_218 (by decide) ?_
                refine lv_istore (lv' := [(5, .int 2), (4, .int (nI (377 + (9 * Wn)))), (3, .int v2_713), (2, .int v2_690), (1, .int (nI (n8))), (0, .ref h0)]) hx hb dX9_walkItem_219 hl (by decide) rfl (fun ls hl => ?_)
                suffices loop_221 : ∀ (n_221 : Nat) (i : Nat) (s8 : Nat → Int32) (H : Heap) (locs : List Loc) (ls : Array Slot), n8 - i < n_221 → (2 ≤ i) → (i ≤ n8) → (s8 0 = nI P) → (s8 1 = nI Rn) → (s8 2 = nI (Wn + 1)) → (SI s8) → (MI s8) → (P ≤ 10) → (Rn ≤ 8) → (Wn + 1 ≤ 8) → (RI Rn s8) → va_P D vwCl [(ywa, .inl (cI, 6, .inl a8)), (yta, .inl (cI, 120, .inl tp)), (h0, .inr (9, [.ref ys, .ref yk, .ref yo, .ref yt, .int mk0, .ref yfa, .ref yfe, .int mL, .int mS, .int mM, .ref yro, .ref yhe, .ref ygr, .int mF, .int mC, .int mY, .ref yta, .int (nI (mz)), .int (nI (f2_711)), .int (nI (t2_712)), .int v2_713, .int w2_714, .ref ywa, .ref ybi, .ref ysi, .ref ynu, .ref ymo])), (ys, .inl (cI, 449, .inl s8))] H → va_D A [(ywa, .inl (cI, 6, .inl a8)), (yta, .inl (cI, 120, .inl tp)), (h0, .inr (9, [.ref ys, .ref yk, .ref yo, .ref yt, .int mk0, .ref yfa, .ref yfe, .int mL, .int mS, .int mM, .ref yro, .ref yhe, .ref ygr, .int mF, .int mC, .int mY, .ref yta, .int (nI (mz)), .int (nI (f2_711)), .int (nI (t2_712)), .int v2_713, .int w2_714, .ref ywa, .ref ybi, .ref ysi, .ref ynu, .ref ymo])), (ys, .inl (cI, 449, .inl s8))] → va_S A s.heap H locs → lv_has ls 6 [(5, .int (nI (i))), (4, .int (nI (377 + (9 * Wn)))), (3, .int v2_713), (2, .int v2_690), (1, .int (nI (n8))), (0, .ref h0)] → W p l e ({ frames := 6, cells := 0, slots := 0, locals := 136 }) s m ([.ref h0] : List Value).toArray below meth c H locs 0 0 (MQ below (XQv (fun (u : Nat × Nat × Int32 × Int32 × (Nat → Int32) × (Nat → Int32) × Nat) => match u with | (f2, t2, v2, w2, ms2, wa2, W2) => (f2 ≤ mz) ∧ (t2 ≤ mz) ∧ (f2 ≤ t2) ∧ (f2 < t2 ∨ f2 = mz) ∧ (mf ≤ f2) ∧ (w2 = 0 → mw = 0 ∧ True) ∧ (ms2 0 = nI P) ∧ (ms2 1 = nI Rn) ∧ (ms2 2 = nI W2) ∧ (SI ms2) ∧ (MI ms2) ∧ (P ≤ 10) ∧ (Rn ≤ 8) ∧ (W2 ≤ 8) ∧ (RI Rn ms2)) D (fun (u : Nat × Nat × Int32 × Int32 × (Nat → Int32) × (Nat → Int32) × Nat) => match u with | (f2, t2, v2, w2, ms2, wa2, W2) => [(h0, .inr (9, [.ref ys, .ref yk, .ref yo, .ref yt, .int mk0, .ref yfa, .ref yfe, .int mL, .int mS, .int mM, .ref yro, .ref yhe, .ref ygr, .int mF, .int mC, .int mY, .ref yta, .int (nI (mz)), .int (nI (f2)), .int (nI (t2)), .int v2, .int w2, .ref ywa, .ref ybi, .ref ysi, .ref ynu, .ref ymo])), (ys, .inl (cI, 449, .inl ms2)), (yta, .inl (cI, 120, .inl tp)), (ywa, .inl (cI, 6, .inl wa2))]) A) ([.ref h0] : List Value).toArray s 0 0 A) (F0 m 221 ls []) by
                  exact loop_221 _ 2 f_735 _ _ _ (Nat.lt_succ_self _) (by omega) (by omega) k0_f_735 k1_f_735 k2_f_735 kS_f_735 kM_f_735 i_731 i_732 i_733 kR_f_735 hP hD hS (lv_sub hl [0, 1, 2, 3, 4, 5] rfl)
                intro n_221
                induction n_221 with
                | zero =>
                  intro i s8 H locs ls hm_221
                  exact absurd hm_221 (Nat.not_lt_zero _)
                | succ n_221 ih_221 =>
                  intro i s8 H locs ls hm_221 hi2 hi ht0 ht1 ht2 htS htM htp htr htw htR hP hD hS hl
                  refine lv_iload hx hb dX9_walkItem_221 (lv_at hl 0 rfl) ?_
                  refine lv_iload_n hx hb dX9_walkItem_223 rfl (lv_at hl 4 rfl) ?_
                  refine lv_icmp_ge (tgt := 252) hx hb dX9_walkItem_224 (by decide) (fun c_736 => ?_) (fun c_736 => ?_)
                  · skip
                    have nc_736 : n8 ≤ i := xn_le (a := n8) (b := i) (by omega) (by omega) c_736
                    exact W.vret hx hb hr (fun t ht hW => ⟨⟨(f2_711, t2_712, v2_713, w2_714, s8, a8, Wn + 1), rfl, ⟨(by first | assumption | omega), (by first | assumption | omega), (by first | assumption | omega), (by first | assumption | omega), (by first | assumption | omega), (fun h => ⟨(i_578 (hc8 (i_686 (i_697 (i_709 (i_720 h).1).1).1).1).1).1, trivial⟩), ht0, ht1, ht2, htS, htM, htp, htr, htw, htR⟩, by rw [ht]; exact hP.sub [2, 3, 1, 0] rfl, hD.sub [2, 3, 1, 0] (by decide) rfl⟩, hS.F ht⟩) hS.2.2 dX9_walkItem_252 hlk
                  · skip
                    have nc_736 : i < n8 := xn_nle (a := n8) (b := i) (by omega) (by omega) c_736
                    refine lv_aload_n hx hb dX9_walkItem_227 rfl (lv_at hl 5 rfl) ?_
                    refine xg hF kf_X9_7 hK hP 2 rfl rfl dX9_walkItem_228 ?_
                    refine lv_iload hx hb dX9_walkItem_231 (lv_at hl 1 rfl) ?_
                    refine lv_iconst (v := 3) hx hb dX9_walkItem_233 (by decide) ?_
                    refine lv_iadd hx hb dX9_walkItem_234 ?_
                    refine xl_i (y := nI (377 + (9 * Wn) + 3)) (nI_add (377 + (9 * Wn)) 3) ?_
                    refine lv_iload hx hb dX9_walkItem_235 (lv_at hl 0 rfl) ?_
                    refine lv_iadd hx hb dX9_walkItem_237 ?_
                    refine xl_i (y := nI (377 + (9 * Wn) + 3 + i)) (nI_add (377 + (9 * Wn) + 3) i) ?_
                    refine lv_aload_n hx hb dX9_walkItem_238 rfl (lv_at hl 5 rfl) ?_
                    refine xg hF kf_X9_40 hK hP 2 rfl rfl dX9_walkItem_239 ?_
                    refine lv_iload hx hb dX9_walkItem_242 (lv_at hl 0 rfl) ?_
                    refine va_iald hx hb hK hP 0 0 rfl rfl (vp_in_nI (show i < 6 by omega) (by decide)) dX9_walkItem_244 ?_
                    refine xl_i (y := a8 i) (congrArg a8 (nI_clamp (show i < 2 ^ 31 by omega))) ?_
                    obtain ⟨z_737, ez_737, hz_7370⟩ := wk_A.get hA8 (i_686 (i_697 (i_709 (i_720 c_721).1).1).1).1 (show i < n8 by omega)
                    refine xl_i (y := nI (z_737)) ez_737 ?_
                    refine va_iast hx hb hK hP hD hS 3 0 rfl rfl (vp_in_nI (show 377 + (9 * Wn) + 3 + i < 449 by omega) (by decide)) dX9_walkItem_245 (fun H locs hP hD hS => ?_)
                    rw [nI_clamp (show 377 + (9 * Wn) + 3 + i < 2 ^ 31 by omega)] at hP hD
                    obtain ⟨f_738, ef_738⟩ : ∃ g, g = upd s8 (377 + (9 * Wn) + 3 + i) (nI (z_737)) := ⟨_, rfl⟩
                    rw [← ef_738] at hP hD
                    have k0_f_738 : f_738 0 = nI P := by rw [ef_738]; exact (pk_un (show 0 ≠ (377 + (9 * Wn) + 3 + i) by omega)).trans ht0
                    have k1_f_738 : f_738 1 = nI Rn := by rw [ef_738]; exact (pk_un (show 1 ≠ (377 + (9 * Wn) + 3 + i) by omega)).trans ht1
                    have k2_f_738 : f_738 2 = nI (Wn + 1) := by rw [ef_738]; exact (pk_un (show 2 ≠ (377 + (9 * Wn) + 3 + i) by omega)).trans ht2
                    have kS_f_738 : SI f_738 := by rw [ef_738]; exact SI.upd htS (okS.ws (w := Wn) (i := i) (by omega) (by omega) (by omega) (show z_737 < 10 by omega))
                    have kM_f_738 : MI f_738 := by rw [ef_738]; exact MI.upd htM (okM.out (show (377 + (9 * Wn) + 3 + i) < 13 ∨ 113 ≤ (377 + (9 * Wn) + 3 + i) by omega))
                    have kR_f_738 : RI Rn f_738 := by rw [ef_738]; exact RI.upd htR (fun r9 hr9 e9 => by omega)
                    have hP : va_P D vwCl [(ywa, .inl (cI, 6, .inl a8)), (yta, .inl (cI, 120, .inl tp)), (h0, .inr (9, [.ref ys, .ref yk, .ref yo, .ref yt, .int mk0, .ref yfa, .ref yfe, .int mL, .int mS, .int mM, .ref yro, .ref yhe, .ref ygr, .int mF, .int mC, .int mY, .ref yta, .int (nI (mz)), .int (nI (f2_711)), .int (nI (t2_712)), .int v2_713, .int w2_714, .ref ywa, .ref ybi, .ref ysi, .ref ynu, .ref ymo])), (ys, .inl (cI, 449, .inl f_738))] H := hP
                    have hD : va_D A [(ywa, .inl (cI, 6, .inl a8)), (yta, .inl (cI, 120, .inl tp)), (h0, .inr (9, [.ref ys, .ref yk, .ref yo, .ref yt, .int mk0, .ref yfa, .ref yfe, .int mL, .int mS, .int mM, .ref yro, .ref yhe, .ref ygr, .int mF, .int mC, .int mY, .ref yta, .int (nI (mz)), .int (nI (f2_711)), .int (nI (t2_712)), .int v2_713, .int w2_714, .ref ywa, .ref ybi, .ref ysi, .ref ynu, .ref ymo])), (ys, .inl (cI, 449, .inl f_738))] := hD
                    refine lv_iinc (v := nI (i + 1)) (lv' := [(5, .int (nI (i + 1))), (4, .int (nI (377 + (9 * Wn)))), (3, .int v2_713), (2, .int v2_690), (1, .int (nI (n8))), (0, .ref h0)]) hx hb dX9_walkItem_246 hl (k := 0) rfl (nI_1 (i)) (by decide) rfl (fun ls hl => ?_)
                    refine lv_goto (tgt := 221) hx hb dX9_walkItem_249 (by decide) ?_
                    exact ih_221 (i + 1) f_738 _ _ _ (by omega) (by omega) (by omega) k0_f_738 k1_f_738 k2_f_738 kS_f_738 kM_f_738 htp htr htw kR_f_738 (hP.sub [0, 1, 2, 3] rfl) (hD.sub [0, 1, 2, 3] (by decide) rfl) hS (lv_sub hl [0, 1, 2, 3, 4, 5] rfl)
            · skip
              refine lv_if_eq (tgt := 176) hx hb dX9_walkItem_156 (by decide) (fun c_739 => ?_) (fun c_739 => absurd (by decide) c_739)
              refine lv_aload_n hx hb dX9_walkItem_176 rfl (lv_at hl 3 rfl) ?_
              refine xg hF kf_X9_266 hK hP 2 rfl rfl dX9_walkItem_177 ?_
              refine lv_if_ne (tgt := 252) hx hb dX9_walkItem_180 (by decide) (fun c_740 => ?_) (fun c_740 => ?_)
              · skip
                exact W.vret hx hb hr (fun t ht hW => ⟨⟨(f2_688, t2_689, v2_690, w2_691, ms, a8, Wn), rfl, ⟨(by first | assumption | omega), (by first | assumption | omega), (by first | assumption | omega), (by first | assumption | omega), (by first | assumption | omega), (fun h => ⟨(i_578 (hc8 (i_686 (i_697 h).1).1).1).1, trivial⟩), hs0, hs1, hs2, hsS, hsM, hsp, hsr, hsw, hsR⟩, by rw [ht]; exact hP.sub [2, 0, 3, 1] rfl, hD.sub [2, 0, 3, 1] (by decide) rfl⟩, hS.F ht⟩) hS.2.2 dX9_walkItem_252 hlk
              · skip
                refine lv_sipush (v := 377) hx hb dX9_walkItem_183 (by decide) ?_
                refine lv_bipush (v := 9) hx hb dX9_walkItem_186 (by decide) ?_
                refine lv_aload_n hx hb dX9_walkItem_188 rfl (lv_at hl 3 rfl) ?_
                refine lv_aload_n hx hb dX9_walkItem_189 rfl (lv_at hl 3 rfl) ?_
                refine xg hF kf_X9_40 hK hP 2 rfl rfl dX9_walkItem_190 ?_
                refine lv_iconst (v := 0) hx hb dX9_walkItem_193 (by decide) ?_
                refine va_iald hx hb hK hP 1 0 rfl rfl (xin 0 6 (by decide) (by decide)) dX9_walkItem_194 ?_
                refine xl_i (y := a8 0) (congrArg a8 rfl) ?_
                obtain ⟨z_741, ez_741, hz_7410⟩ := wk_A.get hA8 (i_686 (i_697 c_740).1).1 (show 0 < n8 by omega)
                refine xl_i (y := nI (z_741)) ez_741 ?_
                refine lv_aload_n hx hb dX9_walkItem_195 rfl (lv_at hl 3 rfl) ?_
                refine xg hF kf_X9_40 hK hP 2 rfl rfl dX9_walkItem_196 ?_
                refine lv_iconst (v := 1) hx hb dX9_walkItem_199 (by decide) ?_
                refine va_iald hx hb hK hP 1 0 rfl rfl (xin 1 6 (by decide) (by decide)) dX9_walkItem_200 ?_
                refine xl_i (y := a8 1) (congrArg a8 rfl) ?_
                obtain ⟨z_742, ez_742, hz_7420⟩ := wk_A.get hA8 (i_686 (i_697 c_740).1).1 (show 1 < n8 by omega)
                refine xl_i (y := nI (z_742)) ez_742 ?_
                refine lv_iload_n hx hb dX9_walkItem_201 rfl (lv_at hl 1 rfl) ?_
                refine lv_iload_n hx hb dX9_walkItem_202 rfl (lv_at hl 0 rfl) ?_
                refine xc_Vi (wr := [(ywa, .inl (cI, 6, .inl a8)), (yta, .inl (cI, 120, .inl tp))]) hF (c_X9_newWalk l D cI cJ cZ cS ta sa sv H.size h0 ys yk yo yt mk0 yfa yfe mL mS mM yro yhe ygr mF mC mY yta mz f2_688 t2_689 v2_690 w2_691 ywa ybi ysi ynu ymo ms P Rn Wn z_741 z_742 v2_690 0 (by omega) (by omega) (by omega) hs0 hs1 hs2 hsS hsM hsp hsr hsw hsR) kv_X9_196 ⟨rfl, rfl, Nat.le_of_ble_eq_true rfl, Nat.le_of_ble_eq_true rfl⟩ ⟨Nat.le_of_ble_eq_true rfl, Nat.le_of_ble_eq_true rfl⟩ hK hN hZ hP hD hS hA [2, 0] [1, 3] rfl rfl rfl rfl (by decide) 0 rfl rfl rfl rfl hl.1 rfl (Nat.le_of_ble_eq_true rfl) dX9_walkItem_203 (fun r_743 u_r_743 H locs hw_r_743 hP hD hS => ?_)
                obtain ⟨ms2_744, rfl⟩ : ∃ z, z = u_r_743 := ⟨_, rfl⟩
                try dsimp only at hw_r_743
                obtain ⟨hw_r_743, i_745, i_746, i_747, i_748, i_749, i_750, i_751, i_752, i_753⟩ := hw_r_743
                have hP : va_P D vwCl [(ywa, .inl (cI, 6, .inl a8)), (yta, .inl (cI, 120, .inl tp)), (h0, .inr (9, [.ref ys, .ref yk, .ref yo, .ref yt, .int mk0, .ref yfa, .ref yfe, .int mL, .int mS, .int mM, .ref yro, .ref yhe, .ref ygr, .int mF, .int mC, .int mY, .ref yta, .int (nI (mz)), .int (nI (f2_688)), .int (nI (t2_689)), .int v2_690, .int w2_691, .ref ywa, .ref ybi, .ref ysi, .ref ynu, .ref ymo])), (ys, .inl (cI, 449, .inl ms2_744))] H := hP
                have hD : va_D A [(ywa, .inl (cI, 6, .inl a8)), (yta, .inl (cI, 120, .inl tp)), (h0, .inr (9, [.ref ys, .ref yk, .ref yo, .ref yt, .int mk0, .ref yfa, .ref yfe, .int mL, .int mS, .int mM, .ref yro, .ref yhe, .ref ygr, .int mF, .int mC, .int mY, .ref yta, .int (nI (mz)), .int (nI (f2_688)), .int (nI (t2_689)), .int v2_690, .int w2_691, .ref ywa, .ref ybi, .ref ysi, .ref ynu, .ref ymo])), (ys, .inl (cI, 449, .inl ms2_744))] := hD
                subst hw_r_743
                refine lv_imul hx hb dX9_walkItem_206 ?_
                refine xl_i (y := nI (9 * Wn)) (pk_mul 9 Wn) ?_
                refine lv_iadd hx hb dX9_walkItem_207 ?_
                refine xl_i (y := nI (377 + (9 * Wn))) (nI_add 377 (9 * Wn)) ?_
                refine lv_istore (lv' := [(4, .int (nI (377 + (9 * Wn)))), (3, .int 0), (2, .int v2_690), (1, .int (nI (n8))), (0, .ref h0)]) hx hb dX9_walkItem_208 hl (by decide) rfl (fun ls hl => ?_)
                refine lv_aload_n hx hb dX9_walkItem_210 rfl (lv_at hl 4 rfl) ?_
                refine xg hF kf_X9_7 hK hP 2 rfl rfl dX9_walkItem_211 ?_
                refine lv_iload hx hb dX9_walkItem_214 (lv_at hl 0 rfl) ?_
                refine lv_iload_n hx hb dX9_walkItem_216 rfl (lv_at hl 3 rfl) ?_
                refine va_iast hx hb hK hP hD hS 3 0 rfl rfl (vp_in_nI (show 377 + (9 * Wn) < 449 by omega) (by decide)) dX9_walkItem_217 (fun H locs hP hD hS => ?_)
                rw [nI_clamp (show 377 + (9 * Wn) < 2 ^ 31 by omega)] at hP hD
                obtain ⟨f_754, ef_754⟩ : ∃ g, g = upd ms2_744 (377 + (9 * Wn)) (nI (n8)) := ⟨_, rfl⟩
                rw [← ef_754] at hP hD
                have k0_f_754 : f_754 0 = nI P := by rw [ef_754]; exact (pk_un (show 0 ≠ (377 + (9 * Wn)) by omega)).trans i_745
                have k1_f_754 : f_754 1 = nI Rn := by rw [ef_754]; exact (pk_un (show 1 ≠ (377 + (9 * Wn)) by omega)).trans i_746
                have k2_f_754 : f_754 2 = nI (Wn + 1) := by rw [ef_754]; exact (pk_un (show 2 ≠ (377 + (9 * Wn)) by omega)).trans i_747
                have kS_f_754 : SI f_754 := by rw [ef_754]; exact SI.upd i_748 (okS.wl (w := Wn) (q := n8) (by omega) (by omega) (by omega))
                have kM_f_754 : MI f_754 := by rw [ef_754]; exact MI.upd i_749 (okM.out (show (377 + (9 * Wn)) < 13 ∨ 113 ≤ (377 + (9 * Wn)) by omega))
                have kR_f_754 : RI Rn f_754 := by rw [ef_754]; exact RI.upd i_753 (fun r9 hr9 e9 => by omega)
                have hP : va_P D vwCl [(ywa, .inl (cI, 6, .inl a8)), (yta, .inl (cI, 120, .inl tp)), (h0, .inr (9, [.ref ys, .ref yk, .ref yo, .ref yt, .int mk0, .ref yfa, .ref yfe, .int mL, .int mS, .int mM, .ref yro, .ref yhe, .ref ygr, .int mF, .int mC, .int mY, .ref yta, .int (nI (mz)), .int (nI (f2_688)), .int (nI (t2_689)), .int v2_690, .int w2_691, .ref ywa, .ref ybi, .ref ysi, .ref ynu, .ref ymo])), (ys, .inl (cI, 449, .inl f_754))] H := hP
                have hD : va_D A [(ywa, .inl (cI, 6, .inl a8)), (yta, .inl (cI, 120, .inl tp)), (h0, .inr (9, [.ref ys, .ref yk, .ref yo, .ref yt, .int mk0, .ref yfa, .ref yfe, .int mL, .int mS, .int mM, .ref yro, .ref yhe, .ref ygr, .int mF, .int mC, .int mY, .ref yta, .int (nI (mz)), .int (nI (f2_688)), .int (nI (t2_689)), .int v2_690, .int w2_691, .ref ywa, .ref ybi, .ref ysi, .ref ynu, .ref ymo])), (ys, .inl (cI, 449, .inl f_754))] := hD
                refine lv_iconst (v := 2) hx hb dX9_walkItem_218 (by decide) ?_
                refine lv_istore (lv' := [(5, .int 2), (4, .int (nI (377 + (9 * Wn)))), (3, .int 0), (2, .int v2_690), (1, .int (nI (n8))), (0, .ref h0)]) hx hb dX9_walkItem_219 hl (by decide) rfl (fun ls hl => ?_)
                suffices loop_221 : ∀ (n_221 : Nat) (i : Nat) (s8 : Nat → Int32) (H : Heap) (locs : List Loc) (ls : Array Slot), n8 - i < n_221 → (2 ≤ i) → (i ≤ n8) → (s8 0 = nI P) → (s8 1 = nI Rn) → (s8 2 = nI (Wn + 1)) → (SI s8) → (MI s8) → (P ≤ 10) → (Rn ≤ 8) → (Wn + 1 ≤ 8) → (RI Rn s8) → va_P D vwCl [(ywa, .inl (cI, 6, .inl a8)), (yta, .inl (cI, 120, .inl tp)), (h0, .inr (9, [.ref ys, .ref yk, .ref yo, .ref yt, .int mk0, .ref yfa, .ref yfe, .int mL, .int mS, .int mM, .ref yro, .ref yhe, .ref ygr, .int mF, .int mC, .int mY, .ref yta, .int (nI (mz)), .int (nI (f2_688)), .int (nI (t2_689)), .int v2_690, .int w2_691, .ref ywa, .ref ybi, .ref ysi, .ref ynu, .ref ymo])), (ys, .inl (cI, 449, .inl s8))] H → va_D A [(ywa, .inl (cI, 6, .inl a8)), (yta, .inl (cI, 120, .inl tp)), (h0, .inr (9, [.ref ys, .ref yk, .ref yo, .ref yt, .int mk0, .ref yfa, .ref yfe, .int mL, .int mS, .int mM, .ref yro, .ref yhe, .ref ygr, .int mF, .int mC, .int mY, .ref yta, .int (nI (mz)), .int (nI (f2_688)), .int (nI (t2_689)), .int v2_690, .int w2_691, .ref ywa, .ref ybi, .ref ysi, .ref ynu, .ref ymo])), (ys, .inl (cI, 449, .inl s8))] → va_S A s.heap H locs → lv_has ls 6 [(5, .int (nI (i))), (4, .int (nI (377 + (9 * Wn)))), (3, .int 0), (2, .int v2_690), (1, .int (nI (n8))), (0, .ref h0)] → W p l e ({ frames := 6, cells := 0, slots := 0, locals := 136 }) s m ([.ref h0] : List Value).toArray below meth c H locs 0 0 (MQ below (XQv (fun (u : Nat × Nat × Int32 × Int32 × (Nat → Int32) × (Nat → Int32) × Nat) => match u with | (f2, t2, v2, w2, ms2, wa2, W2) => (f2 ≤ mz) ∧ (t2 ≤ mz) ∧ (f2 ≤ t2) ∧ (f2 < t2 ∨ f2 = mz) ∧ (mf ≤ f2) ∧ (w2 = 0 → mw = 0 ∧ True) ∧ (ms2 0 = nI P) ∧ (ms2 1 = nI Rn) ∧ (ms2 2 = nI W2) ∧ (SI ms2) ∧ (MI ms2) ∧ (P ≤ 10) ∧ (Rn ≤ 8) ∧ (W2 ≤ 8) ∧ (RI Rn ms2)) D (fun (u : Nat × Nat × Int32 × Int32 × (Nat → Int32) × (Nat → Int32) × Nat) => match u with | (f2, t2, v2, w2, ms2, wa2, W2) => [(h0, .inr (9, [.ref ys, .ref yk, .ref yo, .ref yt, .int mk0, .ref yfa, .ref yfe, .int mL, .int mS, .int mM, .ref yro, .ref yhe, .ref ygr, .int mF, .int mC, .int mY, .ref yta, .int (nI (mz)), .int (nI (f2)), .int (nI (t2)), .int v2, .int w2, .ref ywa, .ref ybi, .ref ysi, .ref ynu, .ref ymo])), (ys, .inl (cI, 449, .inl ms2)), (yta, .inl (cI, 120, .inl tp)), (ywa, .inl (cI, 6, .inl wa2))]) A) ([.ref h0] : List Value).toArray s 0 0 A) (F0 m 221 ls []) by
                  exact loop_221 _ 2 f_754 _ _ _ (Nat.lt_succ_self _) (by omega) (by omega) k0_f_754 k1_f_754 k2_f_754 kS_f_754 kM_f_754 i_750 i_751 i_752 kR_f_754 hP hD hS (lv_sub hl [0, 1, 2, 3, 4, 5] rfl)
                intro n_221
                induction n_221 with
                | zero =>
                  intro i s8 H locs ls hm_221
                  exact absurd hm_221 (Nat.not_lt_zero _)
                | succ n_221 ih_221 =>
                  intro i s8 H locs ls hm_221 hi2 hi ht0 ht1 ht2 htS htM htp htr htw htR hP hD hS hl
                  refine lv_iload hx hb dX9_walkItem_221 (lv_at hl 0 rfl) ?_
                  refine lv_iload_n hx hb dX9_walkItem_223 rfl (lv_at hl 4 rfl) ?_
                  refine lv_icmp_ge (tgt := 252) hx hb dX9_walkItem_224 (by decide) (fun c_755 => ?_) (fun c_755 => ?_)
                  · skip
                    have nc_755 : n8 ≤ i := xn_le (a := n8) (b := i) (by omega) (by omega) c_755
                    exact W.vret hx hb hr (fun t ht hW => ⟨⟨(f2_688, t2_689, v2_690, w2_691, s8, a8, Wn + 1), rfl, ⟨(by first | assumption | omega), (by first | assumption | omega), (by first | assumption | omega), (by first | assumption | omega), (by first | assumption | omega), (fun h => ⟨(i_578 (hc8 (i_686 (i_697 h).1).1).1).1, trivial⟩), ht0, ht1, ht2, htS, htM, htp, htr, htw, htR⟩, by rw [ht]; exact hP.sub [2, 3, 1, 0] rfl, hD.sub [2, 3, 1, 0] (by decide) rfl⟩, hS.F ht⟩) hS.2.2 dX9_walkItem_252 hlk
                  · skip
                    have nc_755 : i < n8 := xn_nle (a := n8) (b := i) (by omega) (by omega) c_755
                    refine lv_aload_n hx hb dX9_walkItem_227 rfl (lv_at hl 5 rfl) ?_
                    refine xg hF kf_X9_7 hK hP 2 rfl rfl dX9_walkItem_228 ?_
                    refine lv_iload hx hb dX9_walkItem_231 (lv_at hl 1 rfl) ?_
                    refine lv_iconst (v := 3) hx hb dX9_walkItem_233 (by decide) ?_
                    refine lv_iadd hx hb dX9_walkItem_234 ?_
                    refine xl_i (y := nI (377 + (9 * Wn) + 3)) (nI_add (377 + (9 * Wn)) 3) ?_
                    refine lv_iload hx hb dX9_walkItem_235 (lv_at hl 0 rfl) ?_
                    refine lv_iadd hx hb dX9_walkItem_237 ?_
                    refine xl_i (y := nI (377 + (9 * Wn) + 3 + i)) (nI_add (377 + (9 * Wn) + 3) i) ?_
                    refine lv_aload_n hx hb dX9_walkItem_238 rfl (lv_at hl 5 rfl) ?_
                    refine xg hF kf_X9_40 hK hP 2 rfl rfl dX9_walkItem_239 ?_
                    refine lv_iload hx hb dX9_walkItem_242 (lv_at hl 0 rfl) ?_
                    refine va_iald hx hb hK hP 0 0 rfl rfl (vp_in_nI (show i < 6 by omega) (by decide)) dX9_walkItem_244 ?_
                    refine xl_i (y := a8 i) (congrArg a8 (nI_clamp (show i < 2 ^ 31 by omega))) ?_
                    obtain ⟨z_756, ez_756, hz_7560⟩ := wk_A.get hA8 (i_686 (i_697 c_740).1).1 (show i < n8 by omega)
                    refine xl_i (y := nI (z_756)) ez_756 ?_
                    refine va_iast hx hb hK hP hD hS 3 0 rfl rfl (vp_in_nI (show 377 + (9 * Wn) + 3 + i < 449 by omega) (by decide)) dX9_walkItem_245 (fun H locs hP hD hS => ?_)
                    rw [nI_clamp (show 377 + (9 * Wn) + 3 + i < 2 ^ 31 by omega)] at hP hD
                    obtain ⟨f_757, ef_757⟩ : ∃ g, g = upd s8 (377 + (9 * Wn) + 3 + i) (nI (z_756)) := ⟨_, rfl⟩
                    rw [← ef_757] at hP hD
                    have k0_f_757 : f_757 0 = nI P := by rw [ef_757]; exact (pk_un (show 0 ≠ (377 + (9 * Wn) + 3 + i) by omega)).trans ht0
                    have k1_f_757 : f_757 1 = nI Rn := by rw [ef_757]; exact (pk_un (show 1 ≠ (377 + (9 * Wn) + 3 + i) by omega)).trans ht1
                    have k2_f_757 : f_757 2 = nI (Wn + 1) := by rw [ef_757]; exact (pk_un (show 2 ≠ (377 + (9 * Wn) + 3 + i) by omega)).trans ht2
                    have kS_f_757 : SI f_757 := by rw [ef_757]; exact SI.upd htS (okS.ws (w := Wn) (i := i) (by omega) (by omega) (by omega) (show z_756 < 10 by omega))
                    have kM_f_757 : MI f_757 := by rw [ef_757]; exact MI.upd htM (okM.out (show (377 + (9 * Wn) + 3 + i) < 13 ∨ 113 ≤ (377 + (9 * Wn) + 3 + i) by omega))
                    have kR_f_757 : RI Rn f_757 := by rw [ef_757]; exact RI.upd htR (fun r9 hr9 e9 => by omega)
                    have hP : va_P D vwCl [(ywa, .inl (cI, 6, .inl a8)), (yta, .inl (cI, 120, .inl tp)), (h0, .inr (9, [.ref ys, .ref yk, .ref yo, .ref yt, .int mk0, .ref yfa, .ref yfe, .int mL, .int mS, .int mM, .ref yro, .ref yhe, .ref ygr, .int mF, .int mC, .int mY, .ref yta, .int (nI (mz)), .int (nI (f2_688)), .int (nI (t2_689)), .int v2_690, .int w2_691, .ref ywa, .ref ybi, .ref ysi, .ref ynu, .ref ymo])), (ys, .inl (cI, 449, .inl f_757))] H := hP
                    have hD : va_D A [(ywa, .inl (cI, 6, .inl a8)), (yta, .inl (cI, 120, .inl tp)), (h0, .inr (9, [.ref ys, .ref yk, .ref yo, .ref yt, .int mk0, .ref yfa, .ref yfe, .int mL, .int mS, .int mM, .ref yro, .ref yhe, .ref ygr, .int mF, .int mC, .int mY, .ref yta, .int (nI (mz)), .int (nI (f2_688)), .int (nI (t2_689)), .int v2_690, .int w2_691, .ref ywa, .ref ybi, .ref ysi, .ref ynu, .ref ymo])), (ys, .inl (cI, 449, .inl f_757))] := hD
                    refine lv_iinc (v := nI (i + 1)) (lv' := [(5, .int (nI (i + 1))), (4, .int (nI (377 + (9 * Wn)))), (3, .int 0), (2, .int v2_690), (1, .int (nI (n8))), (0, .ref h0)]) hx hb dX9_walkItem_246 hl (k := 0) rfl (nI_1 (i)) (by decide) rfl (fun ls hl => ?_)
                    refine lv_goto (tgt := 221) hx hb dX9_walkItem_249 (by decide) ?_
                    exact ih_221 (i + 1) f_757 _ _ _ (by omega) (by omega) (by omega) k0_f_757 k1_f_757 k2_f_757 kS_f_757 kM_f_757 htp htr htw kR_f_757 (hP.sub [0, 1, 2, 3] rfl) (hD.sub [0, 1, 2, 3] (by decide) rfl) hS (lv_sub hl [0, 1, 2, 3, 4, 5] rfl)
          · skip
            refine xc_Vv (wr := [(ys, .inl (cI, 449, .inl ms)), (ywa, .inl (cI, 6, .inl a8))]) hF (c_X9_needs l D cI cJ cZ cS ta sa sv H.size h0 ys yk yo yt mk0 yfa yfe mL mS mM yro yhe ygr mF mC mY yta mz f8 t8 mv w8 ywa ybi ysi ynu ymo tp 0 (by omega) (by omega) (by omega) (by omega) (by omega)) kv_X9_278 ⟨rfl, rfl, Nat.le_of_ble_eq_true rfl, Nat.le_of_ble_eq_true rfl⟩ ⟨Nat.le_of_ble_eq_true rfl, Nat.le_of_ble_eq_true rfl⟩ hK hN hZ hP hD hS hA [2, 3] [0, 1] rfl rfl rfl rfl (by decide) 0 rfl rfl rfl rfl hl.1 rfl (Nat.le_of_ble_eq_true rfl) dX9_walkItem_120 (fun u_r_758 H locs hw_r_758 hP hD hS => ?_)
            obtain ⟨f2_759, t2_760, w2_761⟩ := u_r_758
            try dsimp only at hw_r_758
            obtain ⟨i_762, i_763, i_764, i_765, i_766, i_767⟩ := hw_r_758
            have hP : va_P D vwCl [(ys, .inl (cI, 449, .inl ms)), (ywa, .inl (cI, 6, .inl a8)), (h0, .inr (9, [.ref ys, .ref yk, .ref yo, .ref yt, .int mk0, .ref yfa, .ref yfe, .int mL, .int mS, .int mM, .ref yro, .ref yhe, .ref ygr, .int mF, .int mC, .int mY, .ref yta, .int (nI (mz)), .int (nI (f2_759)), .int (nI (t2_760)), .int mv, .int w2_761, .ref ywa, .ref ybi, .ref ysi, .ref ynu, .ref ymo])), (yta, .inl (cI, 120, .inl tp))] H := hP
            have hD : va_D A [(ys, .inl (cI, 449, .inl ms)), (ywa, .inl (cI, 6, .inl a8)), (h0, .inr (9, [.ref ys, .ref yk, .ref yo, .ref yt, .int mk0, .ref yfa, .ref yfe, .int mL, .int mS, .int mM, .ref yro, .ref yhe, .ref ygr, .int mF, .int mC, .int mY, .ref yta, .int (nI (mz)), .int (nI (f2_759)), .int (nI (t2_760)), .int mv, .int w2_761, .ref ywa, .ref ybi, .ref ysi, .ref ynu, .ref ymo])), (yta, .inl (cI, 120, .inl tp))] := hD
            refine lv_aload_n hx hb dX9_walkItem_123 rfl (lv_at hl 1 rfl) ?_
            refine lv_sipush (v := (-9999)) hx hb dX9_walkItem_124 (by decide) ?_
            refine lv_sipush (v := 9999) hx hb dX9_walkItem_127 (by decide) ?_
            refine xc_Vv (wr := [(ys, .inl (cI, 449, .inl ms)), (ywa, .inl (cI, 6, .inl a8))]) hF (c_X9_mile l D cI cJ cZ cS ta sa sv H.size h0 ys yk yo yt mk0 yfa yfe mL mS mM yro yhe ygr mF mC mY yta mz f2_759 t2_760 mv w2_761 ywa ybi ysi ynu ymo tp (-9999) 9999 (by omega) (by omega) (by omega) (by omega) (by omega)) kv_X9_287 ⟨rfl, rfl, Nat.le_of_ble_eq_true rfl, Nat.le_of_ble_eq_true rfl⟩ ⟨Nat.le_of_ble_eq_true rfl, Nat.le_of_ble_eq_true rfl⟩ hK hN hZ hP hD hS hA [2, 3] [0, 1] rfl rfl rfl rfl (by decide) 0 rfl rfl rfl rfl hl.1 rfl (Nat.le_of_ble_eq_true rfl) dX9_walkItem_130 (fun u_r_768 H locs hw_r_768 hP hD hS => ?_)
            obtain ⟨f2_769, t2_770, v2_771, w2_772⟩ := u_r_768
            try dsimp only at hw_r_768
            obtain ⟨i_773, i_774, i_775, i_776, i_777, i_778⟩ := hw_r_768
            have hP : va_P D vwCl [(ys, .inl (cI, 449, .inl ms)), (ywa, .inl (cI, 6, .inl a8)), (h0, .inr (9, [.ref ys, .ref yk, .ref yo, .ref yt, .int mk0, .ref yfa, .ref yfe, .int mL, .int mS, .int mM, .ref yro, .ref yhe, .ref ygr, .int mF, .int mC, .int mY, .ref yta, .int (nI (mz)), .int (nI (f2_769)), .int (nI (t2_770)), .int v2_771, .int w2_772, .ref ywa, .ref ybi, .ref ysi, .ref ynu, .ref ymo])), (yta, .inl (cI, 120, .inl tp))] H := hP
            have hD : va_D A [(ys, .inl (cI, 449, .inl ms)), (ywa, .inl (cI, 6, .inl a8)), (h0, .inr (9, [.ref ys, .ref yk, .ref yo, .ref yt, .int mk0, .ref yfa, .ref yfe, .int mL, .int mS, .int mM, .ref yro, .ref yhe, .ref ygr, .int mF, .int mC, .int mY, .ref yta, .int (nI (mz)), .int (nI (f2_769)), .int (nI (t2_770)), .int v2_771, .int w2_772, .ref ywa, .ref ybi, .ref ysi, .ref ynu, .ref ymo])), (yta, .inl (cI, 120, .inl tp))] := hD
            refine lv_aload_n hx hb dX9_walkItem_133 rfl (lv_at hl 1 rfl) ?_
            refine xg hF kf_X9_275 hK hP 2 rfl rfl dX9_walkItem_134 ?_
            refine lv_istore_n (lv' := [(2, .int v2_771), (1, .int (nI (n8))), (0, .ref h0)]) hx hb dX9_walkItem_137 rfl hl (by decide) rfl (fun ls hl => ?_)
            refine lv_iconst (v := 0) hx hb dX9_walkItem_138 (by decide) ?_
            refine lv_istore_n (lv' := [(3, .int 0), (2, .int v2_771), (1, .int (nI (n8))), (0, .ref h0)]) hx hb dX9_walkItem_139 rfl hl (by decide) rfl (fun ls hl => ?_)
            refine lv_aload_n hx hb dX9_walkItem_140 rfl (lv_at hl 3 rfl) ?_
            refine lv_bipush (v := 115) hx hb dX9_walkItem_141 (by decide) ?_
            refine lv_bipush (v := 108) hx hb dX9_walkItem_143 (by decide) ?_
            refine lv_bipush (v := 97) hx hb dX9_walkItem_145 (by decide) ?_
            refine lv_bipush (v := 99) hx hb dX9_walkItem_147 (by decide) ?_
            refine lv_bipush (v := 107) hx hb dX9_walkItem_149 (by decide) ?_
            refine lv_iconst (v := 0) hx hb dX9_walkItem_151 (by decide) ?_
            refine lv_iconst (v := 0) hx hb dX9_walkItem_152 (by decide) ?_
            refine xc_Vr hF (c_X9_isWord l D cI cJ cZ cS ta sa sv H.size h0 ys yk yo yt mk0 yfa yfe mL mS mM yro yhe ygr mF mC mY yta mz f2_769 t2_770 v2_771 w2_772 ywa ybi ysi ynu ymo tp 115 108 97 99 107 0 0 (by omega) (by omega)) kv_X9_290 ⟨rfl, rfl, Nat.le_of_ble_eq_true rfl, Nat.le_of_ble_eq_true rfl⟩ ⟨Nat.le_of_ble_eq_true rfl, Nat.le_of_ble_eq_true rfl⟩ hK hN hZ hP hD hS hA [2, 3] rfl rfl 0 rfl rfl rfl rfl hl.1 rfl (Nat.le_of_ble_eq_true rfl) dX9_walkItem_153 (fun r_779 hw_r_779 => ?_)
            rcases hw_r_779 with rfl | rfl
            · skip
              refine lv_if_eq (tgt := 176) hx hb dX9_walkItem_156 (by decide) (fun c_780 => absurd c_780 (by decide)) (fun c_780 => ?_)
              refine lv_aload_n hx hb dX9_walkItem_159 rfl (lv_at hl 3 rfl) ?_
              refine lv_iconst (v := 1) hx hb dX9_walkItem_160 (by decide) ?_
              refine xc_Vv (wr := [(ys, .inl (cI, 449, .inl ms)), (ywa, .inl (cI, 6, .inl a8))]) hF (c_X9_needs l D cI cJ cZ cS ta sa sv H.size h0 ys yk yo yt mk0 yfa yfe mL mS mM yro yhe ygr mF mC mY yta mz f2_769 t2_770 v2_771 w2_772 ywa ybi ysi ynu ymo tp 1 (by omega) (by omega) (by omega) (by omega) (by omega)) kv_X9_278 ⟨rfl, rfl, Nat.le_of_ble_eq_true rfl, Nat.le_of_ble_eq_true rfl⟩ ⟨Nat.le_of_ble_eq_true rfl, Nat.le_of_ble_eq_true rfl⟩ hK hN hZ hP hD hS hA [2, 3] [0, 1] rfl rfl rfl rfl (by decide) 0 rfl rfl rfl rfl hl.1 rfl (Nat.le_of_ble_eq_true rfl) dX9_walkItem_161 (fun u_r_781 H locs hw_r_781 hP hD hS => ?_)
              obtain ⟨f2_782, t2_783, w2_784⟩ := u_r_781
              try dsimp only at hw_r_781
              obtain ⟨i_785, i_786, i_787, i_788, i_789, i_790⟩ := hw_r_781
              have hP : va_P D vwCl [(ys, .inl (cI, 449, .inl ms)), (ywa, .inl (cI, 6, .inl a8)), (h0, .inr (9, [.ref ys, .ref yk, .ref yo, .ref yt, .int mk0, .ref yfa, .ref yfe, .int mL, .int mS, .int mM, .ref yro, .ref yhe, .ref ygr, .int mF, .int mC, .int mY, .ref yta, .int (nI (mz)), .int (nI (f2_782)), .int (nI (t2_783)), .int v2_771, .int w2_784, .ref ywa, .ref ybi, .ref ysi, .ref ynu, .ref ymo])), (yta, .inl (cI, 120, .inl tp))] H := hP
              have hD : va_D A [(ys, .inl (cI, 449, .inl ms)), (ywa, .inl (cI, 6, .inl a8)), (h0, .inr (9, [.ref ys, .ref yk, .ref yo, .ref yt, .int mk0, .ref yfa, .ref yfe, .int mL, .int mS, .int mM, .ref yro, .ref yhe, .ref ygr, .int mF, .int mC, .int mY, .ref yta, .int (nI (mz)), .int (nI (f2_782)), .int (nI (t2_783)), .int v2_771, .int w2_784, .ref ywa, .ref ybi, .ref ysi, .ref ynu, .ref ymo])), (yta, .inl (cI, 120, .inl tp))] := hD
              refine lv_aload_n hx hb dX9_walkItem_164 rfl (lv_at hl 3 rfl) ?_
              refine lv_iconst (v := 0) hx hb dX9_walkItem_165 (by decide) ?_
              refine lv_bipush (v := 99) hx hb dX9_walkItem_166 (by decide) ?_
              refine xc_Vv (wr := [(ys, .inl (cI, 449, .inl ms)), (ywa, .inl (cI, 6, .inl a8))]) hF (c_X9_number l D cI cJ cZ cS ta sa sv H.size h0 ys yk yo yt mk0 yfa yfe mL mS mM yro yhe ygr mF mC mY yta mz f2_782 t2_783 v2_771 w2_784 ywa ybi ysi ynu ymo tp 0 99 (by omega) (by omega) (by omega) (by omega) (by omega)) kv_X9_282 ⟨rfl, rfl, Nat.le_of_ble_eq_true rfl, Nat.le_of_ble_eq_true rfl⟩ ⟨Nat.le_of_ble_eq_true rfl, Nat.le_of_ble_eq_true rfl⟩ hK hN hZ hP hD hS hA [2, 3] [0, 1] rfl rfl rfl rfl (by decide) 0 rfl rfl rfl rfl hl.1 rfl (Nat.le_of_ble_eq_true rfl) dX9_walkItem_168 (fun u_r_791 H locs hw_r_791 hP hD hS => ?_)
              obtain ⟨f2_792, t2_793, v2_794, w2_795⟩ := u_r_791
              try dsimp only at hw_r_791
              obtain ⟨i_796, i_797, i_798, i_799, i_800, i_801⟩ := hw_r_791
              have hP : va_P D vwCl [(ys, .inl (cI, 449, .inl ms)), (ywa, .inl (cI, 6, .inl a8)), (h0, .inr (9, [.ref ys, .ref yk, .ref yo, .ref yt, .int mk0, .ref yfa, .ref yfe, .int mL, .int mS, .int mM, .ref yro, .ref yhe, .ref ygr, .int mF, .int mC, .int mY, .ref yta, .int (nI (mz)), .int (nI (f2_792)), .int (nI (t2_793)), .int v2_794, .int w2_795, .ref ywa, .ref ybi, .ref ysi, .ref ynu, .ref ymo])), (yta, .inl (cI, 120, .inl tp))] H := hP
              have hD : va_D A [(ys, .inl (cI, 449, .inl ms)), (ywa, .inl (cI, 6, .inl a8)), (h0, .inr (9, [.ref ys, .ref yk, .ref yo, .ref yt, .int mk0, .ref yfa, .ref yfe, .int mL, .int mS, .int mM, .ref yro, .ref yhe, .ref ygr, .int mF, .int mC, .int mY, .ref yta, .int (nI (mz)), .int (nI (f2_792)), .int (nI (t2_793)), .int v2_794, .int w2_795, .ref ywa, .ref ybi, .ref ysi, .ref ynu, .ref ymo])), (yta, .inl (cI, 120, .inl tp))] := hD
              refine lv_aload_n hx hb dX9_walkItem_171 rfl (lv_at hl 3 rfl) ?_
              refine xg hF kf_X9_275 hK hP 2 rfl rfl dX9_walkItem_172 ?_
              refine lv_istore_n (lv' := [(3, .int v2_794), (2, .int v2_771), (1, .int (nI (n8))), (0, .ref h0)]) hx hb dX9_walkItem_175 rfl hl (by decide) rfl (fun ls hl => ?_)
              refine lv_aload_n hx hb dX9_walkItem_176 rfl (lv_at hl 3 rfl) ?_
              refine xg hF kf_X9_266 hK hP 2 rfl rfl dX9_walkItem_177 ?_
              refine lv_if_ne (tgt := 252) hx hb dX9_walkItem_180 (by decide) (fun c_802 => ?_) (fun c_802 => absurd rfl (i_767 (i_778 (i_790 (i_801 c_802).1).1).1).2.1)
              exact W.vret hx hb hr (fun t ht hW => ⟨⟨(f2_792, t2_793, v2_794, w2_795, ms, a8, Wn), rfl, ⟨(by first | assumption | omega), (by first | assumption | omega), (by first | assumption | omega), (by first | assumption | omega), (by first | assumption | omega), (fun h => ⟨(i_578 (hc8 (i_767 (i_778 (i_790 (i_801 h).1).1).1).1).1).1, trivial⟩), hs0, hs1, hs2, hsS, hsM, hsp, hsr, hsw, hsR⟩, by rw [ht]; exact hP.sub [2, 0, 3, 1] rfl, hD.sub [2, 0, 3, 1] (by decide) rfl⟩, hS.F ht⟩) hS.2.2 dX9_walkItem_252 hlk
            · skip
              refine lv_if_eq (tgt := 176) hx hb dX9_walkItem_156 (by decide) (fun c_803 => ?_) (fun c_803 => absurd (by decide) c_803)
              refine lv_aload_n hx hb dX9_walkItem_176 rfl (lv_at hl 3 rfl) ?_
              refine xg hF kf_X9_266 hK hP 2 rfl rfl dX9_walkItem_177 ?_
              refine lv_if_ne (tgt := 252) hx hb dX9_walkItem_180 (by decide) (fun c_804 => ?_) (fun c_804 => absurd rfl (i_767 (i_778 c_804).1).2.1)
              exact W.vret hx hb hr (fun t ht hW => ⟨⟨(f2_769, t2_770, v2_771, w2_772, ms, a8, Wn), rfl, ⟨(by first | assumption | omega), (by first | assumption | omega), (by first | assumption | omega), (by first | assumption | omega), (by first | assumption | omega), (fun h => ⟨(i_578 (hc8 (i_767 (i_778 h).1).1).1).1, trivial⟩), hs0, hs1, hs2, hsS, hsM, hsp, hsr, hsw, hsR⟩, by rw [ht]; exact hP.sub [2, 0, 3, 1] rfl, hD.sub [2, 0, 3, 1] (by decide) rfl⟩, hS.F ht⟩) hS.2.2 dX9_walkItem_252 hlk
        · skip
          have nc_675 : n8 < 6 := xn_nle (a := 6) (b := n8) (by omega) (by omega) c_675
          refine lv_iload_n hx hb dX9_walkItem_35 rfl (lv_at hl 0 rfl) ?_
          refine lv_iconst (v := 2) hx hb dX9_walkItem_36 (by decide) ?_
          refine lv_icmp_lt (tgt := 54) hx hb dX9_walkItem_37 (by decide) (fun c_805 => ?_) (fun c_805 => ?_)
          · skip
            have nc_805 : n8 < 2 := xn_lt (a := n8) (b := 2) (by omega) (by omega) c_805
            refine lv_aload_n hx hb dX9_walkItem_54 rfl (lv_at hl 1 rfl) ?_
            refine xc_Vr hF (c_X9_numberHere l D cI cJ cZ cS ta sa sv H.size h0 ys yk yo yt mk0 yfa yfe mL mS mM yro yhe ygr mF mC mY yta mz f8 t8 mv w8 ywa ybi ysi ynu ymo tp (by omega) (by omega) (by omega) (by omega) (by omega)) kv_X9_284 ⟨rfl, rfl, Nat.le_of_ble_eq_true rfl, Nat.le_of_ble_eq_true rfl⟩ ⟨Nat.le_of_ble_eq_true rfl, Nat.le_of_ble_eq_true rfl⟩ hK hN hZ hP hD hS hA [2, 3] rfl rfl 0 rfl rfl rfl rfl hl.1 rfl (Nat.le_of_ble_eq_true rfl) dX9_walkItem_55 (fun r_806 hw_r_806 => ?_)
            refine lv_istore_n (lv' := [(2, .int r_806), (1, .int (nI (n8))), (0, .ref h0)]) hx hb dX9_walkItem_58 rfl hl (by decide) rfl (fun ls hl => ?_)
            refine lv_aload_n hx hb dX9_walkItem_59 rfl (lv_at hl 2 rfl) ?_
            refine lv_aload_n hx hb dX9_walkItem_60 rfl (lv_at hl 2 rfl) ?_
            refine lv_iload_n hx hb dX9_walkItem_61 rfl (lv_at hl 0 rfl) ?_
            refine xc_Vr hF (c_X9_isPlace l D cI cJ cZ cS ta sa sv H.size h0 ys yk yo yt mk0 yfa yfe mL mS mM yro yhe ygr mF mC mY yta mz f8 t8 mv w8 ywa ybi ysi ynu ymo ms P Rn Wn r_806 hs0 hs1 hs2 hsS hsM hsp hsr hsw hsR) kv_X9_61 ⟨rfl, rfl, Nat.le_of_ble_eq_true rfl, Nat.le_of_ble_eq_true rfl⟩ ⟨Nat.le_of_ble_eq_true rfl, Nat.le_of_ble_eq_true rfl⟩ hK hN hZ hP hD hS hA [2, 0] rfl rfl 0 rfl rfl rfl rfl hl.1 rfl (Nat.le_of_ble_eq_true rfl) dX9_walkItem_62 (fun r_807 hw_r_807 => ?_)
            rcases hw_r_807 with ⟨k_808, rfl, rfl, h_810⟩ | rfl
            · skip
              refine lv_if_eq (tgt := 88) hx hb dX9_walkItem_65 (by decide) (fun c_811 => absurd c_811 (by decide)) (fun c_811 => ?_)
              refine lv_iload_n hx hb dX9_walkItem_68 rfl (lv_at hl 1 rfl) ?_
              refine lv_if_eq (tgt := 84) hx hb dX9_walkItem_69 (by decide) (fun c_812 => ?_) (fun c_812 => ?_)
              · skip
                have nc_812 : n8 = 0 := xn_eq (a := n8) (b := 0) (by omega) (by omega) c_812
                refine lv_iconst (v := 1) hx hb dX9_walkItem_84 (by decide) ?_
                refine lv_goto (tgt := 89) hx hb dX9_walkItem_85 (by decide) ?_
                refine xc_Vv (wr := [(ys, .inl (cI, 449, .inl ms)), (ywa, .inl (cI, 6, .inl a8))]) hF (c_X9_needs l D cI cJ cZ cS ta sa sv H.size h0 ys yk yo yt mk0 yfa yfe mL mS mM yro yhe ygr mF mC mY yta mz f8 t8 mv w8 ywa ybi ysi ynu ymo tp 1 (by omega) (by omega) (by omega) (by omega) (by omega)) kv_X9_278 ⟨rfl, rfl, Nat.le_of_ble_eq_true rfl, Nat.le_of_ble_eq_true rfl⟩ ⟨Nat.le_of_ble_eq_true rfl, Nat.le_of_ble_eq_true rfl⟩ hK hN hZ hP hD hS hA [2, 3] [0, 1] rfl rfl rfl rfl (by decide) 0 rfl rfl rfl rfl hl.1 rfl (Nat.le_of_ble_eq_true rfl) dX9_walkItem_89 (fun u_r_813 H locs hw_r_813 hP hD hS => ?_)
                obtain ⟨f2_814, t2_815, w2_816⟩ := u_r_813
                try dsimp only at hw_r_813
                obtain ⟨i_817, i_818, i_819, i_820, i_821, i_822⟩ := hw_r_813
                have hP : va_P D vwCl [(ys, .inl (cI, 449, .inl ms)), (ywa, .inl (cI, 6, .inl a8)), (h0, .inr (9, [.ref ys, .ref yk, .ref yo, .ref yt, .int mk0, .ref yfa, .ref yfe, .int mL, .int mS, .int mM, .ref yro, .ref yhe, .ref ygr, .int mF, .int mC, .int mY, .ref yta, .int (nI (mz)), .int (nI (f2_814)), .int (nI (t2_815)), .int mv, .int w2_816, .ref ywa, .ref ybi, .ref ysi, .ref ynu, .ref ymo])), (yta, .inl (cI, 120, .inl tp))] H := hP
                have hD : va_D A [(ys, .inl (cI, 449, .inl ms)), (ywa, .inl (cI, 6, .inl a8)), (h0, .inr (9, [.ref ys, .ref yk, .ref yo, .ref yt, .int mk0, .ref yfa, .ref yfe, .int mL, .int mS, .int mM, .ref yro, .ref yhe, .ref ygr, .int mF, .int mC, .int mY, .ref yta, .int (nI (mz)), .int (nI (f2_814)), .int (nI (t2_815)), .int mv, .int w2_816, .ref ywa, .ref ybi, .ref ysi, .ref ynu, .ref ymo])), (yta, .inl (cI, 120, .inl tp))] := hD
                refine lv_aload_n hx hb dX9_walkItem_92 rfl (lv_at hl 2 rfl) ?_
                refine xg hF kf_X9_40 hK hP 2 rfl rfl dX9_walkItem_93 ?_
                refine lv_iload_n hx hb dX9_walkItem_96 rfl (lv_at hl 1 rfl) ?_
                refine lv_iload_n hx hb dX9_walkItem_97 rfl (lv_at hl 0 rfl) ?_
                refine va_iast hx hb hK hP hD hS 1 0 rfl rfl (vp_in_nI (show n8 < 6 by omega) (by decide)) dX9_walkItem_98 (fun H locs hP hD hS => ?_)
                rw [nI_clamp (show n8 < 2 ^ 31 by omega)] at hP hD
                obtain ⟨f_823, ef_823⟩ : ∃ g, g = upd a8 n8 (nI (k_808)) := ⟨_, rfl⟩
                rw [← ef_823] at hP hD
                have hP : va_P D vwCl [(ys, .inl (cI, 449, .inl ms)), (ywa, .inl (cI, 6, .inl f_823)), (h0, .inr (9, [.ref ys, .ref yk, .ref yo, .ref yt, .int mk0, .ref yfa, .ref yfe, .int mL, .int mS, .int mM, .ref yro, .ref yhe, .ref ygr, .int mF, .int mC, .int mY, .ref yta, .int (nI (mz)), .int (nI (f2_814)), .int (nI (t2_815)), .int mv, .int w2_816, .ref ywa, .ref ybi, .ref ysi, .ref ynu, .ref ymo])), (yta, .inl (cI, 120, .inl tp))] H := hP
                have hD : va_D A [(ys, .inl (cI, 449, .inl ms)), (ywa, .inl (cI, 6, .inl f_823)), (h0, .inr (9, [.ref ys, .ref yk, .ref yo, .ref yt, .int mk0, .ref yfa, .ref yfe, .int mL, .int mS, .int mM, .ref yro, .ref yhe, .ref ygr, .int mF, .int mC, .int mY, .ref yta, .int (nI (mz)), .int (nI (f2_814)), .int (nI (t2_815)), .int mv, .int w2_816, .ref ywa, .ref ybi, .ref ysi, .ref ynu, .ref ymo])), (yta, .inl (cI, 120, .inl tp))] := hD
                refine lv_iinc (v := nI (n8 + 1)) (lv' := [(1, .int (nI (n8 + 1))), (2, .int (nI (k_808))), (0, .ref h0)]) hx hb dX9_walkItem_99 hl (k := 1) rfl (nI_1 (n8)) (by decide) rfl (fun ls hl => ?_)
                refine lv_goto (tgt := 22) hx hb dX9_walkItem_102 (by decide) ?_
                exact ih_22 (n8 + 1) f2_814 t2_815 w2_816 f_823 _ _ _ (by omega) (by omega) (by omega) (by omega) (by omega) (by omega) (by omega) (fun h => ⟨(hc8 (i_822 h).1).1, trivial⟩) (wk_A.put hA8 c_579 (show k_808 < 10 by omega) ef_823) (hP.sub [0, 1, 2, 3] rfl) (hD.sub [0, 1, 2, 3] (by decide) rfl) hS (lv_sub hl [0, 2] rfl)
              · skip
                have nc_812 : n8 ≠ 0 := xn_ne (a := n8) (b := 0) (by omega) (by omega) c_812
                refine lv_iload_n hx hb dX9_walkItem_72 rfl (lv_at hl 0 rfl) ?_
                refine lv_aload_n hx hb dX9_walkItem_73 rfl (lv_at hl 2 rfl) ?_
                refine xg hF kf_X9_40 hK hP 2 rfl rfl dX9_walkItem_74 ?_
                refine lv_iload_n hx hb dX9_walkItem_77 rfl (lv_at hl 1 rfl) ?_
                refine lv_iconst (v := 1) hx hb dX9_walkItem_78 (by decide) ?_
                refine lv_isub hx hb dX9_walkItem_79 ?_
                refine xl_i (y := nI (n8 - 1)) (pk_sub (show 1 ≤ n8 by omega)) ?_
                refine va_iald hx hb hK hP 1 0 rfl rfl (vp_in_nI (show n8 - 1 < 6 by omega) (by decide)) dX9_walkItem_80 ?_
                refine xl_i (y := a8 (n8 - 1)) (congrArg a8 (nI_clamp (show n8 - 1 < 2 ^ 31 by omega))) ?_
                refine lv_icmp_eq (tgt := 88) hx hb dX9_walkItem_81 (by decide) (fun c_824 => ?_) (fun c_824 => ?_)
                · skip
                  refine lv_iconst (v := 0) hx hb dX9_walkItem_88 (by decide) ?_
                  refine xc_Vv (wr := [(ys, .inl (cI, 449, .inl ms)), (ywa, .inl (cI, 6, .inl a8))]) hF (c_X9_needs l D cI cJ cZ cS ta sa sv H.size h0 ys yk yo yt mk0 yfa yfe mL mS mM yro yhe ygr mF mC mY yta mz f8 t8 mv w8 ywa ybi ysi ynu ymo tp 0 (by omega) (by omega) (by omega) (by omega) (by omega)) kv_X9_278 ⟨rfl, rfl, Nat.le_of_ble_eq_true rfl, Nat.le_of_ble_eq_true rfl⟩ ⟨Nat.le_of_ble_eq_true rfl, Nat.le_of_ble_eq_true rfl⟩ hK hN hZ hP hD hS hA [2, 3] [0, 1] rfl rfl rfl rfl (by decide) 0 rfl rfl rfl rfl hl.1 rfl (Nat.le_of_ble_eq_true rfl) dX9_walkItem_89 (fun u_r_825 H locs hw_r_825 hP hD hS => ?_)
                  obtain ⟨f2_826, t2_827, w2_828⟩ := u_r_825
                  try dsimp only at hw_r_825
                  obtain ⟨i_829, i_830, i_831, i_832, i_833, i_834⟩ := hw_r_825
                  have hP : va_P D vwCl [(ys, .inl (cI, 449, .inl ms)), (ywa, .inl (cI, 6, .inl a8)), (h0, .inr (9, [.ref ys, .ref yk, .ref yo, .ref yt, .int mk0, .ref yfa, .ref yfe, .int mL, .int mS, .int mM, .ref yro, .ref yhe, .ref ygr, .int mF, .int mC, .int mY, .ref yta, .int (nI (mz)), .int (nI (f2_826)), .int (nI (t2_827)), .int mv, .int w2_828, .ref ywa, .ref ybi, .ref ysi, .ref ynu, .ref ymo])), (yta, .inl (cI, 120, .inl tp))] H := hP
                  have hD : va_D A [(ys, .inl (cI, 449, .inl ms)), (ywa, .inl (cI, 6, .inl a8)), (h0, .inr (9, [.ref ys, .ref yk, .ref yo, .ref yt, .int mk0, .ref yfa, .ref yfe, .int mL, .int mS, .int mM, .ref yro, .ref yhe, .ref ygr, .int mF, .int mC, .int mY, .ref yta, .int (nI (mz)), .int (nI (f2_826)), .int (nI (t2_827)), .int mv, .int w2_828, .ref ywa, .ref ybi, .ref ysi, .ref ynu, .ref ymo])), (yta, .inl (cI, 120, .inl tp))] := hD
                  refine lv_aload_n hx hb dX9_walkItem_92 rfl (lv_at hl 2 rfl) ?_
                  refine xg hF kf_X9_40 hK hP 2 rfl rfl dX9_walkItem_93 ?_
                  refine lv_iload_n hx hb dX9_walkItem_96 rfl (lv_at hl 1 rfl) ?_
                  refine lv_iload_n hx hb dX9_walkItem_97 rfl (lv_at hl 0 rfl) ?_
                  refine va_iast hx hb hK hP hD hS 1 0 rfl rfl (vp_in_nI (show n8 < 6 by omega) (by decide)) dX9_walkItem_98 (fun H locs hP hD hS => ?_)
                  rw [nI_clamp (show n8 < 2 ^ 31 by omega)] at hP hD
                  obtain ⟨f_835, ef_835⟩ : ∃ g, g = upd a8 n8 (nI (k_808)) := ⟨_, rfl⟩
                  rw [← ef_835] at hP hD
                  have hP : va_P D vwCl [(ys, .inl (cI, 449, .inl ms)), (ywa, .inl (cI, 6, .inl f_835)), (h0, .inr (9, [.ref ys, .ref yk, .ref yo, .ref yt, .int mk0, .ref yfa, .ref yfe, .int mL, .int mS, .int mM, .ref yro, .ref yhe, .ref ygr, .int mF, .int mC, .int mY, .ref yta, .int (nI (mz)), .int (nI (f2_826)), .int (nI (t2_827)), .int mv, .int w2_828, .ref ywa, .ref ybi, .ref ysi, .ref ynu, .ref ymo])), (yta, .inl (cI, 120, .inl tp))] H := hP
                  have hD : va_D A [(ys, .inl (cI, 449, .inl ms)), (ywa, .inl (cI, 6, .inl f_835)), (h0, .inr (9, [.ref ys, .ref yk, .ref yo, .ref yt, .int mk0, .ref yfa, .ref yfe, .int mL, .int mS, .int mM, .ref yro, .ref yhe, .ref ygr, .int mF, .int mC, .int mY, .ref yta, .int (nI (mz)), .int (nI (f2_826)), .int (nI (t2_827)), .int mv, .int w2_828, .ref ywa, .ref ybi, .ref ysi, .ref ynu, .ref ymo])), (yta, .inl (cI, 120, .inl tp))] := hD
                  refine lv_iinc (v := nI (n8 + 1)) (lv' := [(1, .int (nI (n8 + 1))), (2, .int (nI (k_808))), (0, .ref h0)]) hx hb dX9_walkItem_99 hl (k := 1) rfl (nI_1 (n8)) (by decide) rfl (fun ls hl => ?_)
                  refine lv_goto (tgt := 22) hx hb dX9_walkItem_102 (by decide) ?_
                  exact ih_22 (n8 + 1) f2_826 t2_827 w2_828 f_835 _ _ _ (by omega) (by omega) (by omega) (by omega) (by omega) (by omega) (by omega) (fun h => ⟨(hc8 (i_834 h).1).1, trivial⟩) (wk_A.no (fun h => absurd rfl (i_834 h).2.1)) (hP.sub [0, 1, 2, 3] rfl) (hD.sub [0, 1, 2, 3] (by decide) rfl) hS (lv_sub hl [0, 2] rfl)
                · skip
                  refine lv_iconst (v := 1) hx hb dX9_walkItem_84 (by decide) ?_
                  refine lv_goto (tgt := 89) hx hb dX9_walkItem_85 (by decide) ?_
                  refine xc_Vv (wr := [(ys, .inl (cI, 449, .inl ms)), (ywa, .inl (cI, 6, .inl a8))]) hF (c_X9_needs l D cI cJ cZ cS ta sa sv H.size h0 ys yk yo yt mk0 yfa yfe mL mS mM yro yhe ygr mF mC mY yta mz f8 t8 mv w8 ywa ybi ysi ynu ymo tp 1 (by omega) (by omega) (by omega) (by omega) (by omega)) kv_X9_278 ⟨rfl, rfl, Nat.le_of_ble_eq_true rfl, Nat.le_of_ble_eq_true rfl⟩ ⟨Nat.le_of_ble_eq_true rfl, Nat.le_of_ble_eq_true rfl⟩ hK hN hZ hP hD hS hA [2, 3] [0, 1] rfl rfl rfl rfl (by decide) 0 rfl rfl rfl rfl hl.1 rfl (Nat.le_of_ble_eq_true rfl) dX9_walkItem_89 (fun u_r_836 H locs hw_r_836 hP hD hS => ?_)
                  obtain ⟨f2_837, t2_838, w2_839⟩ := u_r_836
                  try dsimp only at hw_r_836
                  obtain ⟨i_840, i_841, i_842, i_843, i_844, i_845⟩ := hw_r_836
                  have hP : va_P D vwCl [(ys, .inl (cI, 449, .inl ms)), (ywa, .inl (cI, 6, .inl a8)), (h0, .inr (9, [.ref ys, .ref yk, .ref yo, .ref yt, .int mk0, .ref yfa, .ref yfe, .int mL, .int mS, .int mM, .ref yro, .ref yhe, .ref ygr, .int mF, .int mC, .int mY, .ref yta, .int (nI (mz)), .int (nI (f2_837)), .int (nI (t2_838)), .int mv, .int w2_839, .ref ywa, .ref ybi, .ref ysi, .ref ynu, .ref ymo])), (yta, .inl (cI, 120, .inl tp))] H := hP
                  have hD : va_D A [(ys, .inl (cI, 449, .inl ms)), (ywa, .inl (cI, 6, .inl a8)), (h0, .inr (9, [.ref ys, .ref yk, .ref yo, .ref yt, .int mk0, .ref yfa, .ref yfe, .int mL, .int mS, .int mM, .ref yro, .ref yhe, .ref ygr, .int mF, .int mC, .int mY, .ref yta, .int (nI (mz)), .int (nI (f2_837)), .int (nI (t2_838)), .int mv, .int w2_839, .ref ywa, .ref ybi, .ref ysi, .ref ynu, .ref ymo])), (yta, .inl (cI, 120, .inl tp))] := hD
                  refine lv_aload_n hx hb dX9_walkItem_92 rfl (lv_at hl 2 rfl) ?_
                  refine xg hF kf_X9_40 hK hP 2 rfl rfl dX9_walkItem_93 ?_
                  refine lv_iload_n hx hb dX9_walkItem_96 rfl (lv_at hl 1 rfl) ?_
                  refine lv_iload_n hx hb dX9_walkItem_97 rfl (lv_at hl 0 rfl) ?_
                  refine va_iast hx hb hK hP hD hS 1 0 rfl rfl (vp_in_nI (show n8 < 6 by omega) (by decide)) dX9_walkItem_98 (fun H locs hP hD hS => ?_)
                  rw [nI_clamp (show n8 < 2 ^ 31 by omega)] at hP hD
                  obtain ⟨f_846, ef_846⟩ : ∃ g, g = upd a8 n8 (nI (k_808)) := ⟨_, rfl⟩
                  rw [← ef_846] at hP hD
                  have hP : va_P D vwCl [(ys, .inl (cI, 449, .inl ms)), (ywa, .inl (cI, 6, .inl f_846)), (h0, .inr (9, [.ref ys, .ref yk, .ref yo, .ref yt, .int mk0, .ref yfa, .ref yfe, .int mL, .int mS, .int mM, .ref yro, .ref yhe, .ref ygr, .int mF, .int mC, .int mY, .ref yta, .int (nI (mz)), .int (nI (f2_837)), .int (nI (t2_838)), .int mv, .int w2_839, .ref ywa, .ref ybi, .ref ysi, .ref ynu, .ref ymo])), (yta, .inl (cI, 120, .inl tp))] H := hP
                  have hD : va_D A [(ys, .inl (cI, 449, .inl ms)), (ywa, .inl (cI, 6, .inl f_846)), (h0, .inr (9, [.ref ys, .ref yk, .ref yo, .ref yt, .int mk0, .ref yfa, .ref yfe, .int mL, .int mS, .int mM, .ref yro, .ref yhe, .ref ygr, .int mF, .int mC, .int mY, .ref yta, .int (nI (mz)), .int (nI (f2_837)), .int (nI (t2_838)), .int mv, .int w2_839, .ref ywa, .ref ybi, .ref ysi, .ref ynu, .ref ymo])), (yta, .inl (cI, 120, .inl tp))] := hD
                  refine lv_iinc (v := nI (n8 + 1)) (lv' := [(1, .int (nI (n8 + 1))), (2, .int (nI (k_808))), (0, .ref h0)]) hx hb dX9_walkItem_99 hl (k := 1) rfl (nI_1 (n8)) (by decide) rfl (fun ls hl => ?_)
                  refine lv_goto (tgt := 22) hx hb dX9_walkItem_102 (by decide) ?_
                  exact ih_22 (n8 + 1) f2_837 t2_838 w2_839 f_846 _ _ _ (by omega) (by omega) (by omega) (by omega) (by omega) (by omega) (by omega) (fun h => ⟨(hc8 (i_845 h).1).1, trivial⟩) (wk_A.put hA8 c_579 (show k_808 < 10 by omega) ef_846) (hP.sub [0, 1, 2, 3] rfl) (hD.sub [0, 1, 2, 3] (by decide) rfl) hS (lv_sub hl [0, 2] rfl)
            · skip
              refine lv_if_eq (tgt := 88) hx hb dX9_walkItem_65 (by decide) (fun c_847 => ?_) (fun c_847 => absurd (by decide) c_847)
              refine lv_iconst (v := 0) hx hb dX9_walkItem_88 (by decide) ?_
              refine xc_Vv (wr := [(ys, .inl (cI, 449, .inl ms)), (ywa, .inl (cI, 6, .inl a8))]) hF (c_X9_needs l D cI cJ cZ cS ta sa sv H.size h0 ys yk yo yt mk0 yfa yfe mL mS mM yro yhe ygr mF mC mY yta mz f8 t8 mv w8 ywa ybi ysi ynu ymo tp 0 (by omega) (by omega) (by omega) (by omega) (by omega)) kv_X9_278 ⟨rfl, rfl, Nat.le_of_ble_eq_true rfl, Nat.le_of_ble_eq_true rfl⟩ ⟨Nat.le_of_ble_eq_true rfl, Nat.le_of_ble_eq_true rfl⟩ hK hN hZ hP hD hS hA [2, 3] [0, 1] rfl rfl rfl rfl (by decide) 0 rfl rfl rfl rfl hl.1 rfl (Nat.le_of_ble_eq_true rfl) dX9_walkItem_89 (fun u_r_848 H locs hw_r_848 hP hD hS => ?_)
              obtain ⟨f2_849, t2_850, w2_851⟩ := u_r_848
              try dsimp only at hw_r_848
              obtain ⟨i_852, i_853, i_854, i_855, i_856, i_857⟩ := hw_r_848
              have hP : va_P D vwCl [(ys, .inl (cI, 449, .inl ms)), (ywa, .inl (cI, 6, .inl a8)), (h0, .inr (9, [.ref ys, .ref yk, .ref yo, .ref yt, .int mk0, .ref yfa, .ref yfe, .int mL, .int mS, .int mM, .ref yro, .ref yhe, .ref ygr, .int mF, .int mC, .int mY, .ref yta, .int (nI (mz)), .int (nI (f2_849)), .int (nI (t2_850)), .int mv, .int w2_851, .ref ywa, .ref ybi, .ref ysi, .ref ynu, .ref ymo])), (yta, .inl (cI, 120, .inl tp))] H := hP
              have hD : va_D A [(ys, .inl (cI, 449, .inl ms)), (ywa, .inl (cI, 6, .inl a8)), (h0, .inr (9, [.ref ys, .ref yk, .ref yo, .ref yt, .int mk0, .ref yfa, .ref yfe, .int mL, .int mS, .int mM, .ref yro, .ref yhe, .ref ygr, .int mF, .int mC, .int mY, .ref yta, .int (nI (mz)), .int (nI (f2_849)), .int (nI (t2_850)), .int mv, .int w2_851, .ref ywa, .ref ybi, .ref ysi, .ref ynu, .ref ymo])), (yta, .inl (cI, 120, .inl tp))] := hD
              refine lv_aload_n hx hb dX9_walkItem_92 rfl (lv_at hl 2 rfl) ?_
              refine xg hF kf_X9_40 hK hP 2 rfl rfl dX9_walkItem_93 ?_
              refine lv_iload_n hx hb dX9_walkItem_96 rfl (lv_at hl 1 rfl) ?_
              refine lv_iload_n hx hb dX9_walkItem_97 rfl (lv_at hl 0 rfl) ?_
              refine va_iast hx hb hK hP hD hS 1 0 rfl rfl (vp_in_nI (show n8 < 6 by omega) (by decide)) dX9_walkItem_98 (fun H locs hP hD hS => ?_)
              rw [nI_clamp (show n8 < 2 ^ 31 by omega)] at hP hD
              obtain ⟨f_858, ef_858⟩ : ∃ g, g = upd a8 n8 r_806 := ⟨_, rfl⟩
              rw [← ef_858] at hP hD
              have hP : va_P D vwCl [(ys, .inl (cI, 449, .inl ms)), (ywa, .inl (cI, 6, .inl f_858)), (h0, .inr (9, [.ref ys, .ref yk, .ref yo, .ref yt, .int mk0, .ref yfa, .ref yfe, .int mL, .int mS, .int mM, .ref yro, .ref yhe, .ref ygr, .int mF, .int mC, .int mY, .ref yta, .int (nI (mz)), .int (nI (f2_849)), .int (nI (t2_850)), .int mv, .int w2_851, .ref ywa, .ref ybi, .ref ysi, .ref ynu, .ref ymo])), (yta, .inl (cI, 120, .inl tp))] H := hP
              have hD : va_D A [(ys, .inl (cI, 449, .inl ms)), (ywa, .inl (cI, 6, .inl f_858)), (h0, .inr (9, [.ref ys, .ref yk, .ref yo, .ref yt, .int mk0, .ref yfa, .ref yfe, .int mL, .int mS, .int mM, .ref yro, .ref yhe, .ref ygr, .int mF, .int mC, .int mY, .ref yta, .int (nI (mz)), .int (nI (f2_849)), .int (nI (t2_850)), .int mv, .int w2_851, .ref ywa, .ref ybi, .ref ysi, .ref ynu, .ref ymo])), (yta, .inl (cI, 120, .inl tp))] := hD
              refine lv_iinc (v := nI (n8 + 1)) (lv' := [(1, .int (nI (n8 + 1))), (2, .int r_806), (0, .ref h0)]) hx hb dX9_walkItem_99 hl (k := 1) rfl (nI_1 (n8)) (by decide) rfl (fun ls hl => ?_)
              refine lv_goto (tgt := 22) hx hb dX9_walkItem_102 (by decide) ?_
              exact ih_22 (n8 + 1) f2_849 t2_850 w2_851 f_858 _ _ _ (by omega) (by omega) (by omega) (by omega) (by omega) (by omega) (by omega) (fun h => ⟨(hc8 (i_857 h).1).1, trivial⟩) (wk_A.no (fun h => absurd rfl (i_857 h).2.1)) (hP.sub [0, 1, 2, 3] rfl) (hD.sub [0, 1, 2, 3] (by decide) rfl) hS (lv_sub hl [0, 2] rfl)
          · skip
            have nc_805 : 2 ≤ n8 := xn_nlt (a := n8) (b := 2) (by omega) (by omega) c_805
            refine lv_aload_n hx hb dX9_walkItem_40 rfl (lv_at hl 1 rfl) ?_
            refine lv_aload_n hx hb dX9_walkItem_41 rfl (lv_at hl 1 rfl) ?_
            refine xg hF kf_X9_254 hK hP 2 rfl rfl dX9_walkItem_42 ?_
            refine xc_Vr hF (c_X9_byteAt l D cI cJ cZ cS ta sa sv H.size h0 ys yk yo yt mk0 yfa yfe mL mS mM yro yhe ygr mF mC mY yta mz f8 t8 mv w8 ywa ybi ysi ynu ymo tp f8 (by omega) (by omega)) kv_X9_257 ⟨rfl, rfl, Nat.le_of_ble_eq_true rfl, Nat.le_of_ble_eq_true rfl⟩ ⟨Nat.le_of_ble_eq_true rfl, Nat.le_of_ble_eq_true rfl⟩ hK hN hZ hP hD hS hA [2, 3] rfl rfl 0 rfl rfl rfl rfl hl.1 rfl (Nat.le_of_ble_eq_true rfl) dX9_walkItem_45 (fun r_859 hw_r_859 => ?_)
            rcases hw_r_859 with ⟨rfl, h_860⟩ | ⟨rfl, h_861⟩
            · skip
              refine xc_Sr hF (c_X9_isDigit l D cI cJ cZ cS ta sa sv H.size (tp f8) ) ks_X9_263 ⟨rfl, rfl, Nat.le_of_ble_eq_true rfl, Nat.le_of_ble_eq_true rfl⟩ ⟨Nat.le_of_ble_eq_true rfl, Nat.le_of_ble_eq_true rfl⟩ hK hN hZ hP hD hS hA [] rfl rfl rfl hl.1 rfl (Nat.le_of_ble_eq_true rfl) dX9_walkItem_48 (fun r_862 hw_r_862 => ?_)
              rcases hw_r_862 with ⟨rfl, h_863, h_864⟩ | ⟨rfl, h_865⟩
              · skip
                refine lv_if_eq (tgt := 105) hx hb dX9_walkItem_51 (by decide) (fun c_866 => absurd c_866 (by decide)) (fun c_866 => ?_)
                refine lv_aload_n hx hb dX9_walkItem_54 rfl (lv_at hl 1 rfl) ?_
                refine xc_Vr hF (c_X9_numberHere l D cI cJ cZ cS ta sa sv H.size h0 ys yk yo yt mk0 yfa yfe mL mS mM yro yhe ygr mF mC mY yta mz f8 t8 mv w8 ywa ybi ysi ynu ymo tp (by omega) (by omega) (by omega) (by omega) (by omega)) kv_X9_284 ⟨rfl, rfl, Nat.le_of_ble_eq_true rfl, Nat.le_of_ble_eq_true rfl⟩ ⟨Nat.le_of_ble_eq_true rfl, Nat.le_of_ble_eq_true rfl⟩ hK hN hZ hP hD hS hA [2, 3] rfl rfl 0 rfl rfl rfl rfl hl.1 rfl (Nat.le_of_ble_eq_true rfl) dX9_walkItem_55 (fun r_867 hw_r_867 => ?_)
                refine lv_istore_n (lv' := [(2, .int r_867), (1, .int (nI (n8))), (0, .ref h0)]) hx hb dX9_walkItem_58 rfl hl (by decide) rfl (fun ls hl => ?_)
                refine lv_aload_n hx hb dX9_walkItem_59 rfl (lv_at hl 2 rfl) ?_
                refine lv_aload_n hx hb dX9_walkItem_60 rfl (lv_at hl 2 rfl) ?_
                refine lv_iload_n hx hb dX9_walkItem_61 rfl (lv_at hl 0 rfl) ?_
                refine xc_Vr hF (c_X9_isPlace l D cI cJ cZ cS ta sa sv H.size h0 ys yk yo yt mk0 yfa yfe mL mS mM yro yhe ygr mF mC mY yta mz f8 t8 mv w8 ywa ybi ysi ynu ymo ms P Rn Wn r_867 hs0 hs1 hs2 hsS hsM hsp hsr hsw hsR) kv_X9_61 ⟨rfl, rfl, Nat.le_of_ble_eq_true rfl, Nat.le_of_ble_eq_true rfl⟩ ⟨Nat.le_of_ble_eq_true rfl, Nat.le_of_ble_eq_true rfl⟩ hK hN hZ hP hD hS hA [2, 0] rfl rfl 0 rfl rfl rfl rfl hl.1 rfl (Nat.le_of_ble_eq_true rfl) dX9_walkItem_62 (fun r_868 hw_r_868 => ?_)
                rcases hw_r_868 with ⟨k_869, rfl, rfl, h_871⟩ | rfl
                · skip
                  refine lv_if_eq (tgt := 88) hx hb dX9_walkItem_65 (by decide) (fun c_872 => absurd c_872 (by decide)) (fun c_872 => ?_)
                  refine lv_iload_n hx hb dX9_walkItem_68 rfl (lv_at hl 1 rfl) ?_
                  refine lv_if_eq (tgt := 84) hx hb dX9_walkItem_69 (by decide) (fun c_873 => ?_) (fun c_873 => ?_)
                  · skip
                    have nc_873 : n8 = 0 := xn_eq (a := n8) (b := 0) (by omega) (by omega) c_873
                    refine lv_iconst (v := 1) hx hb dX9_walkItem_84 (by decide) ?_
                    refine lv_goto (tgt := 89) hx hb dX9_walkItem_85 (by decide) ?_
                    refine xc_Vv (wr := [(ys, .inl (cI, 449, .inl ms)), (ywa, .inl (cI, 6, .inl a8))]) hF (c_X9_needs l D cI cJ cZ cS ta sa sv H.size h0 ys yk yo yt mk0 yfa yfe mL mS mM yro yhe ygr mF mC mY yta mz f8 t8 mv w8 ywa ybi ysi ynu ymo tp 1 (by omega) (by omega) (by omega) (by omega) (by omega)) kv_X9_278 ⟨rfl, rfl, Nat.le_of_ble_eq_true rfl, Nat.le_of_ble_eq_true rfl⟩ ⟨Nat.le_of_ble_eq_true rfl, Nat.le_of_ble_eq_true rfl⟩ hK hN hZ hP hD hS hA [2, 3] [0, 1] rfl rfl rfl rfl (by decide) 0 rfl rfl rfl rfl hl.1 rfl (Nat.le_of_ble_eq_true rfl) dX9_walkItem_89 (fun u_r_874 H locs hw_r_874 hP hD hS => ?_)
                    obtain ⟨f2_875, t2_876, w2_877⟩ := u_r_874
                    try dsimp only at hw_r_874
                    obtain ⟨i_878, i_879, i_880, i_881, i_882, i_883⟩ := hw_r_874
                    have hP : va_P D vwCl [(ys, .inl (cI, 449, .inl ms)), (ywa, .inl (cI, 6, .inl a8)), (h0, .inr (9, [.ref ys, .ref yk, .ref yo, .ref yt, .int mk0, .ref yfa, .ref yfe, .int mL, .int mS, .int mM, .ref yro, .ref yhe, .ref ygr, .int mF, .int mC, .int mY, .ref yta, .int (nI (mz)), .int (nI (f2_875)), .int (nI (t2_876)), .int mv, .int w2_877, .ref ywa, .ref ybi, .ref ysi, .ref ynu, .ref ymo])), (yta, .inl (cI, 120, .inl tp))] H := hP
                    have hD : va_D A [(ys, .inl (cI, 449, .inl ms)), (ywa, .inl (cI, 6, .inl a8)), (h0, .inr (9, [.ref ys, .ref yk, .ref yo, .ref yt, .int mk0, .ref yfa, .ref yfe, .int mL, .int mS, .int mM, .ref yro, .ref yhe, .ref ygr, .int mF, .int mC, .int mY, .ref yta, .int (nI (mz)), .int (nI (f2_875)), .int (nI (t2_876)), .int mv, .int w2_877, .ref ywa, .ref ybi, .ref ysi, .ref ynu, .ref ymo])), (yta, .inl (cI, 120, .inl tp))] := hD
                    refine lv_aload_n hx hb dX9_walkItem_92 rfl (lv_at hl 2 rfl) ?_
                    refine xg hF kf_X9_40 hK hP 2 rfl rfl dX9_walkItem_93 ?_
                    refine lv_iload_n hx hb dX9_walkItem_96 rfl (lv_at hl 1 rfl) ?_
                    refine lv_iload_n hx hb dX9_walkItem_97 rfl (lv_at hl 0 rfl) ?_
                    refine va_iast hx hb hK hP hD hS 1 0 rfl rfl (vp_in_nI (show n8 < 6 by omega) (by decide)) dX9_walkItem_98 (fun H locs hP hD hS => ?_)
                    rw [nI_clamp (show n8 < 2 ^ 31 by omega)] at hP hD
                    obtain ⟨f_884, ef_884⟩ : ∃ g, g = upd a8 n8 (nI (k_869)) := ⟨_, rfl⟩
                    rw [← ef_884] at hP hD
                    have hP : va_P D vwCl [(ys, .inl (cI, 449, .inl ms)), (ywa, .inl (cI, 6, .inl f_884)), (h0, .inr (9, [.ref ys, .ref yk, .ref yo, .ref yt, .int mk0, .ref yfa, .ref yfe, .int mL, .int mS, .int mM, .ref yro, .ref yhe, .ref ygr, .int mF, .int mC, .int mY, .ref yta, .int (nI (mz)), .int (nI (f2_875)), .int (nI (t2_876)), .int mv, .int w2_877, .ref ywa, .ref ybi, .ref ysi, .ref ynu, .ref ymo])), (yta, .inl (cI, 120, .inl tp))] H := hP
                    have hD : va_D A [(ys, .inl (cI, 449, .inl ms)), (ywa, .inl (cI, 6, .inl f_884)), (h0, .inr (9, [.ref ys, .ref yk, .ref yo, .ref yt, .int mk0, .ref yfa, .ref yfe, .int mL, .int mS, .int mM, .ref yro, .ref yhe, .ref ygr, .int mF, .int mC, .int mY, .ref yta, .int (nI (mz)), .int (nI (f2_875)), .int (nI (t2_876)), .int mv, .int w2_877, .ref ywa, .ref ybi, .ref ysi, .ref ynu, .ref ymo])), (yta, .inl (cI, 120, .inl tp))] := hD
                    refine lv_iinc (v := nI (n8 + 1)) (lv' := [(1, .int (nI (n8 + 1))), (2, .int (nI (k_869))), (0, .ref h0)]) hx hb dX9_walkItem_99 hl (k := 1) rfl (nI_1 (n8)) (by decide) rfl (fun ls hl => ?_)
                    refine lv_goto (tgt := 22) hx hb dX9_walkItem_102 (by decide) ?_
                    exact ih_22 (n8 + 1) f2_875 t2_876 w2_877 f_884 _ _ _ (by omega) (by omega) (by omega) (by omega) (by omega) (by omega) (by omega) (fun h => ⟨(hc8 (i_883 h).1).1, trivial⟩) (wk_A.put hA8 c_579 (show k_869 < 10 by omega) ef_884) (hP.sub [0, 1, 2, 3] rfl) (hD.sub [0, 1, 2, 3] (by decide) rfl) hS (lv_sub hl [0, 2] rfl)
                  · skip
                    have nc_873 : n8 ≠ 0 := xn_ne (a := n8) (b := 0) (by omega) (by omega) c_873
                    refine lv_iload_n hx hb dX9_walkItem_72 rfl (lv_at hl 0 rfl) ?_
                    refine lv_aload_n hx hb dX9_walkItem_73 rfl (lv_at hl 2 rfl) ?_
                    refine xg hF kf_X9_40 hK hP 2 rfl rfl dX9_walkItem_74 ?_
                    refine lv_iload_n hx hb dX9_walkItem_77 rfl (lv_at hl 1 rfl) ?_
                    refine lv_iconst (v := 1) hx hb dX9_walkItem_78 (by decide) ?_
                    refine lv_isub hx hb dX9_walkItem_79 ?_
                    refine xl_i (y := nI (n8 - 1)) (pk_sub (show 1 ≤ n8 by omega)) ?_
                    refine va_iald hx hb hK hP 1 0 rfl rfl (vp_in_nI (show n8 - 1 < 6 by omega) (by decide)) dX9_walkItem_80 ?_
                    refine xl_i (y := a8 (n8 - 1)) (congrArg a8 (nI_clamp (show n8 - 1 < 2 ^ 31 by omega))) ?_
                    refine lv_icmp_eq (tgt := 88) hx hb dX9_walkItem_81 (by decide) (fun c_885 => ?_) (fun c_885 => ?_)
                    · skip
                      refine lv_iconst (v := 0) hx hb dX9_walkItem_88 (by decide) ?_
                      refine xc_Vv (wr := [(ys, .inl (cI, 449, .inl ms)), (ywa, .inl (cI, 6, .inl a8))]) hF (c_X9_needs l D cI cJ cZ cS ta sa sv H.size h0 ys yk yo yt mk0 yfa yfe mL mS mM yro yhe ygr mF mC mY yta mz f8 t8 mv w8 ywa ybi ysi ynu ymo tp 0 (by omega) (by omega) (by omega) (by omega) (by omega)) kv_X9_278 ⟨rfl, rfl, Nat.le_of_ble_eq_true rfl, Nat.le_of_ble_eq_true rfl⟩ ⟨Nat.le_of_ble_eq_true rfl, Nat.le_of_ble_eq_true rfl⟩ hK hN hZ hP hD hS hA [2, 3] [0, 1] rfl rfl rfl rfl (by decide) 0 rfl rfl rfl rfl hl.1 rfl (Nat.le_of_ble_eq_true rfl) dX9_walkItem_89 (fun u_r_886 H locs hw_r_886 hP hD hS => ?_)
                      obtain ⟨f2_887, t2_888, w2_889⟩ := u_r_886
                      try dsimp only at hw_r_886
                      obtain ⟨i_890, i_891, i_892, i_893, i_894, i_895⟩ := hw_r_886
                      have hP : va_P D vwCl [(ys, .inl (cI, 449, .inl ms)), (ywa, .inl (cI, 6, .inl a8)), (h0, .inr (9, [.ref ys, .ref yk, .ref yo, .ref yt, .int mk0, .ref yfa, .ref yfe, .int mL, .int mS, .int mM, .ref yro, .ref yhe, .ref ygr, .int mF, .int mC, .int mY, .ref yta, .int (nI (mz)), .int (nI (f2_887)), .int (nI (t2_888)), .int mv, .int w2_889, .ref ywa, .ref ybi, .ref ysi, .ref ynu, .ref ymo])), (yta, .inl (cI, 120, .inl tp))] H := hP
                      have hD : va_D A [(ys, .inl (cI, 449, .inl ms)), (ywa, .inl (cI, 6, .inl a8)), (h0, .inr (9, [.ref ys, .ref yk, .ref yo, .ref yt, .int mk0, .ref yfa, .ref yfe, .int mL, .int mS, .int mM, .ref yro, .ref yhe, .ref ygr, .int mF, .int mC, .int mY, .ref yta, .int (nI (mz)), .int (nI (f2_887)), .int (nI (t2_888)), .int mv, .int w2_889, .ref ywa, .ref ybi, .ref ysi, .ref ynu, .ref ymo])), (yta, .inl (cI, 120, .inl tp))] := hD
                      refine lv_aload_n hx hb dX9_walkItem_92 rfl (lv_at hl 2 rfl) ?_
                      refine xg hF kf_X9_40 hK hP 2 rfl rfl dX9_walkItem_93 ?_
                      refine lv_iload_n hx hb dX9_walkItem_96 rfl (lv_at hl 1 rfl) ?_
                      refine lv_iload_n hx hb dX9_walkItem_97 rfl (lv_at hl 0 rfl) ?_
                      refine va_iast hx hb hK hP hD hS 1 0 rfl rfl (vp_in_nI (show n8 < 6 by omega) (by decide)) dX9_walkItem_98 (fun H locs hP hD hS => ?_)
                      rw [nI_clamp (show n8 < 2 ^ 31 by omega)] at hP hD
                      obtain ⟨f_896, ef_896⟩ : ∃ g, g = upd a8 n8 (nI (k_869)) := ⟨_, rfl⟩
                      rw [← ef_896] at hP hD
                      have hP : va_P D vwCl [(ys, .inl (cI, 449, .inl ms)), (ywa, .inl (cI, 6, .inl f_896)), (h0, .inr (9, [.ref ys, .ref yk, .ref yo, .ref yt, .int mk0, .ref yfa, .ref yfe, .int mL, .int mS, .int mM, .ref yro, .ref yhe, .ref ygr, .int mF, .int mC, .int mY, .ref yta, .int (nI (mz)), .int (nI (f2_887)), .int (nI (t2_888)), .int mv, .int w2_889, .ref ywa, .ref ybi, .ref ysi, .ref ynu, .ref ymo])), (yta, .inl (cI, 120, .inl tp))] H := hP
                      have hD : va_D A [(ys, .inl (cI, 449, .inl ms)), (ywa, .inl (cI, 6, .inl f_896)), (h0, .inr (9, [.ref ys, .ref yk, .ref yo, .ref yt, .int mk0, .ref yfa, .ref yfe, .int mL, .int mS, .int mM, .ref yro, .ref yhe, .ref ygr, .int mF, .int mC, .int mY, .ref yta, .int (nI (mz)), .int (nI (f2_887)), .int (nI (t2_888)), .int mv, .int w2_889, .ref ywa, .ref ybi, .ref ysi, .ref ynu, .ref ymo])), (yta, .inl (cI, 120, .inl tp))] := hD
                      refine lv_iinc (v := nI (n8 + 1)) (lv' := [(1, .int (nI (n8 + 1))), (2, .int (nI (k_869))), (0, .ref h0)]) hx hb dX9_walkItem_99 hl (k := 1) rfl (nI_1 (n8)) (by decide) rfl (fun ls hl => ?_)
                      refine lv_goto (tgt := 22) hx hb dX9_walkItem_102 (by decide) ?_
                      exact ih_22 (n8 + 1) f2_887 t2_888 w2_889 f_896 _ _ _ (by omega) (by omega) (by omega) (by omega) (by omega) (by omega) (by omega) (fun h => ⟨(hc8 (i_895 h).1).1, trivial⟩) (wk_A.no (fun h => absurd rfl (i_895 h).2.1)) (hP.sub [0, 1, 2, 3] rfl) (hD.sub [0, 1, 2, 3] (by decide) rfl) hS (lv_sub hl [0, 2] rfl)
                    · skip
                      refine lv_iconst (v := 1) hx hb dX9_walkItem_84 (by decide) ?_
                      refine lv_goto (tgt := 89) hx hb dX9_walkItem_85 (by decide) ?_
                      refine xc_Vv (wr := [(ys, .inl (cI, 449, .inl ms)), (ywa, .inl (cI, 6, .inl a8))]) hF (c_X9_needs l D cI cJ cZ cS ta sa sv H.size h0 ys yk yo yt mk0 yfa yfe mL mS mM yro yhe ygr mF mC mY yta mz f8 t8 mv w8 ywa ybi ysi ynu ymo tp 1 (by omega) (by omega) (by omega) (by omega) (by omega)) kv_X9_278 ⟨rfl, rfl, Nat.le_of_ble_eq_true rfl, Nat.le_of_ble_eq_true rfl⟩ ⟨Nat.le_of_ble_eq_true rfl, Nat.le_of_ble_eq_true rfl⟩ hK hN hZ hP hD hS hA [2, 3] [0, 1] rfl rfl rfl rfl (by decide) 0 rfl rfl rfl rfl hl.1 rfl (Nat.le_of_ble_eq_true rfl) dX9_walkItem_89 (fun u_r_897 H locs hw_r_897 hP hD hS => ?_)
                      obtain ⟨f2_898, t2_899, w2_900⟩ := u_r_897
                      try dsimp only at hw_r_897
                      obtain ⟨i_901, i_902, i_903, i_904, i_905, i_906⟩ := hw_r_897
                      have hP : va_P D vwCl [(ys, .inl (cI, 449, .inl ms)), (ywa, .inl (cI, 6, .inl a8)), (h0, .inr (9, [.ref ys, .ref yk, .ref yo, .ref yt, .int mk0, .ref yfa, .ref yfe, .int mL, .int mS, .int mM, .ref yro, .ref yhe, .ref ygr, .int mF, .int mC, .int mY, .ref yta, .int (nI (mz)), .int (nI (f2_898)), .int (nI (t2_899)), .int mv, .int w2_900, .ref ywa, .ref ybi, .ref ysi, .ref ynu, .ref ymo])), (yta, .inl (cI, 120, .inl tp))] H := hP
                      have hD : va_D A [(ys, .inl (cI, 449, .inl ms)), (ywa, .inl (cI, 6, .inl a8)), (h0, .inr (9, [.ref ys, .ref yk, .ref yo, .ref yt, .int mk0, .ref yfa, .ref yfe, .int mL, .int mS, .int mM, .ref yro, .ref yhe, .ref ygr, .int mF, .int mC, .int mY, .ref yta, .int (nI (mz)), .int (nI (f2_898)), .int (nI (t2_899)), .int mv, .int w2_900, .ref ywa, .ref ybi, .ref ysi, .ref ynu, .ref ymo])), (yta, .inl (cI, 120, .inl tp))] := hD
                      refine lv_aload_n hx hb dX9_walkItem_92 rfl (lv_at hl 2 rfl) ?_
                      refine xg hF kf_X9_40 hK hP 2 rfl rfl dX9_walkItem_93 ?_
                      refine lv_iload_n hx hb dX9_walkItem_96 rfl (lv_at hl 1 rfl) ?_
                      refine lv_iload_n hx hb dX9_walkItem_97 rfl (lv_at hl 0 rfl) ?_
                      refine va_iast hx hb hK hP hD hS 1 0 rfl rfl (vp_in_nI (show n8 < 6 by omega) (by decide)) dX9_walkItem_98 (fun H locs hP hD hS => ?_)
                      rw [nI_clamp (show n8 < 2 ^ 31 by omega)] at hP hD
                      obtain ⟨f_907, ef_907⟩ : ∃ g, g = upd a8 n8 (nI (k_869)) := ⟨_, rfl⟩
                      rw [← ef_907] at hP hD
                      have hP : va_P D vwCl [(ys, .inl (cI, 449, .inl ms)), (ywa, .inl (cI, 6, .inl f_907)), (h0, .inr (9, [.ref ys, .ref yk, .ref yo, .ref yt, .int mk0, .ref yfa, .ref yfe, .int mL, .int mS, .int mM, .ref yro, .ref yhe, .ref ygr, .int mF, .int mC, .int mY, .ref yta, .int (nI (mz)), .int (nI (f2_898)), .int (nI (t2_899)), .int mv, .int w2_900, .ref ywa, .ref ybi, .ref ysi, .ref ynu, .ref ymo])), (yta, .inl (cI, 120, .inl tp))] H := hP
                      have hD : va_D A [(ys, .inl (cI, 449, .inl ms)), (ywa, .inl (cI, 6, .inl f_907)), (h0, .inr (9, [.ref ys, .ref yk, .ref yo, .ref yt, .int mk0, .ref yfa, .ref yfe, .int mL, .int mS, .int mM, .ref yro, .ref yhe, .ref ygr, .int mF, .int mC, .int mY, .ref yta, .int (nI (mz)), .int (nI (f2_898)), .int (nI (t2_899)), .int mv, .int w2_900, .ref ywa, .ref ybi, .ref ysi, .ref ynu, .ref ymo])), (yta, .inl (cI, 120, .inl tp))] := hD
                      refine lv_iinc (v := nI (n8 + 1)) (lv' := [(1, .int (nI (n8 + 1))), (2, .int (nI (k_869))), (0, .ref h0)]) hx hb dX9_walkItem_99 hl (k := 1) rfl (nI_1 (n8)) (by decide) rfl (fun ls hl => ?_)
                      refine lv_goto (tgt := 22) hx hb dX9_walkItem_102 (by decide) ?_
                      exact ih_22 (n8 + 1) f2_898 t2_899 w2_900 f_907 _ _ _ (by omega) (by omega) (by omega) (by omega) (by omega) (by omega) (by omega) (fun h => ⟨(hc8 (i_906 h).1).1, trivial⟩) (wk_A.put hA8 c_579 (show k_869 < 10 by omega) ef_907) (hP.sub [0, 1, 2, 3] rfl) (hD.sub [0, 1, 2, 3] (by decide) rfl) hS (lv_sub hl [0, 2] rfl)
                · skip
                  refine lv_if_eq (tgt := 88) hx hb dX9_walkItem_65 (by decide) (fun c_908 => ?_) (fun c_908 => absurd (by decide) c_908)
                  refine lv_iconst (v := 0) hx hb dX9_walkItem_88 (by decide) ?_
                  refine xc_Vv (wr := [(ys, .inl (cI, 449, .inl ms)), (ywa, .inl (cI, 6, .inl a8))]) hF (c_X9_needs l D cI cJ cZ cS ta sa sv H.size h0 ys yk yo yt mk0 yfa yfe mL mS mM yro yhe ygr mF mC mY yta mz f8 t8 mv w8 ywa ybi ysi ynu ymo tp 0 (by omega) (by omega) (by omega) (by omega) (by omega)) kv_X9_278 ⟨rfl, rfl, Nat.le_of_ble_eq_true rfl, Nat.le_of_ble_eq_true rfl⟩ ⟨Nat.le_of_ble_eq_true rfl, Nat.le_of_ble_eq_true rfl⟩ hK hN hZ hP hD hS hA [2, 3] [0, 1] rfl rfl rfl rfl (by decide) 0 rfl rfl rfl rfl hl.1 rfl (Nat.le_of_ble_eq_true rfl) dX9_walkItem_89 (fun u_r_909 H locs hw_r_909 hP hD hS => ?_)
                  obtain ⟨f2_910, t2_911, w2_912⟩ := u_r_909
                  try dsimp only at hw_r_909
                  obtain ⟨i_913, i_914, i_915, i_916, i_917, i_918⟩ := hw_r_909
                  have hP : va_P D vwCl [(ys, .inl (cI, 449, .inl ms)), (ywa, .inl (cI, 6, .inl a8)), (h0, .inr (9, [.ref ys, .ref yk, .ref yo, .ref yt, .int mk0, .ref yfa, .ref yfe, .int mL, .int mS, .int mM, .ref yro, .ref yhe, .ref ygr, .int mF, .int mC, .int mY, .ref yta, .int (nI (mz)), .int (nI (f2_910)), .int (nI (t2_911)), .int mv, .int w2_912, .ref ywa, .ref ybi, .ref ysi, .ref ynu, .ref ymo])), (yta, .inl (cI, 120, .inl tp))] H := hP
                  have hD : va_D A [(ys, .inl (cI, 449, .inl ms)), (ywa, .inl (cI, 6, .inl a8)), (h0, .inr (9, [.ref ys, .ref yk, .ref yo, .ref yt, .int mk0, .ref yfa, .ref yfe, .int mL, .int mS, .int mM, .ref yro, .ref yhe, .ref ygr, .int mF, .int mC, .int mY, .ref yta, .int (nI (mz)), .int (nI (f2_910)), .int (nI (t2_911)), .int mv, .int w2_912, .ref ywa, .ref ybi, .ref ysi, .ref ynu, .ref ymo])), (yta, .inl (cI, 120, .inl tp))] := hD
                  refine lv_aload_n hx hb dX9_walkItem_92 rfl (lv_at hl 2 rfl) ?_
                  refine xg hF kf_X9_40 hK hP 2 rfl rfl dX9_walkItem_93 ?_
                  refine lv_iload_n hx hb dX9_walkItem_96 rfl (lv_at hl 1 rfl) ?_
                  refine lv_iload_n hx hb dX9_walkItem_97 rfl (lv_at hl 0 rfl) ?_
                  refine va_iast hx hb hK hP hD hS 1 0 rfl rfl (vp_in_nI (show n8 < 6 by omega) (by decide)) dX9_walkItem_98 (fun H locs hP hD hS => ?_)
                  rw [nI_clamp (show n8 < 2 ^ 31 by omega)] at hP hD
                  obtain ⟨f_919, ef_919⟩ : ∃ g, g = upd a8 n8 r_867 := ⟨_, rfl⟩
                  rw [← ef_919] at hP hD
                  have hP : va_P D vwCl [(ys, .inl (cI, 449, .inl ms)), (ywa, .inl (cI, 6, .inl f_919)), (h0, .inr (9, [.ref ys, .ref yk, .ref yo, .ref yt, .int mk0, .ref yfa, .ref yfe, .int mL, .int mS, .int mM, .ref yro, .ref yhe, .ref ygr, .int mF, .int mC, .int mY, .ref yta, .int (nI (mz)), .int (nI (f2_910)), .int (nI (t2_911)), .int mv, .int w2_912, .ref ywa, .ref ybi, .ref ysi, .ref ynu, .ref ymo])), (yta, .inl (cI, 120, .inl tp))] H := hP
                  have hD : va_D A [(ys, .inl (cI, 449, .inl ms)), (ywa, .inl (cI, 6, .inl f_919)), (h0, .inr (9, [.ref ys, .ref yk, .ref yo, .ref yt, .int mk0, .ref yfa, .ref yfe, .int mL, .int mS, .int mM, .ref yro, .ref yhe, .ref ygr, .int mF, .int mC, .int mY, .ref yta, .int (nI (mz)), .int (nI (f2_910)), .int (nI (t2_911)), .int mv, .int w2_912, .ref ywa, .ref ybi, .ref ysi, .ref ynu, .ref ymo])), (yta, .inl (cI, 120, .inl tp))] := hD
                  refine lv_iinc (v := nI (n8 + 1)) (lv' := [(1, .int (nI (n8 + 1))), (2, .int r_867), (0, .ref h0)]) hx hb dX9_walkItem_99 hl (k := 1) rfl (nI_1 (n8)) (by decide) rfl (fun ls hl => ?_)
                  refine lv_goto (tgt := 22) hx hb dX9_walkItem_102 (by decide) ?_
                  exact ih_22 (n8 + 1) f2_910 t2_911 w2_912 f_919 _ _ _ (by omega) (by omega) (by omega) (by omega) (by omega) (by omega) (by omega) (fun h => ⟨(hc8 (i_918 h).1).1, trivial⟩) (wk_A.no (fun h => absurd rfl (i_918 h).2.1)) (hP.sub [0, 1, 2, 3] rfl) (hD.sub [0, 1, 2, 3] (by decide) rfl) hS (lv_sub hl [0, 2] rfl)
              · skip
                refine lv_if_eq (tgt := 105) hx hb dX9_walkItem_51 (by decide) (fun c_920 => ?_) (fun c_920 => absurd (by decide) c_920)
                refine lv_aload_n hx hb dX9_walkItem_105 rfl (lv_at hl 1 rfl) ?_
                refine lv_aload_n hx hb dX9_walkItem_106 rfl (lv_at hl 1 rfl) ?_
                refine lv_bipush (v := 97) hx hb dX9_walkItem_107 (by decide) ?_
                refine lv_bipush (v := 108) hx hb dX9_walkItem_109 (by decide) ?_
                refine lv_bipush (v := 108) hx hb dX9_walkItem_111 (by decide) ?_
                refine lv_iconst (v := 0) hx hb dX9_walkItem_113 (by decide) ?_
                refine lv_iconst (v := 0) hx hb dX9_walkItem_114 (by decide) ?_
                refine lv_iconst (v := 0) hx hb dX9_walkItem_115 (by decide) ?_
                refine lv_iconst (v := 0) hx hb dX9_walkItem_116 (by decide) ?_
                refine xc_Vr hF (c_X9_isWord l D cI cJ cZ cS ta sa sv H.size h0 ys yk yo yt mk0 yfa yfe mL mS mM yro yhe ygr mF mC mY yta mz f8 t8 mv w8 ywa ybi ysi ynu ymo tp 97 108 108 0 0 0 0 (by omega) (by omega)) kv_X9_290 ⟨rfl, rfl, Nat.le_of_ble_eq_true rfl, Nat.le_of_ble_eq_true rfl⟩ ⟨Nat.le_of_ble_eq_true rfl, Nat.le_of_ble_eq_true rfl⟩ hK hN hZ hP hD hS hA [2, 3] rfl rfl 0 rfl rfl rfl rfl hl.1 rfl (Nat.le_of_ble_eq_true rfl) dX9_walkItem_117 (fun r_921 hw_r_921 => ?_)
                rcases hw_r_921 with rfl | rfl
                · skip
                  refine xc_Vv (wr := [(ys, .inl (cI, 449, .inl ms)), (ywa, .inl (cI, 6, .inl a8))]) hF (c_X9_needs l D cI cJ cZ cS ta sa sv H.size h0 ys yk yo yt mk0 yfa yfe mL mS mM yro yhe ygr mF mC mY yta mz f8 t8 mv w8 ywa ybi ysi ynu ymo tp 1 (by omega) (by omega) (by omega) (by omega) (by omega)) kv_X9_278 ⟨rfl, rfl, Nat.le_of_ble_eq_true rfl, Nat.le_of_ble_eq_true rfl⟩ ⟨Nat.le_of_ble_eq_true rfl, Nat.le_of_ble_eq_true rfl⟩ hK hN hZ hP hD hS hA [2, 3] [0, 1] rfl rfl rfl rfl (by decide) 0 rfl rfl rfl rfl hl.1 rfl (Nat.le_of_ble_eq_true rfl) dX9_walkItem_120 (fun u_r_922 H locs hw_r_922 hP hD hS => ?_)
                  obtain ⟨f2_923, t2_924, w2_925⟩ := u_r_922
                  try dsimp only at hw_r_922
                  obtain ⟨i_926, i_927, i_928, i_929, i_930, i_931⟩ := hw_r_922
                  have hP : va_P D vwCl [(ys, .inl (cI, 449, .inl ms)), (ywa, .inl (cI, 6, .inl a8)), (h0, .inr (9, [.ref ys, .ref yk, .ref yo, .ref yt, .int mk0, .ref yfa, .ref yfe, .int mL, .int mS, .int mM, .ref yro, .ref yhe, .ref ygr, .int mF, .int mC, .int mY, .ref yta, .int (nI (mz)), .int (nI (f2_923)), .int (nI (t2_924)), .int mv, .int w2_925, .ref ywa, .ref ybi, .ref ysi, .ref ynu, .ref ymo])), (yta, .inl (cI, 120, .inl tp))] H := hP
                  have hD : va_D A [(ys, .inl (cI, 449, .inl ms)), (ywa, .inl (cI, 6, .inl a8)), (h0, .inr (9, [.ref ys, .ref yk, .ref yo, .ref yt, .int mk0, .ref yfa, .ref yfe, .int mL, .int mS, .int mM, .ref yro, .ref yhe, .ref ygr, .int mF, .int mC, .int mY, .ref yta, .int (nI (mz)), .int (nI (f2_923)), .int (nI (t2_924)), .int mv, .int w2_925, .ref ywa, .ref ybi, .ref ysi, .ref ynu, .ref ymo])), (yta, .inl (cI, 120, .inl tp))] := hD
                  refine lv_aload_n hx hb dX9_walkItem_123 rfl (lv_at hl 1 rfl) ?_
                  refine lv_sipush (v := (-9999)) hx hb dX9_walkItem_124 (by decide) ?_
                  refine lv_sipush (v := 9999) hx hb dX9_walkItem_127 (by decide) ?_
                  refine xc_Vv (wr := [(ys, .inl (cI, 449, .inl ms)), (ywa, .inl (cI, 6, .inl a8))]) hF (c_X9_mile l D cI cJ cZ cS ta sa sv H.size h0 ys yk yo yt mk0 yfa yfe mL mS mM yro yhe ygr mF mC mY yta mz f2_923 t2_924 mv w2_925 ywa ybi ysi ynu ymo tp (-9999) 9999 (by omega) (by omega) (by omega) (by omega) (by omega)) kv_X9_287 ⟨rfl, rfl, Nat.le_of_ble_eq_true rfl, Nat.le_of_ble_eq_true rfl⟩ ⟨Nat.le_of_ble_eq_true rfl, Nat.le_of_ble_eq_true rfl⟩ hK hN hZ hP hD hS hA [2, 3] [0, 1] rfl rfl rfl rfl (by decide) 0 rfl rfl rfl rfl hl.1 rfl (Nat.le_of_ble_eq_true rfl) dX9_walkItem_130 (fun u_r_932 H locs hw_r_932 hP hD hS => ?_)
                  obtain ⟨f2_933, t2_934, v2_935, w2_936⟩ := u_r_932
                  try dsimp only at hw_r_932
                  obtain ⟨i_937, i_938, i_939, i_940, i_941, i_942⟩ := hw_r_932
                  have hP : va_P D vwCl [(ys, .inl (cI, 449, .inl ms)), (ywa, .inl (cI, 6, .inl a8)), (h0, .inr (9, [.ref ys, .ref yk, .ref yo, .ref yt, .int mk0, .ref yfa, .ref yfe, .int mL, .int mS, .int mM, .ref yro, .ref yhe, .ref ygr, .int mF, .int mC, .int mY, .ref yta, .int (nI (mz)), .int (nI (f2_933)), .int (nI (t2_934)), .int v2_935, .int w2_936, .ref ywa, .ref ybi, .ref ysi, .ref ynu, .ref ymo])), (yta, .inl (cI, 120, .inl tp))] H := hP
                  have hD : va_D A [(ys, .inl (cI, 449, .inl ms)), (ywa, .inl (cI, 6, .inl a8)), (h0, .inr (9, [.ref ys, .ref yk, .ref yo, .ref yt, .int mk0, .ref yfa, .ref yfe, .int mL, .int mS, .int mM, .ref yro, .ref yhe, .ref ygr, .int mF, .int mC, .int mY, .ref yta, .int (nI (mz)), .int (nI (f2_933)), .int (nI (t2_934)), .int v2_935, .int w2_936, .ref ywa, .ref ybi, .ref ysi, .ref ynu, .ref ymo])), (yta, .inl (cI, 120, .inl tp))] := hD
                  refine lv_aload_n hx hb dX9_walkItem_133 rfl (lv_at hl 1 rfl) ?_
                  refine xg hF kf_X9_275 hK hP 2 rfl rfl dX9_walkItem_134 ?_
                  refine lv_istore_n (lv' := [(2, .int v2_935), (1, .int (nI (n8))), (0, .ref h0)]) hx hb dX9_walkItem_137 rfl hl (by decide) rfl (fun ls hl => ?_)
                  refine lv_iconst (v := 0) hx hb dX9_walkItem_138 (by decide) ?_
                  refine lv_istore_n (lv' := [(3, .int 0), (2, .int v2_935), (1, .int (nI (n8))), (0, .ref h0)]) hx hb dX9_walkItem_139 rfl hl (by decide) rfl (fun ls hl => ?_)
                  refine lv_aload_n hx hb dX9_walkItem_140 rfl (lv_at hl 3 rfl) ?_
                  refine lv_bipush (v := 115) hx hb dX9_walkItem_141 (by decide) ?_
                  refine lv_bipush (v := 108) hx hb dX9_walkItem_143 (by decide) ?_
                  refine lv_bipush (v := 97) hx hb dX9_walkItem_145 (by decide) ?_
                  refine lv_bipush (v := 99) hx hb dX9_walkItem_147 (by decide) ?_
                  refine lv_bipush (v := 107) hx hb dX9_walkItem_149 (by decide) ?_
                  refine lv_iconst (v := 0) hx hb dX9_walkItem_151 (by decide) ?_
                  refine lv_iconst (v := 0) hx hb dX9_walkItem_152 (by decide) ?_
                  refine xc_Vr hF (c_X9_isWord l D cI cJ cZ cS ta sa sv H.size h0 ys yk yo yt mk0 yfa yfe mL mS mM yro yhe ygr mF mC mY yta mz f2_933 t2_934 v2_935 w2_936 ywa ybi ysi ynu ymo tp 115 108 97 99 107 0 0 (by omega) (by omega)) kv_X9_290 ⟨rfl, rfl, Nat.le_of_ble_eq_true rfl, Nat.le_of_ble_eq_true rfl⟩ ⟨Nat.le_of_ble_eq_true rfl, Nat.le_of_ble_eq_true rfl⟩ hK hN hZ hP hD hS hA [2, 3] rfl rfl 0 rfl rfl rfl rfl hl.1 rfl (Nat.le_of_ble_eq_true rfl) dX9_walkItem_153 (fun r_943 hw_r_943 => ?_)
                  rcases hw_r_943 with rfl | rfl
                  · skip
                    refine lv_if_eq (tgt := 176) hx hb dX9_walkItem_156 (by decide) (fun c_944 => absurd c_944 (by decide)) (fun c_944 => ?_)
                    refine lv_aload_n hx hb dX9_walkItem_159 rfl (lv_at hl 3 rfl) ?_
                    refine lv_iconst (v := 1) hx hb dX9_walkItem_160 (by decide) ?_
                    refine xc_Vv (wr := [(ys, .inl (cI, 449, .inl ms)), (ywa, .inl (cI, 6, .inl a8))]) hF (c_X9_needs l D cI cJ cZ cS ta sa sv H.size h0 ys yk yo yt mk0 yfa yfe mL mS mM yro yhe ygr mF mC mY yta mz f2_933 t2_934 v2_935 w2_936 ywa ybi ysi ynu ymo tp 1 (by omega) (by omega) (by omega) (by omega) (by omega)) kv_X9_278 ⟨rfl, rfl, Nat.le_of_ble_eq_true rfl, Nat.le_of_ble_eq_true rfl⟩ ⟨Nat.le_of_ble_eq_true rfl, Nat.le_of_ble_eq_true rfl⟩ hK hN hZ hP hD hS hA [2, 3] [0, 1] rfl rfl rfl rfl (by decide) 0 rfl rfl rfl rfl hl.1 rfl (Nat.le_of_ble_eq_true rfl) dX9_walkItem_161 (fun u_r_945 H locs hw_r_945 hP hD hS => ?_)
                    obtain ⟨f2_946, t2_947, w2_948⟩ := u_r_945
                    try dsimp only at hw_r_945
                    obtain ⟨i_949, i_950, i_951, i_952, i_953, i_954⟩ := hw_r_945
                    have hP : va_P D vwCl [(ys, .inl (cI, 449, .inl ms)), (ywa, .inl (cI, 6, .inl a8)), (h0, .inr (9, [.ref ys, .ref yk, .ref yo, .ref yt, .int mk0, .ref yfa, .ref yfe, .int mL, .int mS, .int mM, .ref yro, .ref yhe, .ref ygr, .int mF, .int mC, .int mY, .ref yta, .int (nI (mz)), .int (nI (f2_946)), .int (nI (t2_947)), .int v2_935, .int w2_948, .ref ywa, .ref ybi, .ref ysi, .ref ynu, .ref ymo])), (yta, .inl (cI, 120, .inl tp))] H := hP
                    have hD : va_D A [(ys, .inl (cI, 449, .inl ms)), (ywa, .inl (cI, 6, .inl a8)), (h0, .inr (9, [.ref ys, .ref yk, .ref yo, .ref yt, .int mk0, .ref yfa, .ref yfe, .int mL, .int mS, .int mM, .ref yro, .ref yhe, .ref ygr, .int mF, .int mC, .int mY, .ref yta, .int (nI (mz)), .int (nI (f2_946)), .int (nI (t2_947)), .int v2_935, .int w2_948, .ref ywa, .ref ybi, .ref ysi, .ref ynu, .ref ymo])), (yta, .inl (cI, 120, .inl tp))] := hD
                    refine lv_aload_n hx hb dX9_walkItem_164 rfl (lv_at hl 3 rfl) ?_
                    refine lv_iconst (v := 0) hx hb dX9_walkItem_165 (by decide) ?_
                    refine lv_bipush (v := 99) hx hb dX9_walkItem_166 (by decide) ?_
                    refine xc_Vv (wr := [(ys, .inl (cI, 449, .inl ms)), (ywa, .inl (cI, 6, .inl a8))]) hF (c_X9_number l D cI cJ cZ cS ta sa sv H.size h0 ys yk yo yt mk0 yfa yfe mL mS mM yro yhe ygr mF mC mY yta mz f2_946 t2_947 v2_935 w2_948 ywa ybi ysi ynu ymo tp 0 99 (by omega) (by omega) (by omega) (by omega) (by omega)) kv_X9_282 ⟨rfl, rfl, Nat.le_of_ble_eq_true rfl, Nat.le_of_ble_eq_true rfl⟩ ⟨Nat.le_of_ble_eq_true rfl, Nat.le_of_ble_eq_true rfl⟩ hK hN hZ hP hD hS hA [2, 3] [0, 1] rfl rfl rfl rfl (by decide) 0 rfl rfl rfl rfl hl.1 rfl (Nat.le_of_ble_eq_true rfl) dX9_walkItem_168 (fun u_r_955 H locs hw_r_955 hP hD hS => ?_)
                    obtain ⟨f2_956, t2_957, v2_958, w2_959⟩ := u_r_955
                    try dsimp only at hw_r_955
                    obtain ⟨i_960, i_961, i_962, i_963, i_964, i_965⟩ := hw_r_955
                    have hP : va_P D vwCl [(ys, .inl (cI, 449, .inl ms)), (ywa, .inl (cI, 6, .inl a8)), (h0, .inr (9, [.ref ys, .ref yk, .ref yo, .ref yt, .int mk0, .ref yfa, .ref yfe, .int mL, .int mS, .int mM, .ref yro, .ref yhe, .ref ygr, .int mF, .int mC, .int mY, .ref yta, .int (nI (mz)), .int (nI (f2_956)), .int (nI (t2_957)), .int v2_958, .int w2_959, .ref ywa, .ref ybi, .ref ysi, .ref ynu, .ref ymo])), (yta, .inl (cI, 120, .inl tp))] H := hP
                    have hD : va_D A [(ys, .inl (cI, 449, .inl ms)), (ywa, .inl (cI, 6, .inl a8)), (h0, .inr (9, [.ref ys, .ref yk, .ref yo, .ref yt, .int mk0, .ref yfa, .ref yfe, .int mL, .int mS, .int mM, .ref yro, .ref yhe, .ref ygr, .int mF, .int mC, .int mY, .ref yta, .int (nI (mz)), .int (nI (f2_956)), .int (nI (t2_957)), .int v2_958, .int w2_959, .ref ywa, .ref ybi, .ref ysi, .ref ynu, .ref ymo])), (yta, .inl (cI, 120, .inl tp))] := hD
                    refine lv_aload_n hx hb dX9_walkItem_171 rfl (lv_at hl 3 rfl) ?_
                    refine xg hF kf_X9_275 hK hP 2 rfl rfl dX9_walkItem_172 ?_
                    refine lv_istore_n (lv' := [(3, .int v2_958), (2, .int v2_935), (1, .int (nI (n8))), (0, .ref h0)]) hx hb dX9_walkItem_175 rfl hl (by decide) rfl (fun ls hl => ?_)
                    refine lv_aload_n hx hb dX9_walkItem_176 rfl (lv_at hl 3 rfl) ?_
                    refine xg hF kf_X9_266 hK hP 2 rfl rfl dX9_walkItem_177 ?_
                    refine lv_if_ne (tgt := 252) hx hb dX9_walkItem_180 (by decide) (fun c_966 => ?_) (fun c_966 => ?_)
                    · skip
                      exact W.vret hx hb hr (fun t ht hW => ⟨⟨(f2_956, t2_957, v2_958, w2_959, ms, a8, Wn), rfl, ⟨(by first | assumption | omega), (by first | assumption | omega), (by first | assumption | omega), (by first | assumption | omega), (by first | assumption | omega), (fun h => ⟨(i_578 (hc8 (i_931 (i_942 (i_954 (i_965 h).1).1).1).1).1).1, trivial⟩), hs0, hs1, hs2, hsS, hsM, hsp, hsr, hsw, hsR⟩, by rw [ht]; exact hP.sub [2, 0, 3, 1] rfl, hD.sub [2, 0, 3, 1] (by decide) rfl⟩, hS.F ht⟩) hS.2.2 dX9_walkItem_252 hlk
                    · skip
                      refine lv_sipush (v := 377) hx hb dX9_walkItem_183 (by decide) ?_
                      refine lv_bipush (v := 9) hx hb dX9_walkItem_186 (by decide) ?_
                      refine lv_aload_n hx hb dX9_walkItem_188 rfl (lv_at hl 3 rfl) ?_
                      refine lv_aload_n hx hb dX9_walkItem_189 rfl (lv_at hl 3 rfl) ?_
                      refine xg hF kf_X9_40 hK hP 2 rfl rfl dX9_walkItem_190 ?_
                      refine lv_iconst (v := 0) hx hb dX9_walkItem_193 (by decide) ?_
                      refine va_iald hx hb hK hP 1 0 rfl rfl (xin 0 6 (by decide) (by decide)) dX9_walkItem_194 ?_
                      refine xl_i (y := a8 0) (congrArg a8 rfl) ?_
                      obtain ⟨z_967, ez_967, hz_9670⟩ := wk_A.get hA8 (i_931 (i_942 (i_954 (i_965 c_966).1).1).1).1 (show 0 < n8 by omega)
                      refine xl_i (y := nI (z_967)) ez_967 ?_
                      refine lv_aload_n hx hb dX9_walkItem_195 rfl (lv_at hl 3 rfl) ?_
                      refine xg hF kf_X9_40 hK hP 2 rfl rfl dX9_walkItem_196 ?_
                      refine lv_iconst (v := 1) hx hb dX9_walkItem_199 (by decide) ?_
                      refine va_iald hx hb hK hP 1 0 rfl rfl (xin 1 6 (by decide) (by decide)) dX9_walkItem_200 ?_
                      refine xl_i (y := a8 1) (congrArg a8 rfl) ?_
                      obtain ⟨z_968, ez_968, hz_9680⟩ := wk_A.get hA8 (i_931 (i_942 (i_954 (i_965 c_966).1).1).1).1 (show 1 < n8 by omega)
                      refine xl_i (y := nI (z_968)) ez_968 ?_
                      refine lv_iload_n hx hb dX9_walkItem_201 rfl (lv_at hl 1 rfl) ?_
                      refine lv_iload_n hx hb dX9_walkItem_202 rfl (lv_at hl 0 rfl) ?_
                      refine xc_Vi (wr := [(ywa, .inl (cI, 6, .inl a8)), (yta, .inl (cI, 120, .inl tp))]) hF (c_X9_newWalk l D cI cJ cZ cS ta sa sv H.size h0 ys yk yo yt mk0 yfa yfe mL mS mM yro yhe ygr mF mC mY yta mz f2_956 t2_957 v2_958 w2_959 ywa ybi ysi ynu ymo ms P Rn Wn z_967 z_968 v2_935 v2_958 (by omega) (by omega) (by omega) hs0 hs1 hs2 hsS hsM hsp hsr hsw hsR) kv_X9_196 ⟨rfl, rfl, Nat.le_of_ble_eq_true rfl, Nat.le_of_ble_eq_true rfl⟩ ⟨Nat.le_of_ble_eq_true rfl, Nat.le_of_ble_eq_true rfl⟩ hK hN hZ hP hD hS hA [2, 0] [1, 3] rfl rfl rfl rfl (by decide) 0 rfl rfl rfl rfl hl.1 rfl (Nat.le_of_ble_eq_true rfl) dX9_walkItem_203 (fun r_969 u_r_969 H locs hw_r_969 hP hD hS => ?_)
                      obtain ⟨ms2_970, rfl⟩ : ∃ z, z = u_r_969 := ⟨_, rfl⟩
                      try dsimp only at hw_r_969
                      obtain ⟨hw_r_969, i_971, i_972, i_973, i_974, i_975, i_976, i_977, i_978, i_979⟩ := hw_r_969
                      have hP : va_P D vwCl [(ywa, .inl (cI, 6, .inl a8)), (yta, .inl (cI, 120, .inl tp)), (h0, .inr (9, [.ref ys, .ref yk, .ref yo, .ref yt, .int mk0, .ref yfa, .ref yfe, .int mL, .int mS, .int mM, .ref yro, .ref yhe, .ref ygr, .int mF, .int mC, .int mY, .ref yta, .int (nI (mz)), .int (nI (f2_956)), .int (nI (t2_957)), .int v2_958, .int w2_959, .ref ywa, .ref ybi, .ref ysi, .ref ynu, .ref ymo])), (ys, .inl (cI, 449, .inl ms2_970))] H := hP
                      have hD : va_D A [(ywa, .inl (cI, 6, .inl a8)), (yta, .inl (cI, 120, .inl tp)), (h0, .inr (9, [.ref ys, .ref yk, .ref yo, .ref yt, .int mk0, .ref yfa, .ref yfe, .int mL, .int mS, .int mM, .ref yro, .ref yhe, .ref ygr, .int mF, .int mC, .int mY, .ref yta, .int (nI (mz)), .int (nI (f2_956)), .int (nI (t2_957)), .int v2_958, .int w2_959, .ref ywa, .ref ybi, .ref ysi, .ref ynu, .ref ymo])), (ys, .inl (cI, 449, .inl ms2_970))] := hD
                      subst hw_r_969
                      refine lv_imul hx hb dX9_walkItem_206 ?_
                      refine xl_i (y := nI (9 * Wn)) (pk_mul 9 Wn) ?_
                      refine lv_iadd hx hb dX9_walkItem_207 ?_
                      refine xl_i (y := nI (377 + (9 * Wn))) (nI_add 377 (9 * Wn)) ?_
                      refine lv_istore (lv' := [(4, .int (nI (377 + (9 * Wn)))), (3, .int v2_958), (2, .int v2_935), (1, .int (nI (n8))), (0, .ref h0)]) hx hb dX9_walkItem_208 hl (by decide) rfl (fun ls hl => ?_)
                      refine lv_aload_n hx hb dX9_walkItem_210 rfl (lv_at hl 4 rfl) ?_
                      refine xg hF kf_X9_7 hK hP 2 rfl rfl dX9_walkItem_211 ?_
                      refine lv_iload hx hb dX9_walkItem_214 (lv_at hl 0 rfl) ?_
                      refine lv_iload_n hx hb dX9_walkItem_216 rfl (lv_at hl 3 rfl) ?_
                      refine va_iast hx hb hK hP hD hS 3 0 rfl rfl (vp_in_nI (show 377 + (9 * Wn) < 449 by omega) (by decide)) dX9_walkItem_217 (fun H locs hP hD hS => ?_)
                      rw [nI_clamp (show 377 + (9 * Wn) < 2 ^ 31 by omega)] at hP hD
                      obtain ⟨f_980, ef_980⟩ : ∃ g, g = upd ms2_970 (377 + (9 * Wn)) (nI (n8)) := ⟨_, rfl⟩
                      rw [← ef_980] at hP hD
                      have k0_f_980 : f_980 0 = nI P := by rw [ef_980]; exact (pk_un (show 0 ≠ (377 + (9 * Wn)) by omega)).trans i_971
                      have k1_f_980 : f_980 1 = nI Rn := by rw [ef_980]; exact (pk_un (show 1 ≠ (377 + (9 * Wn)) by omega)).trans i_972
                      have k2_f_980 : f_980 2 = nI (Wn + 1) := by rw [ef_980]; exact (pk_un (show 2 ≠ (377 + (9 * Wn)) by omega)).trans i_973
                      have kS_f_980 : SI f_980 := by rw [ef_980]; exact SI.upd i_974 (okS.wl (w := Wn) (q := n8) (by omega) (by omega) (by omega))
                      have kM_f_980 : MI f_980 := by rw [ef_980]; exact MI.upd i_975 (okM.out (show (377 + (9 * Wn)) < 13 ∨ 113 ≤ (377 + (9 * Wn)) by omega))
                      have kR_f_980 : RI Rn f_980 := by rw [ef_980]; exact RI.upd i_979 (fun r9 hr9 e9 => by omega)
                      have hP : va_P D vwCl [(ywa, .inl (cI, 6, .inl a8)), (yta, .inl (cI, 120, .inl tp)), (h0, .inr (9, [.ref ys, .ref yk, .ref yo, .ref yt, .int mk0, .ref yfa, .ref yfe, .int mL, .int mS, .int mM, .ref yro, .ref yhe, .ref ygr, .int mF, .int mC, .int mY, .ref yta, .int (nI (mz)), .int (nI (f2_956)), .int (nI (t2_957)), .int v2_958, .int w2_959, .ref ywa, .ref ybi, .ref ysi, .ref ynu, .ref ymo])), (ys, .inl (cI, 449, .inl f_980))] H := hP
                      have hD : va_D A [(ywa, .inl (cI, 6, .inl a8)), (yta, .inl (cI, 120, .inl tp)), (h0, .inr (9, [.ref ys, .ref yk, .ref yo, .ref yt, .int mk0, .ref yfa, .ref yfe, .int mL, .int mS, .int mM, .ref yro, .ref yhe, .ref ygr, .int mF, .int mC, .int mY, .ref yta, .int (nI (mz)), .int (nI (f2_956)), .int (nI (t2_957)), .int v2_958, .int w2_959, .ref ywa, .ref ybi, .ref ysi, .ref ynu, .ref ymo])), (ys, .inl (cI, 449, .inl f_980))] := hD
                      refine lv_iconst (v := 2) hx hb dX9_walkItem_218 (by decide) ?_
                      refine lv_istore (lv' := [(5, .int 2), (4, .int (nI (377 + (9 * Wn)))), (3, .int v2_958), (2, .int v2_935), (1, .int (nI (n8))), (0, .ref h0)]) hx hb dX9_walkItem_219 hl (by decide) rfl (fun ls hl => ?_)
                      suffices loop_221 : ∀ (n_221 : Nat) (i : Nat) (s8 : Nat → Int32) (H : Heap) (locs : List Loc) (ls : Array Slot), n8 - i < n_221 → (2 ≤ i) → (i ≤ n8) → (s8 0 = nI P) → (s8 1 = nI Rn) → (s8 2 = nI (Wn + 1)) → (SI s8) → (MI s8) → (P ≤ 10) → (Rn ≤ 8) → (Wn + 1 ≤ 8) → (RI Rn s8) → va_P D vwCl [(ywa, .inl (cI, 6, .inl a8)), (yta, .inl (cI, 120, .inl tp)), (h0, .inr (9, [.ref ys, .ref yk, .ref yo, .ref yt, .int mk0, .ref yfa, .ref yfe, .int mL, .int mS, .int mM, .ref yro, .ref yhe, .ref ygr, .int mF, .int mC, .int mY, .ref yta, .int (nI (mz)), .int (nI (f2_956)), .int (nI (t2_957)), .int v2_958, .int w2_959, .ref ywa, .ref ybi, .ref ysi, .ref ynu, .ref ymo])), (ys, .inl (cI, 449, .inl s8))] H → va_D A [(ywa, .inl (cI, 6, .inl a8)), (yta, .inl (cI, 120, .inl tp)), (h0, .inr (9, [.ref ys, .ref yk, .ref yo, .ref yt, .int mk0, .ref yfa, .ref yfe, .int mL, .int mS, .int mM, .ref yro, .ref yhe, .ref ygr, .int mF, .int mC, .int mY, .ref yta, .int (nI (mz)), .int (nI (f2_956)), .int (nI (t2_957)), .int v2_958, .int w2_959, .ref ywa, .ref ybi, .ref ysi, .ref ynu, .ref ymo])), (ys, .inl (cI, 449, .inl s8))] → va_S A s.heap H locs → lv_has ls 6 [(5, .int (nI (i))), (4, .int (nI (377 + (9 * Wn)))), (3, .int v2_958), (2, .int v2_935), (1, .int (nI (n8))), (0, .ref h0)] → W p l e ({ frames := 6, cells := 0, slots := 0, locals := 136 }) s m ([.ref h0] : List Value).toArray below meth c H locs 0 0 (MQ below (XQv (fun (u : Nat × Nat × Int32 × Int32 × (Nat → Int32) × (Nat → Int32) × Nat) => match u with | (f2, t2, v2, w2, ms2, wa2, W2) => (f2 ≤ mz) ∧ (t2 ≤ mz) ∧ (f2 ≤ t2) ∧ (f2 < t2 ∨ f2 = mz) ∧ (mf ≤ f2) ∧ (w2 = 0 → mw = 0 ∧ True) ∧ (ms2 0 = nI P) ∧ (ms2 1 = nI Rn) ∧ (ms2 2 = nI W2) ∧ (SI ms2) ∧ (MI ms2) ∧ (P ≤ 10) ∧ (Rn ≤ 8) ∧ (W2 ≤ 8) ∧ (RI Rn ms2)) D (fun (u : Nat × Nat × Int32 × Int32 × (Nat → Int32) × (Nat → Int32) × Nat) => match u with | (f2, t2, v2, w2, ms2, wa2, W2) => [(h0, .inr (9, [.ref ys, .ref yk, .ref yo, .ref yt, .int mk0, .ref yfa, .ref yfe, .int mL, .int mS, .int mM, .ref yro, .ref yhe, .ref ygr, .int mF, .int mC, .int mY, .ref yta, .int (nI (mz)), .int (nI (f2)), .int (nI (t2)), .int v2, .int w2, .ref ywa, .ref ybi, .ref ysi, .ref ynu, .ref ymo])), (ys, .inl (cI, 449, .inl ms2)), (yta, .inl (cI, 120, .inl tp)), (ywa, .inl (cI, 6, .inl wa2))]) A) ([.ref h0] : List Value).toArray s 0 0 A) (F0 m 221 ls []) by
                        exact loop_221 _ 2 f_980 _ _ _ (Nat.lt_succ_self _) (by omega) (by omega) k0_f_980 k1_f_980 k2_f_980 kS_f_980 kM_f_980 i_976 i_977 i_978 kR_f_980 hP hD hS (lv_sub hl [0, 1, 2, 3, 4, 5] rfl)
                      intro n_221
                      induction n_221 with
                      | zero =>
                        intro i s8 H locs ls hm_221
                        exact absurd hm_221 (Nat.not_lt_zero _)
                      | succ n_221 ih_221 =>
                        intro i s8 H locs ls hm_221 hi2 hi ht0 ht1 ht2 htS htM htp htr htw htR hP hD hS hl
                        refine lv_iload hx hb dX9_walkItem_221 (lv_at hl 0 rfl) ?_
                        refine lv_iload_n hx hb dX9_walkItem_223 rfl (lv_at hl 4 rfl) ?_
                        refine lv_icmp_ge (tgt := 252) hx hb dX9_walkItem_224 (by decide) (fun c_981 => ?_) (fun c_981 => ?_)
                        · skip
                          have nc_981 : n8 ≤ i := xn_le (a := n8) (b := i) (by omega) (by omega) c_981
                          exact W.vret hx hb hr (fun t ht hW => ⟨⟨(f2_956, t2_957, v2_958, w2_959, s8, a8, Wn + 1), rfl, ⟨(by first | assumption | omega), (by first | assumption | omega), (by first | assumption | omega), (by first | assumption | omega), (by first | assumption | omega), (fun h => ⟨(i_578 (hc8 (i_931 (i_942 (i_954 (i_965 h).1).1).1).1).1).1, trivial⟩), ht0, ht1, ht2, htS, htM, htp, htr, htw, htR⟩, by rw [ht]; exact hP.sub [2, 3, 1, 0] rfl, hD.sub [2, 3, 1, 0] (by decide) rfl⟩, hS.F ht⟩) hS.2.2 dX9_walkItem_252 hlk
                        · skip
                          have nc_981 : i < n8 := xn_nle (a := n8) (b := i) (by omega) (by omega) c_981
                          refine lv_aload_n hx hb dX9_walkItem_227 rfl (lv_at hl 5 rfl) ?_
                          refine xg hF kf_X9_7 hK hP 2 rfl rfl dX9_walkItem_228 ?_
                          refine lv_iload hx hb dX9_walkItem_231 (lv_at hl 1 rfl) ?_
                          refine lv_iconst (v := 3) hx hb dX9_walkItem_233 (by decide) ?_
                          refine lv_iadd hx hb dX9_walkItem_234 ?_
                          refine xl_i (y := nI (377 + (9 * Wn) + 3)) (nI_add (377 + (9 * Wn)) 3) ?_
                          refine lv_iload hx hb dX9_walkItem_235 (lv_at hl 0 rfl) ?_
                          refine lv_iadd hx hb dX9_walkItem_237 ?_
                          refine xl_i (y := nI (377 + (9 * Wn) + 3 + i)) (nI_add (377 + (9 * Wn) + 3) i) ?_
                          refine lv_aload_n hx hb dX9_walkItem_238 rfl (lv_at hl 5 rfl) ?_
                          refine xg hF kf_X9_40 hK hP 2 rfl rfl dX9_walkItem_239 ?_
                          refine lv_iload hx hb dX9_walkItem_242 (lv_at hl 0 rfl) ?_
                          refine va_iald hx hb hK hP 0 0 rfl rfl (vp_in_nI (show i < 6 by omega) (by decide)) dX9_walkItem_244 ?_
                          refine xl_i (y := a8 i) (congrArg a8 (nI_clamp (show i < 2 ^ 31 by omega))) ?_
                          obtain ⟨z_982, ez_982, hz_9820⟩ := wk_A.get hA8 (i_931 (i_942 (i_954 (i_965 c_966).1).1).1).1 (show i < n8 by omega)
                          refine xl_i (y := nI (z_982)) ez_982 ?_
                          refine va_iast hx hb hK hP hD hS 3 0 rfl rfl (vp_in_nI (show 377 + (9 * Wn) + 3 + i < 449 by omega) (by decide)) dX9_walkItem_245 (fun H locs hP hD hS => ?_)
                          rw [nI_clamp (show 377 + (9 * Wn) + 3 + i < 2 ^ 31 by omega)] at hP hD
                          obtain ⟨f_983, ef_983⟩ : ∃ g, g = upd s8 (377 + (9 * Wn) + 3 + i) (nI (z_982)) := ⟨_, rfl⟩
                          rw [← ef_983] at hP hD
                          have k0_f_983 : f_983 0 = nI P := by rw [ef_983]; exact (pk_un (show 0 ≠ (377 + (9 * Wn) + 3 + i) by omega)).trans ht0
                          have k1_f_983 : f_983 1 = nI Rn := by rw [ef_983]; exact (pk_un (show 1 ≠ (377 + (9 * Wn) + 3 + i) by omega)).trans ht1
                          have k2_f_983 : f_983 2 = nI (Wn + 1) := by rw [ef_983]; exact (pk_un (show 2 ≠ (377 + (9 * Wn) + 3 + i) by omega)).trans ht2
                          have kS_f_983 : SI f_983 := by rw [ef_983]; exact SI.upd htS (okS.ws (w := Wn) (i := i) (by omega) (by omega) (by omega) (show z_982 < 10 by omega))
                          have kM_f_983 : MI f_983 := by rw [ef_983]; exact MI.upd htM (okM.out (show (377 + (9 * Wn) + 3 + i) < 13 ∨ 113 ≤ (377 + (9 * Wn) + 3 + i) by omega))
                          have kR_f_983 : RI Rn f_983 := by rw [ef_983]; exact RI.upd htR (fun r9 hr9 e9 => by omega)
                          have hP : va_P D vwCl [(ywa, .inl (cI, 6, .inl a8)), (yta, .inl (cI, 120, .inl tp)), (h0, .inr (9, [.ref ys, .ref yk, .ref yo, .ref yt, .int mk0, .ref yfa, .ref yfe, .int mL, .int mS, .int mM, .ref yro, .ref yhe, .ref ygr, .int mF, .int mC, .int mY, .ref yta, .int (nI (mz)), .int (nI (f2_956)), .int (nI (t2_957)), .int v2_958, .int w2_959, .ref ywa, .ref ybi, .ref ysi, .ref ynu, .ref ymo])), (ys, .inl (cI, 449, .inl f_983))] H := hP
                          have hD : va_D A [(ywa, .inl (cI, 6, .inl a8)), (yta, .inl (cI, 120, .inl tp)), (h0, .inr (9, [.ref ys, .ref yk, .ref yo, .ref yt, .int mk0, .ref yfa, .ref yfe, .int mL, .int mS, .int mM, .ref yro, .ref yhe, .ref ygr, .int mF, .int mC, .int mY, .ref yta, .int (nI (mz)), .int (nI (f2_956)), .int (nI (t2_957)), .int v2_958, .int w2_959, .ref ywa, .ref ybi, .ref ysi, .ref ynu, .ref ymo])), (ys, .inl (cI, 449, .inl f_983))] := hD
                          refine lv_iinc (v := nI (i + 1)) (lv' := [(5, .int (nI (i + 1))), (4, .int (nI (377 + (9 * Wn)))), (3, .int v2_958), (2, .int v2_935), (1, .int (nI (n8))), (0, .ref h0)]) hx hb dX9_walkItem_246 hl (k := 0) rfl (nI_1 (i)) (by decide) rfl (fun ls hl => ?_)
                          refine lv_goto (tgt := 221) hx hb dX9_walkItem_249 (by decide) ?_
                          exact ih_221 (i + 1) f_983 _ _ _ (by omega) (by omega) (by omega) k0_f_983 k1_f_983 k2_f_983 kS_f_983 kM_f_983 htp htr htw kR_f_983 (hP.sub [0, 1, 2, 3] rfl) (hD.sub [0, 1, 2, 3] (by decide) rfl) hS (lv_sub hl [0, 1, 2, 3, 4, 5] rfl)
                  · skip
                    refine lv_if_eq (tgt := 176) hx hb dX9_walkItem_156 (by decide) (fun c_984 => ?_) (fun c_984 => absurd (by decide) c_984)
                    refine lv_aload_n hx hb dX9_walkItem_176 rfl (lv_at hl 3 rfl) ?_
                    refine xg hF kf_X9_266 hK hP 2 rfl rfl dX9_walkItem_177 ?_
                    refine lv_if_ne (tgt := 252) hx hb dX9_walkItem_180 (by decide) (fun c_985 => ?_) (fun c_985 => ?_)
                    · skip
                      exact W.vret hx hb hr (fun t ht hW => ⟨⟨(f2_933, t2_934, v2_935, w2_936, ms, a8, Wn), rfl, ⟨(by first | assumption | omega), (by first | assumption | omega), (by first | assumption | omega), (by first | assumption | omega), (by first | assumption | omega), (fun h => ⟨(i_578 (hc8 (i_931 (i_942 h).1).1).1).1, trivial⟩), hs0, hs1, hs2, hsS, hsM, hsp, hsr, hsw, hsR⟩, by rw [ht]; exact hP.sub [2, 0, 3, 1] rfl, hD.sub [2, 0, 3, 1] (by decide) rfl⟩, hS.F ht⟩) hS.2.2 dX9_walkItem_252 hlk
                    · skip
                      refine lv_sipush (v := 377) hx hb dX9_walkItem_183 (by decide) ?_
                      refine lv_bipush (v := 9) hx hb dX9_walkItem_186 (by decide) ?_
                      refine lv_aload_n hx hb dX9_walkItem_188 rfl (lv_at hl 3 rfl) ?_
                      refine lv_aload_n hx hb dX9_walkItem_189 rfl (lv_at hl 3 rfl) ?_
                      refine xg hF kf_X9_40 hK hP 2 rfl rfl dX9_walkItem_190 ?_
                      refine lv_iconst (v := 0) hx hb dX9_walkItem_193 (by decide) ?_
                      refine va_iald hx hb hK hP 1 0 rfl rfl (xin 0 6 (by decide) (by decide)) dX9_walkItem_194 ?_
                      refine xl_i (y := a8 0) (congrArg a8 rfl) ?_
                      obtain ⟨z_986, ez_986, hz_9860⟩ := wk_A.get hA8 (i_931 (i_942 c_985).1).1 (show 0 < n8 by omega)
                      refine xl_i (y := nI (z_986)) ez_986 ?_
                      refine lv_aload_n hx hb dX9_walkItem_195 rfl (lv_at hl 3 rfl) ?_
                      refine xg hF kf_X9_40 hK hP 2 rfl rfl dX9_walkItem_196 ?_
                      refine lv_iconst (v := 1) hx hb dX9_walkItem_199 (by decide) ?_
                      refine va_iald hx hb hK hP 1 0 rfl rfl (xin 1 6 (by decide) (by decide)) dX9_walkItem_200 ?_
                      refine xl_i (y := a8 1) (congrArg a8 rfl) ?_
                      obtain ⟨z_987, ez_987, hz_9870⟩ := wk_A.get hA8 (i_931 (i_942 c_985).1).1 (show 1 < n8 by omega)
                      refine xl_i (y := nI (z_987)) ez_987 ?_
                      refine lv_iload_n hx hb dX9_walkItem_201 rfl (lv_at hl 1 rfl) ?_
                      refine lv_iload_n hx hb dX9_walkItem_202 rfl (lv_at hl 0 rfl) ?_
                      refine xc_Vi (wr := [(ywa, .inl (cI, 6, .inl a8)), (yta, .inl (cI, 120, .inl tp))]) hF (c_X9_newWalk l D cI cJ cZ cS ta sa sv H.size h0 ys yk yo yt mk0 yfa yfe mL mS mM yro yhe ygr mF mC mY yta mz f2_933 t2_934 v2_935 w2_936 ywa ybi ysi ynu ymo ms P Rn Wn z_986 z_987 v2_935 0 (by omega) (by omega) (by omega) hs0 hs1 hs2 hsS hsM hsp hsr hsw hsR) kv_X9_196 ⟨rfl, rfl, Nat.le_of_ble_eq_true rfl, Nat.le_of_ble_eq_true rfl⟩ ⟨Nat.le_of_ble_eq_true rfl, Nat.le_of_ble_eq_true rfl⟩ hK hN hZ hP hD hS hA [2, 0] [1, 3] rfl rfl rfl rfl (by decide) 0 rfl rfl rfl rfl hl.1 rfl (Nat.le_of_ble_eq_true rfl) dX9_walkItem_203 (fun r_988 u_r_988 H locs hw_r_988 hP hD hS => ?_)
                      obtain ⟨ms2_989, rfl⟩ : ∃ z, z = u_r_988 := ⟨_, rfl⟩
                      try dsimp only at hw_r_988
                      obtain ⟨hw_r_988, i_990, i_991, i_992, i_993, i_994, i_995, i_996, i_997, i_998⟩ := hw_r_988
                      have hP : va_P D vwCl [(ywa, .inl (cI, 6, .inl a8)), (yta, .inl (cI, 120, .inl tp)), (h0, .inr (9, [.ref ys, .ref yk, .ref yo, .ref yt, .int mk0, .ref yfa, .ref yfe, .int mL, .int mS, .int mM, .ref yro, .ref yhe, .ref ygr, .int mF, .int mC, .int mY, .ref yta, .int (nI (mz)), .int (nI (f2_933)), .int (nI (t2_934)), .int v2_935, .int w2_936, .ref ywa, .ref ybi, .ref ysi, .ref ynu, .ref ymo])), (ys, .inl (cI, 449, .inl ms2_989))] H := hP
                      have hD : va_D A [(ywa, .inl (cI, 6, .inl a8)), (yta, .inl (cI, 120, .inl tp)), (h0, .inr (9, [.ref ys, .ref yk, .ref yo, .ref yt, .int mk0, .ref yfa, .ref yfe, .int mL, .int mS, .int mM, .ref yro, .ref yhe, .ref ygr, .int mF, .int mC, .int mY, .ref yta, .int (nI (mz)), .int (nI (f2_933)), .int (nI (t2_934)), .int v2_935, .int w2_936, .ref ywa, .ref ybi, .ref ysi, .ref ynu, .ref ymo])), (ys, .inl (cI, 449, .inl ms2_989))] := hD
                      subst hw_r_988
                      refine lv_imul hx hb dX9_walkItem_206 ?_
                      refine xl_i (y := nI (9 * Wn)) (pk_mul 9 Wn) ?_
                      refine lv_iadd hx hb dX9_walkItem_207 ?_
                      refine xl_i (y := nI (377 + (9 * Wn))) (nI_add 377 (9 * Wn)) ?_
                      refine lv_istore (lv' := [(4, .int (nI (377 + (9 * Wn)))), (3, .int 0), (2, .int v2_935), (1, .int (nI (n8))), (0, .ref h0)]) hx hb dX9_walkItem_208 hl (by decide) rfl (fun ls hl => ?_)
                      refine lv_aload_n hx hb dX9_walkItem_210 rfl (lv_at hl 4 rfl) ?_
                      refine xg hF kf_X9_7 hK hP 2 rfl rfl dX9_walkItem_211 ?_
                      refine lv_iload hx hb dX9_walkItem_214 (lv_at hl 0 rfl) ?_
                      refine lv_iload_n hx hb dX9_walkItem_216 rfl (lv_at hl 3 rfl) ?_
                      refine va_iast hx hb hK hP hD hS 3 0 rfl rfl (vp_in_nI (show 377 + (9 * Wn) < 449 by omega) (by decide)) dX9_walkItem_217 (fun H locs hP hD hS => ?_)
                      rw [nI_clamp (show 377 + (9 * Wn) < 2 ^ 31 by omega)] at hP hD
                      obtain ⟨f_999, ef_999⟩ : ∃ g, g = upd ms2_989 (377 + (9 * Wn)) (nI (n8)) := ⟨_, rfl⟩
                      rw [← ef_999] at hP hD
                      have k0_f_999 : f_999 0 = nI P := by rw [ef_999]; exact (pk_un (show 0 ≠ (377 + (9 * Wn)) by omega)).trans i_990
                      have k1_f_999 : f_999 1 = nI Rn := by rw [ef_999]; exact (pk_un (show 1 ≠ (377 + (9 * Wn)) by omega)).trans i_991
                      have k2_f_999 : f_999 2 = nI (Wn + 1) := by rw [ef_999]; exact (pk_un (show 2 ≠ (377 + (9 * Wn)) by omega)).trans i_992
                      have kS_f_999 : SI f_999 := by rw [ef_999]; exact SI.upd i_993 (okS.wl (w := Wn) (q := n8) (by omega) (by omega) (by omega))
                      have kM_f_999 : MI f_999 := by rw [ef_999]; exact MI.upd i_994 (okM.out (show (377 + (9 * Wn)) < 13 ∨ 113 ≤ (377 + (9 * Wn)) by omega))
                      have kR_f_999 : RI Rn f_999 := by rw [ef_999]; exact RI.upd i_998 (fun r9 hr9 e9 => by omega)
                      have hP : va_P D vwCl [(ywa, .inl (cI, 6, .inl a8)), (yta, .inl (cI, 120, .inl tp)), (h0, .inr (9, [.ref ys, .ref yk, .ref yo, .ref yt, .int mk0, .ref yfa, .ref yfe, .int mL, .int mS, .int mM, .ref yro, .ref yhe, .ref ygr, .int mF, .int mC, .int mY, .ref yta, .int (nI (mz)), .int (nI (f2_933)), .int (nI (t2_934)), .int v2_935, .int w2_936, .ref ywa, .ref ybi, .ref ysi, .ref ynu, .ref ymo])), (ys, .inl (cI, 449, .inl f_999))] H := hP
                      have hD : va_D A [(ywa, .inl (cI, 6, .inl a8)), (yta, .inl (cI, 120, .inl tp)), (h0, .inr (9, [.ref ys, .ref yk, .ref yo, .ref yt, .int mk0, .ref yfa, .ref yfe, .int mL, .int mS, .int mM, .ref yro, .ref yhe, .ref ygr, .int mF, .int mC, .int mY, .ref yta, .int (nI (mz)), .int (nI (f2_933)), .int (nI (t2_934)), .int v2_935, .int w2_936, .ref ywa, .ref ybi, .ref ysi, .ref ynu, .ref ymo])), (ys, .inl (cI, 449, .inl f_999))] := hD
                      refine lv_iconst (v := 2) hx hb dX9_walkItem_218 (by decide) ?_
                      refine lv_istore (lv' := [(5, .int 2), (4, .int (nI (377 + (9 * Wn)))), (3, .int 0), (2, .int v2_935), (1, .int (nI (n8))), (0, .ref h0)]) hx hb dX9_walkItem_219 hl (by decide) rfl (fun ls hl => ?_)
                      suffices loop_221 : ∀ (n_221 : Nat) (i : Nat) (s8 : Nat → Int32) (H : Heap) (locs : List Loc) (ls : Array Slot), n8 - i < n_221 → (2 ≤ i) → (i ≤ n8) → (s8 0 = nI P) → (s8 1 = nI Rn) → (s8 2 = nI (Wn + 1)) → (SI s8) → (MI s8) → (P ≤ 10) → (Rn ≤ 8) → (Wn + 1 ≤ 8) → (RI Rn s8) → va_P D vwCl [(ywa, .inl (cI, 6, .inl a8)), (yta, .inl (cI, 120, .inl tp)), (h0, .inr (9, [.ref ys, .ref yk, .ref yo, .ref yt, .int mk0, .ref yfa, .ref yfe, .int mL, .int mS, .int mM, .ref yro, .ref yhe, .ref ygr, .int mF, .int mC, .int mY, .ref yta, .int (nI (mz)), .int (nI (f2_933)), .int (nI (t2_934)), .int v2_935, .int w2_936, .ref ywa, .ref ybi, .ref ysi, .ref ynu, .ref ymo])), (ys, .inl (cI, 449, .inl s8))] H → va_D A [(ywa, .inl (cI, 6, .inl a8)), (yta, .inl (cI, 120, .inl tp)), (h0, .inr (9, [.ref ys, .ref yk, .ref yo, .ref yt, .int mk0, .ref yfa, .ref yfe, .int mL, .int mS, .int mM, .ref yro, .ref yhe, .ref ygr, .int mF, .int mC, .int mY, .ref yta, .int (nI (mz)), .int (nI (f2_933)), .int (nI (t2_934)), .int v2_935, .int w2_936, .ref ywa, .ref ybi, .ref ysi, .ref ynu, .ref ymo])), (ys, .inl (cI, 449, .inl s8))] → va_S A s.heap H locs → lv_has ls 6 [(5, .int (nI (i))), (4, .int (nI (377 + (9 * Wn)))), (3, .int 0), (2, .int v2_935), (1, .int (nI (n8))), (0, .ref h0)] → W p l e ({ frames := 6, cells := 0, slots := 0, locals := 136 }) s m ([.ref h0] : List Value).toArray below meth c H locs 0 0 (MQ below (XQv (fun (u : Nat × Nat × Int32 × Int32 × (Nat → Int32) × (Nat → Int32) × Nat) => match u with | (f2, t2, v2, w2, ms2, wa2, W2) => (f2 ≤ mz) ∧ (t2 ≤ mz) ∧ (f2 ≤ t2) ∧ (f2 < t2 ∨ f2 = mz) ∧ (mf ≤ f2) ∧ (w2 = 0 → mw = 0 ∧ True) ∧ (ms2 0 = nI P) ∧ (ms2 1 = nI Rn) ∧ (ms2 2 = nI W2) ∧ (SI ms2) ∧ (MI ms2) ∧ (P ≤ 10) ∧ (Rn ≤ 8) ∧ (W2 ≤ 8) ∧ (RI Rn ms2)) D (fun (u : Nat × Nat × Int32 × Int32 × (Nat → Int32) × (Nat → Int32) × Nat) => match u with | (f2, t2, v2, w2, ms2, wa2, W2) => [(h0, .inr (9, [.ref ys, .ref yk, .ref yo, .ref yt, .int mk0, .ref yfa, .ref yfe, .int mL, .int mS, .int mM, .ref yro, .ref yhe, .ref ygr, .int mF, .int mC, .int mY, .ref yta, .int (nI (mz)), .int (nI (f2)), .int (nI (t2)), .int v2, .int w2, .ref ywa, .ref ybi, .ref ysi, .ref ynu, .ref ymo])), (ys, .inl (cI, 449, .inl ms2)), (yta, .inl (cI, 120, .inl tp)), (ywa, .inl (cI, 6, .inl wa2))]) A) ([.ref h0] : List Value).toArray s 0 0 A) (F0 m 221 ls []) by
                        exact loop_221 _ 2 f_999 _ _ _ (Nat.lt_succ_self _) (by omega) (by omega) k0_f_999 k1_f_999 k2_f_999 kS_f_999 kM_f_999 i_995 i_996 i_997 kR_f_999 hP hD hS (lv_sub hl [0, 1, 2, 3, 4, 5] rfl)
                      intro n_221
                      induction n_221 with
                      | zero =>
                        intro i s8 H locs ls hm_221
                        exact absurd hm_221 (Nat.not_lt_zero _)
                      | succ n_221 ih_221 =>
                        intro i s8 H locs ls hm_221 hi2 hi ht0 ht1 ht2 htS htM htp htr htw htR hP hD hS hl
                        refine lv_iload hx hb dX9_walkItem_221 (lv_at hl 0 rfl) ?_
                        refine lv_iload_n hx hb dX9_walkItem_223 rfl (lv_at hl 4 rfl) ?_
                        refine lv_icmp_ge (tgt := 252) hx hb dX9_walkItem_224 (by decide) (fun c_1000 => ?_) (fun c_1000 => ?_)
                        · skip
                          have nc_1000 : n8 ≤ i := xn_le (a := n8) (b := i) (by omega) (by omega) c_1000
                          exact W.vret hx hb hr (fun t ht hW => ⟨⟨(f2_933, t2_934, v2_935, w2_936, s8, a8, Wn + 1), rfl, ⟨(by first | assumption | omega), (by first | assumption | omega), (by first | assumption | omega), (by first | assumption | omega), (by first | assumption | omega), (fun h => ⟨(i_578 (hc8 (i_931 (i_942 h).1).1).1).1, trivial⟩), ht0, ht1, ht2, htS, htM, htp, htr, htw, htR⟩, by rw [ht]; exact hP.sub [2, 3, 1, 0] rfl, hD.sub [2, 3, 1, 0] (by decide) rfl⟩, hS.F ht⟩) hS.2.2 dX9_walkItem_252 hlk
                        · skip
                          have nc_1000 : i < n8 := xn_nle (a := n8) (b := i) (by omega) (by omega) c_1000
                          refine lv_aload_n hx hb dX9_walkItem_227 rfl (lv_at hl 5 rfl) ?_
                          refine xg hF kf_X9_7 hK hP 2 rfl rfl dX9_walkItem_228 ?_
                          refine lv_iload hx hb dX9_walkItem_231 (lv_at hl 1 rfl) ?_
                          refine lv_iconst (v := 3) hx hb dX9_walkItem_233 (by decide) ?_
                          refine lv_iadd hx hb dX9_walkItem_234 ?_
                          refine xl_i (y := nI (377 + (9 * Wn) + 3)) (nI_add (377 + (9 * Wn)) 3) ?_
                          refine lv_iload hx hb dX9_walkItem_235 (lv_at hl 0 rfl) ?_
                          refine lv_iadd hx hb dX9_walkItem_237 ?_
                          refine xl_i (y := nI (377 + (9 * Wn) + 3 + i)) (nI_add (377 + (9 * Wn) + 3) i) ?_
                          refine lv_aload_n hx hb dX9_walkItem_238 rfl (lv_at hl 5 rfl) ?_
                          refine xg hF kf_X9_40 hK hP 2 rfl rfl dX9_walkItem_239 ?_
                          refine lv_iload hx hb dX9_walkItem_242 (lv_at hl 0 rfl) ?_
                          refine va_iald hx hb hK hP 0 0 rfl rfl (vp_in_nI (show i < 6 by omega) (by decide)) dX9_walkItem_244 ?_
                          refine xl_i (y := a8 i) (congrArg a8 (nI_clamp (show i < 2 ^ 31 by omega))) ?_
                          obtain ⟨z_1001, ez_1001, hz_10010⟩ := wk_A.get hA8 (i_931 (i_942 c_985).1).1 (show i < n8 by omega)
                          refine xl_i (y := nI (z_1001)) ez_1001 ?_
                          refine va_iast hx hb hK hP hD hS 3 0 rfl rfl (vp_in_nI (show 377 + (9 * Wn) + 3 + i < 449 by omega) (by decide)) dX9_walkItem_245 (fun H locs hP hD hS => ?_)
                          rw [nI_clamp (show 377 + (9 * Wn) + 3 + i < 2 ^ 31 by omega)] at hP hD
                          obtain ⟨f_1002, ef_1002⟩ : ∃ g, g = upd s8 (377 + (9 * Wn) + 3 + i) (nI (z_1001)) := ⟨_, rfl⟩
                          rw [← ef_1002] at hP hD
                          have k0_f_1002 : f_1002 0 = nI P := by rw [ef_1002]; exact (pk_un (show 0 ≠ (377 + (9 * Wn) + 3 + i) by omega)).trans ht0
                          have k1_f_1002 : f_1002 1 = nI Rn := by rw [ef_1002]; exact (pk_un (show 1 ≠ (377 + (9 * Wn) + 3 + i) by omega)).trans ht1
                          have k2_f_1002 : f_1002 2 = nI (Wn + 1) := by rw [ef_1002]; exact (pk_un (show 2 ≠ (377 + (9 * Wn) + 3 + i) by omega)).trans ht2
                          have kS_f_1002 : SI f_1002 := by rw [ef_1002]; exact SI.upd htS (okS.ws (w := Wn) (i := i) (by omega) (by omega) (by omega) (show z_1001 < 10 by omega))
                          have kM_f_1002 : MI f_1002 := by rw [ef_1002]; exact MI.upd htM (okM.out (show (377 + (9 * Wn) + 3 + i) < 13 ∨ 113 ≤ (377 + (9 * Wn) + 3 + i) by omega))
                          have kR_f_1002 : RI Rn f_1002 := by rw [ef_1002]; exact RI.upd htR (fun r9 hr9 e9 => by omega)
                          have hP : va_P D vwCl [(ywa, .inl (cI, 6, .inl a8)), (yta, .inl (cI, 120, .inl tp)), (h0, .inr (9, [.ref ys, .ref yk, .ref yo, .ref yt, .int mk0, .ref yfa, .ref yfe, .int mL, .int mS, .int mM, .ref yro, .ref yhe, .ref ygr, .int mF, .int mC, .int mY, .ref yta, .int (nI (mz)), .int (nI (f2_933)), .int (nI (t2_934)), .int v2_935, .int w2_936, .ref ywa, .ref ybi, .ref ysi, .ref ynu, .ref ymo])), (ys, .inl (cI, 449, .inl f_1002))] H := hP
                          have hD : va_D A [(ywa, .inl (cI, 6, .inl a8)), (yta, .inl (cI, 120, .inl tp)), (h0, .inr (9, [.ref ys, .ref yk, .ref yo, .ref yt, .int mk0, .ref yfa, .ref yfe, .int mL, .int mS, .int mM, .ref yro, .ref yhe, .ref ygr, .int mF, .int mC, .int mY, .ref yta, .int (nI (mz)), .int (nI (f2_933)), .int (nI (t2_934)), .int v2_935, .int w2_936, .ref ywa, .ref ybi, .ref ysi, .ref ynu, .ref ymo])), (ys, .inl (cI, 449, .inl f_1002))] := hD
                          refine lv_iinc (v := nI (i + 1)) (lv' := [(5, .int (nI (i + 1))), (4, .int (nI (377 + (9 * Wn)))), (3, .int 0), (2, .int v2_935), (1, .int (nI (n8))), (0, .ref h0)]) hx hb dX9_walkItem_246 hl (k := 0) rfl (nI_1 (i)) (by decide) rfl (fun ls hl => ?_)
                          refine lv_goto (tgt := 221) hx hb dX9_walkItem_249 (by decide) ?_
                          exact ih_221 (i + 1) f_1002 _ _ _ (by omega) (by omega) (by omega) k0_f_1002 k1_f_1002 k2_f_1002 kS_f_1002 kM_f_1002 htp htr htw kR_f_1002 (hP.sub [0, 1, 2, 3] rfl) (hD.sub [0, 1, 2, 3] (by decide) rfl) hS (lv_sub hl [0, 1, 2, 3, 4, 5] rfl)
                · skip
                  refine xc_Vv (wr := [(ys, .inl (cI, 449, .inl ms)), (ywa, .inl (cI, 6, .inl a8))]) hF (c_X9_needs l D cI cJ cZ cS ta sa sv H.size h0 ys yk yo yt mk0 yfa yfe mL mS mM yro yhe ygr mF mC mY yta mz f8 t8 mv w8 ywa ybi ysi ynu ymo tp 0 (by omega) (by omega) (by omega) (by omega) (by omega)) kv_X9_278 ⟨rfl, rfl, Nat.le_of_ble_eq_true rfl, Nat.le_of_ble_eq_true rfl⟩ ⟨Nat.le_of_ble_eq_true rfl, Nat.le_of_ble_eq_true rfl⟩ hK hN hZ hP hD hS hA [2, 3] [0, 1] rfl rfl rfl rfl (by decide) 0 rfl rfl rfl rfl hl.1 rfl (Nat.le_of_ble_eq_true rfl) dX9_walkItem_120 (fun u_r_1003 H locs hw_r_1003 hP hD hS => ?_)
                  obtain ⟨f2_1004, t2_1005, w2_1006⟩ := u_r_1003
                  try dsimp only at hw_r_1003
                  obtain ⟨i_1007, i_1008, i_1009, i_1010, i_1011, i_1012⟩ := hw_r_1003
                  have hP : va_P D vwCl [(ys, .inl (cI, 449, .inl ms)), (ywa, .inl (cI, 6, .inl a8)), (h0, .inr (9, [.ref ys, .ref yk, .ref yo, .ref yt, .int mk0, .ref yfa, .ref yfe, .int mL, .int mS, .int mM, .ref yro, .ref yhe, .ref ygr, .int mF, .int mC, .int mY, .ref yta, .int (nI (mz)), .int (nI (f2_1004)), .int (nI (t2_1005)), .int mv, .int w2_1006, .ref ywa, .ref ybi, .ref ysi, .ref ynu, .ref ymo])), (yta, .inl (cI, 120, .inl tp))] H := hP
                  have hD : va_D A [(ys, .inl (cI, 449, .inl ms)), (ywa, .inl (cI, 6, .inl a8)), (h0, .inr (9, [.ref ys, .ref yk, .ref yo, .ref yt, .int mk0, .ref yfa, .ref yfe, .int mL, .int mS, .int mM, .ref yro, .ref yhe, .ref ygr, .int mF, .int mC, .int mY, .ref yta, .int (nI (mz)), .int (nI (f2_1004)), .int (nI (t2_1005)), .int mv, .int w2_1006, .ref ywa, .ref ybi, .ref ysi, .ref ynu, .ref ymo])), (yta, .inl (cI, 120, .inl tp))] := hD
                  refine lv_aload_n hx hb dX9_walkItem_123 rfl (lv_at hl 1 rfl) ?_
                  refine lv_sipush (v := (-9999)) hx hb dX9_walkItem_124 (by decide) ?_
                  refine lv_sipush (v := 9999) hx hb dX9_walkItem_127 (by decide) ?_
                  refine xc_Vv (wr := [(ys, .inl (cI, 449, .inl ms)), (ywa, .inl (cI, 6, .inl a8))]) hF (c_X9_mile l D cI cJ cZ cS ta sa sv H.size h0 ys yk yo yt mk0 yfa yfe mL mS mM yro yhe ygr mF mC mY yta mz f2_1004 t2_1005 mv w2_1006 ywa ybi ysi ynu ymo tp (-9999) 9999 (by omega) (by omega) (by omega) (by omega) (by omega)) kv_X9_287 ⟨rfl, rfl, Nat.le_of_ble_eq_true rfl, Nat.le_of_ble_eq_true rfl⟩ ⟨Nat.le_of_ble_eq_true rfl, Nat.le_of_ble_eq_true rfl⟩ hK hN hZ hP hD hS hA [2, 3] [0, 1] rfl rfl rfl rfl (by decide) 0 rfl rfl rfl rfl hl.1 rfl (Nat.le_of_ble_eq_true rfl) dX9_walkItem_130 (fun u_r_1013 H locs hw_r_1013 hP hD hS => ?_)
                  obtain ⟨f2_1014, t2_1015, v2_1016, w2_1017⟩ := u_r_1013
                  try dsimp only at hw_r_1013
                  obtain ⟨i_1018, i_1019, i_1020, i_1021, i_1022, i_1023⟩ := hw_r_1013
                  have hP : va_P D vwCl [(ys, .inl (cI, 449, .inl ms)), (ywa, .inl (cI, 6, .inl a8)), (h0, .inr (9, [.ref ys, .ref yk, .ref yo, .ref yt, .int mk0, .ref yfa, .ref yfe, .int mL, .int mS, .int mM, .ref yro, .ref yhe, .ref ygr, .int mF, .int mC, .int mY, .ref yta, .int (nI (mz)), .int (nI (f2_1014)), .int (nI (t2_1015)), .int v2_1016, .int w2_1017, .ref ywa, .ref ybi, .ref ysi, .ref ynu, .ref ymo])), (yta, .inl (cI, 120, .inl tp))] H := hP
                  have hD : va_D A [(ys, .inl (cI, 449, .inl ms)), (ywa, .inl (cI, 6, .inl a8)), (h0, .inr (9, [.ref ys, .ref yk, .ref yo, .ref yt, .int mk0, .ref yfa, .ref yfe, .int mL, .int mS, .int mM, .ref yro, .ref yhe, .ref ygr, .int mF, .int mC, .int mY, .ref yta, .int (nI (mz)), .int (nI (f2_1014)), .int (nI (t2_1015)), .int v2_1016, .int w2_1017, .ref ywa, .ref ybi, .ref ysi, .ref ynu, .ref ymo])), (yta, .inl (cI, 120, .inl tp))] := hD
                  refine lv_aload_n hx hb dX9_walkItem_133 rfl (lv_at hl 1 rfl) ?_
                  refine xg hF kf_X9_275 hK hP 2 rfl rfl dX9_walkItem_134 ?_
                  refine lv_istore_n (lv' := [(2, .int v2_1016), (1, .int (nI (n8))), (0, .ref h0)]) hx hb dX9_walkItem_137 rfl hl (by decide) rfl (fun ls hl => ?_)
                  refine lv_iconst (v := 0) hx hb dX9_walkItem_138 (by decide) ?_
                  refine lv_istore_n (lv' := [(3, .int 0), (2, .int v2_1016), (1, .int (nI (n8))), (0, .ref h0)]) hx hb dX9_walkItem_139 rfl hl (by decide) rfl (fun ls hl => ?_)
                  refine lv_aload_n hx hb dX9_walkItem_140 rfl (lv_at hl 3 rfl) ?_
                  refine lv_bipush (v := 115) hx hb dX9_walkItem_141 (by decide) ?_
                  refine lv_bipush (v := 108) hx hb dX9_walkItem_143 (by decide) ?_
                  refine lv_bipush (v := 97) hx hb dX9_walkItem_145 (by decide) ?_
                  refine lv_bipush (v := 99) hx hb dX9_walkItem_147 (by decide) ?_
                  refine lv_bipush (v := 107) hx hb dX9_walkItem_149 (by decide) ?_
                  refine lv_iconst (v := 0) hx hb dX9_walkItem_151 (by decide) ?_
                  refine lv_iconst (v := 0) hx hb dX9_walkItem_152 (by decide) ?_
                  refine xc_Vr hF (c_X9_isWord l D cI cJ cZ cS ta sa sv H.size h0 ys yk yo yt mk0 yfa yfe mL mS mM yro yhe ygr mF mC mY yta mz f2_1014 t2_1015 v2_1016 w2_1017 ywa ybi ysi ynu ymo tp 115 108 97 99 107 0 0 (by omega) (by omega)) kv_X9_290 ⟨rfl, rfl, Nat.le_of_ble_eq_true rfl, Nat.le_of_ble_eq_true rfl⟩ ⟨Nat.le_of_ble_eq_true rfl, Nat.le_of_ble_eq_true rfl⟩ hK hN hZ hP hD hS hA [2, 3] rfl rfl 0 rfl rfl rfl rfl hl.1 rfl (Nat.le_of_ble_eq_true rfl) dX9_walkItem_153 (fun r_1024 hw_r_1024 => ?_)
                  rcases hw_r_1024 with rfl | rfl
                  · skip
                    refine lv_if_eq (tgt := 176) hx hb dX9_walkItem_156 (by decide) (fun c_1025 => absurd c_1025 (by decide)) (fun c_1025 => ?_)
                    refine lv_aload_n hx hb dX9_walkItem_159 rfl (lv_at hl 3 rfl) ?_
                    refine lv_iconst (v := 1) hx hb dX9_walkItem_160 (by decide) ?_
                    refine xc_Vv (wr := [(ys, .inl (cI, 449, .inl ms)), (ywa, .inl (cI, 6, .inl a8))]) hF (c_X9_needs l D cI cJ cZ cS ta sa sv H.size h0 ys yk yo yt mk0 yfa yfe mL mS mM yro yhe ygr mF mC mY yta mz f2_1014 t2_1015 v2_1016 w2_1017 ywa ybi ysi ynu ymo tp 1 (by omega) (by omega) (by omega) (by omega) (by omega)) kv_X9_278 ⟨rfl, rfl, Nat.le_of_ble_eq_true rfl, Nat.le_of_ble_eq_true rfl⟩ ⟨Nat.le_of_ble_eq_true rfl, Nat.le_of_ble_eq_true rfl⟩ hK hN hZ hP hD hS hA [2, 3] [0, 1] rfl rfl rfl rfl (by decide) 0 rfl rfl rfl rfl hl.1 rfl (Nat.le_of_ble_eq_true rfl) dX9_walkItem_161 (fun u_r_1026 H locs hw_r_1026 hP hD hS => ?_)
                    obtain ⟨f2_1027, t2_1028, w2_1029⟩ := u_r_1026
                    try dsimp only at hw_r_1026
                    obtain ⟨i_1030, i_1031, i_1032, i_1033, i_1034, i_1035⟩ := hw_r_1026
                    have hP : va_P D vwCl [(ys, .inl (cI, 449, .inl ms)), (ywa, .inl (cI, 6, .inl a8)), (h0, .inr (9, [.ref ys, .ref yk, .ref yo, .ref yt, .int mk0, .ref yfa, .ref yfe, .int mL, .int mS, .int mM, .ref yro, .ref yhe, .ref ygr, .int mF, .int mC, .int mY, .ref yta, .int (nI (mz)), .int (nI (f2_1027)), .int (nI (t2_1028)), .int v2_1016, .int w2_1029, .ref ywa, .ref ybi, .ref ysi, .ref ynu, .ref ymo])), (yta, .inl (cI, 120, .inl tp))] H := hP
                    have hD : va_D A [(ys, .inl (cI, 449, .inl ms)), (ywa, .inl (cI, 6, .inl a8)), (h0, .inr (9, [.ref ys, .ref yk, .ref yo, .ref yt, .int mk0, .ref yfa, .ref yfe, .int mL, .int mS, .int mM, .ref yro, .ref yhe, .ref ygr, .int mF, .int mC, .int mY, .ref yta, .int (nI (mz)), .int (nI (f2_1027)), .int (nI (t2_1028)), .int v2_1016, .int w2_1029, .ref ywa, .ref ybi, .ref ysi, .ref ynu, .ref ymo])), (yta, .inl (cI, 120, .inl tp))] := hD
                    refine lv_aload_n hx hb dX9_walkItem_164 rfl (lv_at hl 3 rfl) ?_
                    refine lv_iconst (v := 0) hx hb dX9_walkItem_165 (by decide) ?_
                    refine lv_bipush (v := 99) hx hb dX9_walkItem_166 (by decide) ?_
                    refine xc_Vv (wr := [(ys, .inl (cI, 449, .inl ms)), (ywa, .inl (cI, 6, .inl a8))]) hF (c_X9_number l D cI cJ cZ cS ta sa sv H.size h0 ys yk yo yt mk0 yfa yfe mL mS mM yro yhe ygr mF mC mY yta mz f2_1027 t2_1028 v2_1016 w2_1029 ywa ybi ysi ynu ymo tp 0 99 (by omega) (by omega) (by omega) (by omega) (by omega)) kv_X9_282 ⟨rfl, rfl, Nat.le_of_ble_eq_true rfl, Nat.le_of_ble_eq_true rfl⟩ ⟨Nat.le_of_ble_eq_true rfl, Nat.le_of_ble_eq_true rfl⟩ hK hN hZ hP hD hS hA [2, 3] [0, 1] rfl rfl rfl rfl (by decide) 0 rfl rfl rfl rfl hl.1 rfl (Nat.le_of_ble_eq_true rfl) dX9_walkItem_168 (fun u_r_1036 H locs hw_r_1036 hP hD hS => ?_)
                    obtain ⟨f2_1037, t2_1038, v2_1039, w2_1040⟩ := u_r_1036
                    try dsimp only at hw_r_1036
                    obtain ⟨i_1041, i_1042, i_1043, i_1044, i_1045, i_1046⟩ := hw_r_1036
                    have hP : va_P D vwCl [(ys, .inl (cI, 449, .inl ms)), (ywa, .inl (cI, 6, .inl a8)), (h0, .inr (9, [.ref ys, .ref yk, .ref yo, .ref yt, .int mk0, .ref yfa, .ref yfe, .int mL, .int mS, .int mM, .ref yro, .ref yhe, .ref ygr, .int mF, .int mC, .int mY, .ref yta, .int (nI (mz)), .int (nI (f2_1037)), .int (nI (t2_1038)), .int v2_1039, .int w2_1040, .ref ywa, .ref ybi, .ref ysi, .ref ynu, .ref ymo])), (yta, .inl (cI, 120, .inl tp))] H := hP
                    have hD : va_D A [(ys, .inl (cI, 449, .inl ms)), (ywa, .inl (cI, 6, .inl a8)), (h0, .inr (9, [.ref ys, .ref yk, .ref yo, .ref yt, .int mk0, .ref yfa, .ref yfe, .int mL, .int mS, .int mM, .ref yro, .ref yhe, .ref ygr, .int mF, .int mC, .int mY, .ref yta, .int (nI (mz)), .int (nI (f2_1037)), .int (nI (t2_1038)), .int v2_1039, .int w2_1040, .ref ywa, .ref ybi, .ref ysi, .ref ynu, .ref ymo])), (yta, .inl (cI, 120, .inl tp))] := hD
                    refine lv_aload_n hx hb dX9_walkItem_171 rfl (lv_at hl 3 rfl) ?_
                    refine xg hF kf_X9_275 hK hP 2 rfl rfl dX9_walkItem_172 ?_
                    refine lv_istore_n (lv' := [(3, .int v2_1039), (2, .int v2_1016), (1, .int (nI (n8))), (0, .ref h0)]) hx hb dX9_walkItem_175 rfl hl (by decide) rfl (fun ls hl => ?_)
                    refine lv_aload_n hx hb dX9_walkItem_176 rfl (lv_at hl 3 rfl) ?_
                    refine xg hF kf_X9_266 hK hP 2 rfl rfl dX9_walkItem_177 ?_
                    refine lv_if_ne (tgt := 252) hx hb dX9_walkItem_180 (by decide) (fun c_1047 => ?_) (fun c_1047 => absurd rfl (i_1012 (i_1023 (i_1035 (i_1046 c_1047).1).1).1).2.1)
                    exact W.vret hx hb hr (fun t ht hW => ⟨⟨(f2_1037, t2_1038, v2_1039, w2_1040, ms, a8, Wn), rfl, ⟨(by first | assumption | omega), (by first | assumption | omega), (by first | assumption | omega), (by first | assumption | omega), (by first | assumption | omega), (fun h => ⟨(i_578 (hc8 (i_1012 (i_1023 (i_1035 (i_1046 h).1).1).1).1).1).1, trivial⟩), hs0, hs1, hs2, hsS, hsM, hsp, hsr, hsw, hsR⟩, by rw [ht]; exact hP.sub [2, 0, 3, 1] rfl, hD.sub [2, 0, 3, 1] (by decide) rfl⟩, hS.F ht⟩) hS.2.2 dX9_walkItem_252 hlk
                  · skip
                    refine lv_if_eq (tgt := 176) hx hb dX9_walkItem_156 (by decide) (fun c_1048 => ?_) (fun c_1048 => absurd (by decide) c_1048)
                    refine lv_aload_n hx hb dX9_walkItem_176 rfl (lv_at hl 3 rfl) ?_
                    refine xg hF kf_X9_266 hK hP 2 rfl rfl dX9_walkItem_177 ?_
                    refine lv_if_ne (tgt := 252) hx hb dX9_walkItem_180 (by decide) (fun c_1049 => ?_) (fun c_1049 => absurd rfl (i_1012 (i_1023 c_1049).1).2.1)
                    exact W.vret hx hb hr (fun t ht hW => ⟨⟨(f2_1014, t2_1015, v2_1016, w2_1017, ms, a8, Wn), rfl, ⟨(by first | assumption | omega), (by first | assumption | omega), (by first | assumption | omega), (by first | assumption | omega), (by first | assumption | omega), (fun h => ⟨(i_578 (hc8 (i_1012 (i_1023 h).1).1).1).1, trivial⟩), hs0, hs1, hs2, hsS, hsM, hsp, hsr, hsw, hsR⟩, by rw [ht]; exact hP.sub [2, 0, 3, 1] rfl, hD.sub [2, 0, 3, 1] (by decide) rfl⟩, hS.F ht⟩) hS.2.2 dX9_walkItem_252 hlk
            · skip
              refine xc_Sr hF (c_X9_isDigit l D cI cJ cZ cS ta sa sv H.size (-1) ) ks_X9_263 ⟨rfl, rfl, Nat.le_of_ble_eq_true rfl, Nat.le_of_ble_eq_true rfl⟩ ⟨Nat.le_of_ble_eq_true rfl, Nat.le_of_ble_eq_true rfl⟩ hK hN hZ hP hD hS hA [] rfl rfl rfl hl.1 rfl (Nat.le_of_ble_eq_true rfl) dX9_walkItem_48 (fun r_1050 hw_r_1050 => ?_)
              rcases hw_r_1050 with ⟨rfl, h_1051, h_1052⟩ | ⟨rfl, h_1053⟩
              · skip
                refine lv_if_eq (tgt := 105) hx hb dX9_walkItem_51 (by decide) (fun c_1054 => absurd c_1054 (by decide)) (fun c_1054 => ?_)
                refine lv_aload_n hx hb dX9_walkItem_54 rfl (lv_at hl 1 rfl) ?_
                refine xc_Vr hF (c_X9_numberHere l D cI cJ cZ cS ta sa sv H.size h0 ys yk yo yt mk0 yfa yfe mL mS mM yro yhe ygr mF mC mY yta mz f8 t8 mv w8 ywa ybi ysi ynu ymo tp (by omega) (by omega) (by omega) (by omega) (by omega)) kv_X9_284 ⟨rfl, rfl, Nat.le_of_ble_eq_true rfl, Nat.le_of_ble_eq_true rfl⟩ ⟨Nat.le_of_ble_eq_true rfl, Nat.le_of_ble_eq_true rfl⟩ hK hN hZ hP hD hS hA [2, 3] rfl rfl 0 rfl rfl rfl rfl hl.1 rfl (Nat.le_of_ble_eq_true rfl) dX9_walkItem_55 (fun r_1055 hw_r_1055 => ?_)
                refine lv_istore_n (lv' := [(2, .int r_1055), (1, .int (nI (n8))), (0, .ref h0)]) hx hb dX9_walkItem_58 rfl hl (by decide) rfl (fun ls hl => ?_)
                refine lv_aload_n hx hb dX9_walkItem_59 rfl (lv_at hl 2 rfl) ?_
                refine lv_aload_n hx hb dX9_walkItem_60 rfl (lv_at hl 2 rfl) ?_
                refine lv_iload_n hx hb dX9_walkItem_61 rfl (lv_at hl 0 rfl) ?_
                refine xc_Vr hF (c_X9_isPlace l D cI cJ cZ cS ta sa sv H.size h0 ys yk yo yt mk0 yfa yfe mL mS mM yro yhe ygr mF mC mY yta mz f8 t8 mv w8 ywa ybi ysi ynu ymo ms P Rn Wn r_1055 hs0 hs1 hs2 hsS hsM hsp hsr hsw hsR) kv_X9_61 ⟨rfl, rfl, Nat.le_of_ble_eq_true rfl, Nat.le_of_ble_eq_true rfl⟩ ⟨Nat.le_of_ble_eq_true rfl, Nat.le_of_ble_eq_true rfl⟩ hK hN hZ hP hD hS hA [2, 0] rfl rfl 0 rfl rfl rfl rfl hl.1 rfl (Nat.le_of_ble_eq_true rfl) dX9_walkItem_62 (fun r_1056 hw_r_1056 => ?_)
                rcases hw_r_1056 with ⟨k_1057, rfl, rfl, h_1059⟩ | rfl
                · skip
                  refine lv_if_eq (tgt := 88) hx hb dX9_walkItem_65 (by decide) (fun c_1060 => absurd c_1060 (by decide)) (fun c_1060 => ?_)
                  refine lv_iload_n hx hb dX9_walkItem_68 rfl (lv_at hl 1 rfl) ?_
                  refine lv_if_eq (tgt := 84) hx hb dX9_walkItem_69 (by decide) (fun c_1061 => ?_) (fun c_1061 => ?_)
                  · skip
                    have nc_1061 : n8 = 0 := xn_eq (a := n8) (b := 0) (by omega) (by omega) c_1061
                    refine lv_iconst (v := 1) hx hb dX9_walkItem_84 (by decide) ?_
                    refine lv_goto (tgt := 89) hx hb dX9_walkItem_85 (by decide) ?_
                    refine xc_Vv (wr := [(ys, .inl (cI, 449, .inl ms)), (ywa, .inl (cI, 6, .inl a8))]) hF (c_X9_needs l D cI cJ cZ cS ta sa sv H.size h0 ys yk yo yt mk0 yfa yfe mL mS mM yro yhe ygr mF mC mY yta mz f8 t8 mv w8 ywa ybi ysi ynu ymo tp 1 (by omega) (by omega) (by omega) (by omega) (by omega)) kv_X9_278 ⟨rfl, rfl, Nat.le_of_ble_eq_true rfl, Nat.le_of_ble_eq_true rfl⟩ ⟨Nat.le_of_ble_eq_true rfl, Nat.le_of_ble_eq_true rfl⟩ hK hN hZ hP hD hS hA [2, 3] [0, 1] rfl rfl rfl rfl (by decide) 0 rfl rfl rfl rfl hl.1 rfl (Nat.le_of_ble_eq_true rfl) dX9_walkItem_89 (fun u_r_1062 H locs hw_r_1062 hP hD hS => ?_)
                    obtain ⟨f2_1063, t2_1064, w2_1065⟩ := u_r_1062
                    try dsimp only at hw_r_1062
                    obtain ⟨i_1066, i_1067, i_1068, i_1069, i_1070, i_1071⟩ := hw_r_1062
                    have hP : va_P D vwCl [(ys, .inl (cI, 449, .inl ms)), (ywa, .inl (cI, 6, .inl a8)), (h0, .inr (9, [.ref ys, .ref yk, .ref yo, .ref yt, .int mk0, .ref yfa, .ref yfe, .int mL, .int mS, .int mM, .ref yro, .ref yhe, .ref ygr, .int mF, .int mC, .int mY, .ref yta, .int (nI (mz)), .int (nI (f2_1063)), .int (nI (t2_1064)), .int mv, .int w2_1065, .ref ywa, .ref ybi, .ref ysi, .ref ynu, .ref ymo])), (yta, .inl (cI, 120, .inl tp))] H := hP
                    have hD : va_D A [(ys, .inl (cI, 449, .inl ms)), (ywa, .inl (cI, 6, .inl a8)), (h0, .inr (9, [.ref ys, .ref yk, .ref yo, .ref yt, .int mk0, .ref yfa, .ref yfe, .int mL, .int mS, .int mM, .ref yro, .ref yhe, .ref ygr, .int mF, .int mC, .int mY, .ref yta, .int (nI (mz)), .int (nI (f2_1063)), .int (nI (t2_1064)), .int mv, .int w2_1065, .ref ywa, .ref ybi, .ref ysi, .ref ynu, .ref ymo])), (yta, .inl (cI, 120, .inl tp))] := hD
                    refine lv_aload_n hx hb dX9_walkItem_92 rfl (lv_at hl 2 rfl) ?_
                    refine xg hF kf_X9_40 hK hP 2 rfl rfl dX9_walkItem_93 ?_
                    refine lv_iload_n hx hb dX9_walkItem_96 rfl (lv_at hl 1 rfl) ?_
                    refine lv_iload_n hx hb dX9_walkItem_97 rfl (lv_at hl 0 rfl) ?_
                    refine va_iast hx hb hK hP hD hS 1 0 rfl rfl (vp_in_nI (show n8 < 6 by omega) (by decide)) dX9_walkItem_98 (fun H locs hP hD hS => ?_)
                    rw [nI_clamp (show n8 < 2 ^ 31 by omega)] at hP hD
                    obtain ⟨f_1072, ef_1072⟩ : ∃ g, g = upd a8 n8 (nI (k_1057)) := ⟨_, rfl⟩
                    rw [← ef_1072] at hP hD
                    have hP : va_P D vwCl [(ys, .inl (cI, 449, .inl ms)), (ywa, .inl (cI, 6, .inl f_1072)), (h0, .inr (9, [.ref ys, .ref yk, .ref yo, .ref yt, .int mk0, .ref yfa, .ref yfe, .int mL, .int mS, .int mM, .ref yro, .ref yhe, .ref ygr, .int mF, .int mC, .int mY, .ref yta, .int (nI (mz)), .int (nI (f2_1063)), .int (nI (t2_1064)), .int mv, .int w2_1065, .ref ywa, .ref ybi, .ref ysi, .ref ynu, .ref ymo])), (yta, .inl (cI, 120, .inl tp))] H := hP
                    have hD : va_D A [(ys, .inl (cI, 449, .inl ms)), (ywa, .inl (cI, 6, .inl f_1072)), (h0, .inr (9, [.ref ys, .ref yk, .ref yo, .ref yt, .int mk0, .ref yfa, .ref yfe, .int mL, .int mS, .int mM, .ref yro, .ref yhe, .ref ygr, .int mF, .int mC, .int mY, .ref yta, .int (nI (mz)), .int (nI (f2_1063)), .int (nI (t2_1064)), .int mv, .int w2_1065, .ref ywa, .ref ybi, .ref ysi, .ref ynu, .ref ymo])), (yta, .inl (cI, 120, .inl tp))] := hD
                    refine lv_iinc (v := nI (n8 + 1)) (lv' := [(1, .int (nI (n8 + 1))), (2, .int (nI (k_1057))), (0, .ref h0)]) hx hb dX9_walkItem_99 hl (k := 1) rfl (nI_1 (n8)) (by decide) rfl (fun ls hl => ?_)
                    refine lv_goto (tgt := 22) hx hb dX9_walkItem_102 (by decide) ?_
                    exact ih_22 (n8 + 1) f2_1063 t2_1064 w2_1065 f_1072 _ _ _ (by omega) (by omega) (by omega) (by omega) (by omega) (by omega) (by omega) (fun h => ⟨(hc8 (i_1071 h).1).1, trivial⟩) (wk_A.put hA8 c_579 (show k_1057 < 10 by omega) ef_1072) (hP.sub [0, 1, 2, 3] rfl) (hD.sub [0, 1, 2, 3] (by decide) rfl) hS (lv_sub hl [0, 2] rfl)
                  · skip
                    have nc_1061 : n8 ≠ 0 := xn_ne (a := n8) (b := 0) (by omega) (by omega) c_1061
                    refine lv_iload_n hx hb dX9_walkItem_72 rfl (lv_at hl 0 rfl) ?_
                    refine lv_aload_n hx hb dX9_walkItem_73 rfl (lv_at hl 2 rfl) ?_
                    refine xg hF kf_X9_40 hK hP 2 rfl rfl dX9_walkItem_74 ?_
                    refine lv_iload_n hx hb dX9_walkItem_77 rfl (lv_at hl 1 rfl) ?_
                    refine lv_iconst (v := 1) hx hb dX9_walkItem_78 (by decide) ?_
                    refine lv_isub hx hb dX9_walkItem_79 ?_
                    refine xl_i (y := nI (n8 - 1)) (pk_sub (show 1 ≤ n8 by omega)) ?_
                    refine va_iald hx hb hK hP 1 0 rfl rfl (vp_in_nI (show n8 - 1 < 6 by omega) (by decide)) dX9_walkItem_80 ?_
                    refine xl_i (y := a8 (n8 - 1)) (congrArg a8 (nI_clamp (show n8 - 1 < 2 ^ 31 by omega))) ?_
                    refine lv_icmp_eq (tgt := 88) hx hb dX9_walkItem_81 (by decide) (fun c_1073 => ?_) (fun c_1073 => ?_)
                    · skip
                      refine lv_iconst (v := 0) hx hb dX9_walkItem_88 (by decide) ?_
                      refine xc_Vv (wr := [(ys, .inl (cI, 449, .inl ms)), (ywa, .inl (cI, 6, .inl a8))]) hF (c_X9_needs l D cI cJ cZ cS ta sa sv H.size h0 ys yk yo yt mk0 yfa yfe mL mS mM yro yhe ygr mF mC mY yta mz f8 t8 mv w8 ywa ybi ysi ynu ymo tp 0 (by omega) (by omega) (by omega) (by omega) (by omega)) kv_X9_278 ⟨rfl, rfl, Nat.le_of_ble_eq_true rfl, Nat.le_of_ble_eq_true rfl⟩ ⟨Nat.le_of_ble_eq_true rfl, Nat.le_of_ble_eq_true rfl⟩ hK hN hZ hP hD hS hA [2, 3] [0, 1] rfl rfl rfl rfl (by decide) 0 rfl rfl rfl rfl hl.1 rfl (Nat.le_of_ble_eq_true rfl) dX9_walkItem_89 (fun u_r_1074 H locs hw_r_1074 hP hD hS => ?_)
                      obtain ⟨f2_1075, t2_1076, w2_1077⟩ := u_r_1074
                      try dsimp only at hw_r_1074
                      obtain ⟨i_1078, i_1079, i_1080, i_1081, i_1082, i_1083⟩ := hw_r_1074
                      have hP : va_P D vwCl [(ys, .inl (cI, 449, .inl ms)), (ywa, .inl (cI, 6, .inl a8)), (h0, .inr (9, [.ref ys, .ref yk, .ref yo, .ref yt, .int mk0, .ref yfa, .ref yfe, .int mL, .int mS, .int mM, .ref yro, .ref yhe, .ref ygr, .int mF, .int mC, .int mY, .ref yta, .int (nI (mz)), .int (nI (f2_1075)), .int (nI (t2_1076)), .int mv, .int w2_1077, .ref ywa, .ref ybi, .ref ysi, .ref ynu, .ref ymo])), (yta, .inl (cI, 120, .inl tp))] H := hP
                      have hD : va_D A [(ys, .inl (cI, 449, .inl ms)), (ywa, .inl (cI, 6, .inl a8)), (h0, .inr (9, [.ref ys, .ref yk, .ref yo, .ref yt, .int mk0, .ref yfa, .ref yfe, .int mL, .int mS, .int mM, .ref yro, .ref yhe, .ref ygr, .int mF, .int mC, .int mY, .ref yta, .int (nI (mz)), .int (nI (f2_1075)), .int (nI (t2_1076)), .int mv, .int w2_1077, .ref ywa, .ref ybi, .ref ysi, .ref ynu, .ref ymo])), (yta, .inl (cI, 120, .inl tp))] := hD
                      refine lv_aload_n hx hb dX9_walkItem_92 rfl (lv_at hl 2 rfl) ?_
                      refine xg hF kf_X9_40 hK hP 2 rfl rfl dX9_walkItem_93 ?_
                      refine lv_iload_n hx hb dX9_walkItem_96 rfl (lv_at hl 1 rfl) ?_
                      refine lv_iload_n hx hb dX9_walkItem_97 rfl (lv_at hl 0 rfl) ?_
                      refine va_iast hx hb hK hP hD hS 1 0 rfl rfl (vp_in_nI (show n8 < 6 by omega) (by decide)) dX9_walkItem_98 (fun H locs hP hD hS => ?_)
                      rw [nI_clamp (show n8 < 2 ^ 31 by omega)] at hP hD
                      obtain ⟨f_1084, ef_1084⟩ : ∃ g, g = upd a8 n8 (nI (k_1057)) := ⟨_, rfl⟩
                      rw [← ef_1084] at hP hD
                      have hP : va_P D vwCl [(ys, .inl (cI, 449, .inl ms)), (ywa, .inl (cI, 6, .inl f_1084)), (h0, .inr (9, [.ref ys, .ref yk, .ref yo, .ref yt, .int mk0, .ref yfa, .ref yfe, .int mL, .int mS, .int mM, .ref yro, .ref yhe, .ref ygr, .int mF, .int mC, .int mY, .ref yta, .int (nI (mz)), .int (nI (f2_1075)), .int (nI (t2_1076)), .int mv, .int w2_1077, .ref ywa, .ref ybi, .ref ysi, .ref ynu, .ref ymo])), (yta, .inl (cI, 120, .inl tp))] H := hP
                      have hD : va_D A [(ys, .inl (cI, 449, .inl ms)), (ywa, .inl (cI, 6, .inl f_1084)), (h0, .inr (9, [.ref ys, .ref yk, .ref yo, .ref yt, .int mk0, .ref yfa, .ref yfe, .int mL, .int mS, .int mM, .ref yro, .ref yhe, .ref ygr, .int mF, .int mC, .int mY, .ref yta, .int (nI (mz)), .int (nI (f2_1075)), .int (nI (t2_1076)), .int mv, .int w2_1077, .ref ywa, .ref ybi, .ref ysi, .ref ynu, .ref ymo])), (yta, .inl (cI, 120, .inl tp))] := hD
                      refine lv_iinc (v := nI (n8 + 1)) (lv' := [(1, .int (nI (n8 + 1))), (2, .int (nI (k_1057))), (0, .ref h0)]) hx hb dX9_walkItem_99 hl (k := 1) rfl (nI_1 (n8)) (by decide) rfl (fun ls hl => ?_)
                      refine lv_goto (tgt := 22) hx hb dX9_walkItem_102 (by decide) ?_
                      exact ih_22 (n8 + 1) f2_1075 t2_1076 w2_1077 f_1084 _ _ _ (by omega) (by omega) (by omega) (by omega) (by omega) (by omega) (by omega) (fun h => ⟨(hc8 (i_1083 h).1).1, trivial⟩) (wk_A.no (fun h => absurd rfl (i_1083 h).2.1)) (hP.sub [0, 1, 2, 3] rfl) (hD.sub [0, 1, 2, 3] (by decide) rfl) hS (lv_sub hl [0, 2] rfl)
                    · skip
                      refine lv_iconst (v := 1) hx hb dX9_walkItem_84 (by decide) ?_
                      refine lv_goto (tgt := 89) hx hb dX9_walkItem_85 (by decide) ?_
                      refine xc_Vv (wr := [(ys, .inl (cI, 449, .inl ms)), (ywa, .inl (cI, 6, .inl a8))]) hF (c_X9_needs l D cI cJ cZ cS ta sa sv H.size h0 ys yk yo yt mk0 yfa yfe mL mS mM yro yhe ygr mF mC mY yta mz f8 t8 mv w8 ywa ybi ysi ynu ymo tp 1 (by omega) (by omega) (by omega) (by omega) (by omega)) kv_X9_278 ⟨rfl, rfl, Nat.le_of_ble_eq_true rfl, Nat.le_of_ble_eq_true rfl⟩ ⟨Nat.le_of_ble_eq_true rfl, Nat.le_of_ble_eq_true rfl⟩ hK hN hZ hP hD hS hA [2, 3] [0, 1] rfl rfl rfl rfl (by decide) 0 rfl rfl rfl rfl hl.1 rfl (Nat.le_of_ble_eq_true rfl) dX9_walkItem_89 (fun u_r_1085 H locs hw_r_1085 hP hD hS => ?_)
                      obtain ⟨f2_1086, t2_1087, w2_1088⟩ := u_r_1085
                      try dsimp only at hw_r_1085
                      obtain ⟨i_1089, i_1090, i_1091, i_1092, i_1093, i_1094⟩ := hw_r_1085
                      have hP : va_P D vwCl [(ys, .inl (cI, 449, .inl ms)), (ywa, .inl (cI, 6, .inl a8)), (h0, .inr (9, [.ref ys, .ref yk, .ref yo, .ref yt, .int mk0, .ref yfa, .ref yfe, .int mL, .int mS, .int mM, .ref yro, .ref yhe, .ref ygr, .int mF, .int mC, .int mY, .ref yta, .int (nI (mz)), .int (nI (f2_1086)), .int (nI (t2_1087)), .int mv, .int w2_1088, .ref ywa, .ref ybi, .ref ysi, .ref ynu, .ref ymo])), (yta, .inl (cI, 120, .inl tp))] H := hP
                      have hD : va_D A [(ys, .inl (cI, 449, .inl ms)), (ywa, .inl (cI, 6, .inl a8)), (h0, .inr (9, [.ref ys, .ref yk, .ref yo, .ref yt, .int mk0, .ref yfa, .ref yfe, .int mL, .int mS, .int mM, .ref yro, .ref yhe, .ref ygr, .int mF, .int mC, .int mY, .ref yta, .int (nI (mz)), .int (nI (f2_1086)), .int (nI (t2_1087)), .int mv, .int w2_1088, .ref ywa, .ref ybi, .ref ysi, .ref ynu, .ref ymo])), (yta, .inl (cI, 120, .inl tp))] := hD
                      refine lv_aload_n hx hb dX9_walkItem_92 rfl (lv_at hl 2 rfl) ?_
                      refine xg hF kf_X9_40 hK hP 2 rfl rfl dX9_walkItem_93 ?_
                      refine lv_iload_n hx hb dX9_walkItem_96 rfl (lv_at hl 1 rfl) ?_
                      refine lv_iload_n hx hb dX9_walkItem_97 rfl (lv_at hl 0 rfl) ?_
                      refine va_iast hx hb hK hP hD hS 1 0 rfl rfl (vp_in_nI (show n8 < 6 by omega) (by decide)) dX9_walkItem_98 (fun H locs hP hD hS => ?_)
                      rw [nI_clamp (show n8 < 2 ^ 31 by omega)] at hP hD
                      obtain ⟨f_1095, ef_1095⟩ : ∃ g, g = upd a8 n8 (nI (k_1057)) := ⟨_, rfl⟩
                      rw [← ef_1095] at hP hD
                      have hP : va_P D vwCl [(ys, .inl (cI, 449, .inl ms)), (ywa, .inl (cI, 6, .inl f_1095)), (h0, .inr (9, [.ref ys, .ref yk, .ref yo, .ref yt, .int mk0, .ref yfa, .ref yfe, .int mL, .int mS, .int mM, .ref yro, .ref yhe, .ref ygr, .int mF, .int mC, .int mY, .ref yta, .int (nI (mz)), .int (nI (f2_1086)), .int (nI (t2_1087)), .int mv, .int w2_1088, .ref ywa, .ref ybi, .ref ysi, .ref ynu, .ref ymo])), (yta, .inl (cI, 120, .inl tp))] H := hP
                      have hD : va_D A [(ys, .inl (cI, 449, .inl ms)), (ywa, .inl (cI, 6, .inl f_1095)), (h0, .inr (9, [.ref ys, .ref yk, .ref yo, .ref yt, .int mk0, .ref yfa, .ref yfe, .int mL, .int mS, .int mM, .ref yro, .ref yhe, .ref ygr, .int mF, .int mC, .int mY, .ref yta, .int (nI (mz)), .int (nI (f2_1086)), .int (nI (t2_1087)), .int mv, .int w2_1088, .ref ywa, .ref ybi, .ref ysi, .ref ynu, .ref ymo])), (yta, .inl (cI, 120, .inl tp))] := hD
                      refine lv_iinc (v := nI (n8 + 1)) (lv' := [(1, .int (nI (n8 + 1))), (2, .int (nI (k_1057))), (0, .ref h0)]) hx hb dX9_walkItem_99 hl (k := 1) rfl (nI_1 (n8)) (by decide) rfl (fun ls hl => ?_)
                      refine lv_goto (tgt := 22) hx hb dX9_walkItem_102 (by decide) ?_
                      exact ih_22 (n8 + 1) f2_1086 t2_1087 w2_1088 f_1095 _ _ _ (by omega) (by omega) (by omega) (by omega) (by omega) (by omega) (by omega) (fun h => ⟨(hc8 (i_1094 h).1).1, trivial⟩) (wk_A.put hA8 c_579 (show k_1057 < 10 by omega) ef_1095) (hP.sub [0, 1, 2, 3] rfl) (hD.sub [0, 1, 2, 3] (by decide) rfl) hS (lv_sub hl [0, 2] rfl)
                · skip
                  refine lv_if_eq (tgt := 88) hx hb dX9_walkItem_65 (by decide) (fun c_1096 => ?_) (fun c_1096 => absurd (by decide) c_1096)
                  refine lv_iconst (v := 0) hx hb dX9_walkItem_88 (by decide) ?_
                  refine xc_Vv (wr := [(ys, .inl (cI, 449, .inl ms)), (ywa, .inl (cI, 6, .inl a8))]) hF (c_X9_needs l D cI cJ cZ cS ta sa sv H.size h0 ys yk yo yt mk0 yfa yfe mL mS mM yro yhe ygr mF mC mY yta mz f8 t8 mv w8 ywa ybi ysi ynu ymo tp 0 (by omega) (by omega) (by omega) (by omega) (by omega)) kv_X9_278 ⟨rfl, rfl, Nat.le_of_ble_eq_true rfl, Nat.le_of_ble_eq_true rfl⟩ ⟨Nat.le_of_ble_eq_true rfl, Nat.le_of_ble_eq_true rfl⟩ hK hN hZ hP hD hS hA [2, 3] [0, 1] rfl rfl rfl rfl (by decide) 0 rfl rfl rfl rfl hl.1 rfl (Nat.le_of_ble_eq_true rfl) dX9_walkItem_89 (fun u_r_1097 H locs hw_r_1097 hP hD hS => ?_)
                  obtain ⟨f2_1098, t2_1099, w2_1100⟩ := u_r_1097
                  try dsimp only at hw_r_1097
                  obtain ⟨i_1101, i_1102, i_1103, i_1104, i_1105, i_1106⟩ := hw_r_1097
                  have hP : va_P D vwCl [(ys, .inl (cI, 449, .inl ms)), (ywa, .inl (cI, 6, .inl a8)), (h0, .inr (9, [.ref ys, .ref yk, .ref yo, .ref yt, .int mk0, .ref yfa, .ref yfe, .int mL, .int mS, .int mM, .ref yro, .ref yhe, .ref ygr, .int mF, .int mC, .int mY, .ref yta, .int (nI (mz)), .int (nI (f2_1098)), .int (nI (t2_1099)), .int mv, .int w2_1100, .ref ywa, .ref ybi, .ref ysi, .ref ynu, .ref ymo])), (yta, .inl (cI, 120, .inl tp))] H := hP
                  have hD : va_D A [(ys, .inl (cI, 449, .inl ms)), (ywa, .inl (cI, 6, .inl a8)), (h0, .inr (9, [.ref ys, .ref yk, .ref yo, .ref yt, .int mk0, .ref yfa, .ref yfe, .int mL, .int mS, .int mM, .ref yro, .ref yhe, .ref ygr, .int mF, .int mC, .int mY, .ref yta, .int (nI (mz)), .int (nI (f2_1098)), .int (nI (t2_1099)), .int mv, .int w2_1100, .ref ywa, .ref ybi, .ref ysi, .ref ynu, .ref ymo])), (yta, .inl (cI, 120, .inl tp))] := hD
                  refine lv_aload_n hx hb dX9_walkItem_92 rfl (lv_at hl 2 rfl) ?_
                  refine xg hF kf_X9_40 hK hP 2 rfl rfl dX9_walkItem_93 ?_
                  refine lv_iload_n hx hb dX9_walkItem_96 rfl (lv_at hl 1 rfl) ?_
                  refine lv_iload_n hx hb dX9_walkItem_97 rfl (lv_at hl 0 rfl) ?_
                  refine va_iast hx hb hK hP hD hS 1 0 rfl rfl (vp_in_nI (show n8 < 6 by omega) (by decide)) dX9_walkItem_98 (fun H locs hP hD hS => ?_)
                  rw [nI_clamp (show n8 < 2 ^ 31 by omega)] at hP hD
                  obtain ⟨f_1107, ef_1107⟩ : ∃ g, g = upd a8 n8 r_1055 := ⟨_, rfl⟩
                  rw [← ef_1107] at hP hD
                  have hP : va_P D vwCl [(ys, .inl (cI, 449, .inl ms)), (ywa, .inl (cI, 6, .inl f_1107)), (h0, .inr (9, [.ref ys, .ref yk, .ref yo, .ref yt, .int mk0, .ref yfa, .ref yfe, .int mL, .int mS, .int mM, .ref yro, .ref yhe, .ref ygr, .int mF, .int mC, .int mY, .ref yta, .int (nI (mz)), .int (nI (f2_1098)), .int (nI (t2_1099)), .int mv, .int w2_1100, .ref ywa, .ref ybi, .ref ysi, .ref ynu, .ref ymo])), (yta, .inl (cI, 120, .inl tp))] H := hP
                  have hD : va_D A [(ys, .inl (cI, 449, .inl ms)), (ywa, .inl (cI, 6, .inl f_1107)), (h0, .inr (9, [.ref ys, .ref yk, .ref yo, .ref yt, .int mk0, .ref yfa, .ref yfe, .int mL, .int mS, .int mM, .ref yro, .ref yhe, .ref ygr, .int mF, .int mC, .int mY, .ref yta, .int (nI (mz)), .int (nI (f2_1098)), .int (nI (t2_1099)), .int mv, .int w2_1100, .ref ywa, .ref ybi, .ref ysi, .ref ynu, .ref ymo])), (yta, .inl (cI, 120, .inl tp))] := hD
                  refine lv_iinc (v := nI (n8 + 1)) (lv' := [(1, .int (nI (n8 + 1))), (2, .int r_1055), (0, .ref h0)]) hx hb dX9_walkItem_99 hl (k := 1) rfl (nI_1 (n8)) (by decide) rfl (fun ls hl => ?_)
                  refine lv_goto (tgt := 22) hx hb dX9_walkItem_102 (by decide) ?_
                  exact ih_22 (n8 + 1) f2_1098 t2_1099 w2_1100 f_1107 _ _ _ (by omega) (by omega) (by omega) (by omega) (by omega) (by omega) (by omega) (fun h => ⟨(hc8 (i_1106 h).1).1, trivial⟩) (wk_A.no (fun h => absurd rfl (i_1106 h).2.1)) (hP.sub [0, 1, 2, 3] rfl) (hD.sub [0, 1, 2, 3] (by decide) rfl) hS (lv_sub hl [0, 2] rfl)
              · skip
                refine lv_if_eq (tgt := 105) hx hb dX9_walkItem_51 (by decide) (fun c_1108 => ?_) (fun c_1108 => absurd (by decide) c_1108)
                refine lv_aload_n hx hb dX9_walkItem_105 rfl (lv_at hl 1 rfl) ?_
                refine lv_aload_n hx hb dX9_walkItem_106 rfl (lv_at hl 1 rfl) ?_
                refine lv_bipush (v := 97) hx hb dX9_walkItem_107 (by decide) ?_
                refine lv_bipush (v := 108) hx hb dX9_walkItem_109 (by decide) ?_
                refine lv_bipush (v := 108) hx hb dX9_walkItem_111 (by decide) ?_
                refine lv_iconst (v := 0) hx hb dX9_walkItem_113 (by decide) ?_
                refine lv_iconst (v := 0) hx hb dX9_walkItem_114 (by decide) ?_
                refine lv_iconst (v := 0) hx hb dX9_walkItem_115 (by decide) ?_
                refine lv_iconst (v := 0) hx hb dX9_walkItem_116 (by decide) ?_
                refine xc_Vr hF (c_X9_isWord l D cI cJ cZ cS ta sa sv H.size h0 ys yk yo yt mk0 yfa yfe mL mS mM yro yhe ygr mF mC mY yta mz f8 t8 mv w8 ywa ybi ysi ynu ymo tp 97 108 108 0 0 0 0 (by omega) (by omega)) kv_X9_290 ⟨rfl, rfl, Nat.le_of_ble_eq_true rfl, Nat.le_of_ble_eq_true rfl⟩ ⟨Nat.le_of_ble_eq_true rfl, Nat.le_of_ble_eq_true rfl⟩ hK hN hZ hP hD hS hA [2, 3] rfl rfl 0 rfl rfl rfl rfl hl.1 rfl (Nat.le_of_ble_eq_true rfl) dX9_walkItem_117 (fun r_1109 hw_r_1109 => ?_)
                rcases hw_r_1109 with rfl | rfl
                · skip
                  refine xc_Vv (wr := [(ys, .inl (cI, 449, .inl ms)), (ywa, .inl (cI, 6, .inl a8))]) hF (c_X9_needs l D cI cJ cZ cS ta sa sv H.size h0 ys yk yo yt mk0 yfa yfe mL mS mM yro yhe ygr mF mC mY yta mz f8 t8 mv w8 ywa ybi ysi ynu ymo tp 1 (by omega) (by omega) (by omega) (by omega) (by omega)) kv_X9_278 ⟨rfl, rfl, Nat.le_of_ble_eq_true rfl, Nat.le_of_ble_eq_true rfl⟩ ⟨Nat.le_of_ble_eq_true rfl, Nat.le_of_ble_eq_true rfl⟩ hK hN hZ hP hD hS hA [2, 3] [0, 1] rfl rfl rfl rfl (by decide) 0 rfl rfl rfl rfl hl.1 rfl (Nat.le_of_ble_eq_true rfl) dX9_walkItem_120 (fun u_r_1110 H locs hw_r_1110 hP hD hS => ?_)
                  obtain ⟨f2_1111, t2_1112, w2_1113⟩ := u_r_1110
                  try dsimp only at hw_r_1110
                  obtain ⟨i_1114, i_1115, i_1116, i_1117, i_1118, i_1119⟩ := hw_r_1110
                  have hP : va_P D vwCl [(ys, .inl (cI, 449, .inl ms)), (ywa, .inl (cI, 6, .inl a8)), (h0, .inr (9, [.ref ys, .ref yk, .ref yo, .ref yt, .int mk0, .ref yfa, .ref yfe, .int mL, .int mS, .int mM, .ref yro, .ref yhe, .ref ygr, .int mF, .int mC, .int mY, .ref yta, .int (nI (mz)), .int (nI (f2_1111)), .int (nI (t2_1112)), .int mv, .int w2_1113, .ref ywa, .ref ybi, .ref ysi, .ref ynu, .ref ymo])), (yta, .inl (cI, 120, .inl tp))] H := hP
                  have hD : va_D A [(ys, .inl (cI, 449, .inl ms)), (ywa, .inl (cI, 6, .inl a8)), (h0, .inr (9, [.ref ys, .ref yk, .ref yo, .ref yt, .int mk0, .ref yfa, .ref yfe, .int mL, .int mS, .int mM, .ref yro, .ref yhe, .ref ygr, .int mF, .int mC, .int mY, .ref yta, .int (nI (mz)), .int (nI (f2_1111)), .int (nI (t2_1112)), .int mv, .int w2_1113, .ref ywa, .ref ybi, .ref ysi, .ref ynu, .ref ymo])), (yta, .inl (cI, 120, .inl tp))] := hD
                  refine lv_aload_n hx hb dX9_walkItem_123 rfl (lv_at hl 1 rfl) ?_
                  refine lv_sipush (v := (-9999)) hx hb dX9_walkItem_124 (by decide) ?_
                  refine lv_sipush (v := 9999) hx hb dX9_walkItem_127 (by decide) ?_
                  refine xc_Vv (wr := [(ys, .inl (cI, 449, .inl ms)), (ywa, .inl (cI, 6, .inl a8))]) hF (c_X9_mile l D cI cJ cZ cS ta sa sv H.size h0 ys yk yo yt mk0 yfa yfe mL mS mM yro yhe ygr mF mC mY yta mz f2_1111 t2_1112 mv w2_1113 ywa ybi ysi ynu ymo tp (-9999) 9999 (by omega) (by omega) (by omega) (by omega) (by omega)) kv_X9_287 ⟨rfl, rfl, Nat.le_of_ble_eq_true rfl, Nat.le_of_ble_eq_true rfl⟩ ⟨Nat.le_of_ble_eq_true rfl, Nat.le_of_ble_eq_true rfl⟩ hK hN hZ hP hD hS hA [2, 3] [0, 1] rfl rfl rfl rfl (by decide) 0 rfl rfl rfl rfl hl.1 rfl (Nat.le_of_ble_eq_true rfl) dX9_walkItem_130 (fun u_r_1120 H locs hw_r_1120 hP hD hS => ?_)
                  obtain ⟨f2_1121, t2_1122, v2_1123, w2_1124⟩ := u_r_1120
                  try dsimp only at hw_r_1120
                  obtain ⟨i_1125, i_1126, i_1127, i_1128, i_1129, i_1130⟩ := hw_r_1120
                  have hP : va_P D vwCl [(ys, .inl (cI, 449, .inl ms)), (ywa, .inl (cI, 6, .inl a8)), (h0, .inr (9, [.ref ys, .ref yk, .ref yo, .ref yt, .int mk0, .ref yfa, .ref yfe, .int mL, .int mS, .int mM, .ref yro, .ref yhe, .ref ygr, .int mF, .int mC, .int mY, .ref yta, .int (nI (mz)), .int (nI (f2_1121)), .int (nI (t2_1122)), .int v2_1123, .int w2_1124, .ref ywa, .ref ybi, .ref ysi, .ref ynu, .ref ymo])), (yta, .inl (cI, 120, .inl tp))] H := hP
                  have hD : va_D A [(ys, .inl (cI, 449, .inl ms)), (ywa, .inl (cI, 6, .inl a8)), (h0, .inr (9, [.ref ys, .ref yk, .ref yo, .ref yt, .int mk0, .ref yfa, .ref yfe, .int mL, .int mS, .int mM, .ref yro, .ref yhe, .ref ygr, .int mF, .int mC, .int mY, .ref yta, .int (nI (mz)), .int (nI (f2_1121)), .int (nI (t2_1122)), .int v2_1123, .int w2_1124, .ref ywa, .ref ybi, .ref ysi, .ref ynu, .ref ymo])), (yta, .inl (cI, 120, .inl tp))] := hD
                  refine lv_aload_n hx hb dX9_walkItem_133 rfl (lv_at hl 1 rfl) ?_
                  refine xg hF kf_X9_275 hK hP 2 rfl rfl dX9_walkItem_134 ?_
                  refine lv_istore_n (lv' := [(2, .int v2_1123), (1, .int (nI (n8))), (0, .ref h0)]) hx hb dX9_walkItem_137 rfl hl (by decide) rfl (fun ls hl => ?_)
                  refine lv_iconst (v := 0) hx hb dX9_walkItem_138 (by decide) ?_
                  refine lv_istore_n (lv' := [(3, .int 0), (2, .int v2_1123), (1, .int (nI (n8))), (0, .ref h0)]) hx hb dX9_walkItem_139 rfl hl (by decide) rfl (fun ls hl => ?_)
                  refine lv_aload_n hx hb dX9_walkItem_140 rfl (lv_at hl 3 rfl) ?_
                  refine lv_bipush (v := 115) hx hb dX9_walkItem_141 (by decide) ?_
                  refine lv_bipush (v := 108) hx hb dX9_walkItem_143 (by decide) ?_
                  refine lv_bipush (v := 97) hx hb dX9_walkItem_145 (by decide) ?_
                  refine lv_bipush (v := 99) hx hb dX9_walkItem_147 (by decide) ?_
                  refine lv_bipush (v := 107) hx hb dX9_walkItem_149 (by decide) ?_
                  refine lv_iconst (v := 0) hx hb dX9_walkItem_151 (by decide) ?_
                  refine lv_iconst (v := 0) hx hb dX9_walkItem_152 (by decide) ?_
                  refine xc_Vr hF (c_X9_isWord l D cI cJ cZ cS ta sa sv H.size h0 ys yk yo yt mk0 yfa yfe mL mS mM yro yhe ygr mF mC mY yta mz f2_1121 t2_1122 v2_1123 w2_1124 ywa ybi ysi ynu ymo tp 115 108 97 99 107 0 0 (by omega) (by omega)) kv_X9_290 ⟨rfl, rfl, Nat.le_of_ble_eq_true rfl, Nat.le_of_ble_eq_true rfl⟩ ⟨Nat.le_of_ble_eq_true rfl, Nat.le_of_ble_eq_true rfl⟩ hK hN hZ hP hD hS hA [2, 3] rfl rfl 0 rfl rfl rfl rfl hl.1 rfl (Nat.le_of_ble_eq_true rfl) dX9_walkItem_153 (fun r_1131 hw_r_1131 => ?_)
                  rcases hw_r_1131 with rfl | rfl
                  · skip
                    refine lv_if_eq (tgt := 176) hx hb dX9_walkItem_156 (by decide) (fun c_1132 => absurd c_1132 (by decide)) (fun c_1132 => ?_)
                    refine lv_aload_n hx hb dX9_walkItem_159 rfl (lv_at hl 3 rfl) ?_
                    refine lv_iconst (v := 1) hx hb dX9_walkItem_160 (by decide) ?_
                    refine xc_Vv (wr := [(ys, .inl (cI, 449, .inl ms)), (ywa, .inl (cI, 6, .inl a8))]) hF (c_X9_needs l D cI cJ cZ cS ta sa sv H.size h0 ys yk yo yt mk0 yfa yfe mL mS mM yro yhe ygr mF mC mY yta mz f2_1121 t2_1122 v2_1123 w2_1124 ywa ybi ysi ynu ymo tp 1 (by omega) (by omega) (by omega) (by omega) (by omega)) kv_X9_278 ⟨rfl, rfl, Nat.le_of_ble_eq_true rfl, Nat.le_of_ble_eq_true rfl⟩ ⟨Nat.le_of_ble_eq_true rfl, Nat.le_of_ble_eq_true rfl⟩ hK hN hZ hP hD hS hA [2, 3] [0, 1] rfl rfl rfl rfl (by decide) 0 rfl rfl rfl rfl hl.1 rfl (Nat.le_of_ble_eq_true rfl) dX9_walkItem_161 (fun u_r_1133 H locs hw_r_1133 hP hD hS => ?_)
                    obtain ⟨f2_1134, t2_1135, w2_1136⟩ := u_r_1133
                    try dsimp only at hw_r_1133
                    obtain ⟨i_1137, i_1138, i_1139, i_1140, i_1141, i_1142⟩ := hw_r_1133
                    have hP : va_P D vwCl [(ys, .inl (cI, 449, .inl ms)), (ywa, .inl (cI, 6, .inl a8)), (h0, .inr (9, [.ref ys, .ref yk, .ref yo, .ref yt, .int mk0, .ref yfa, .ref yfe, .int mL, .int mS, .int mM, .ref yro, .ref yhe, .ref ygr, .int mF, .int mC, .int mY, .ref yta, .int (nI (mz)), .int (nI (f2_1134)), .int (nI (t2_1135)), .int v2_1123, .int w2_1136, .ref ywa, .ref ybi, .ref ysi, .ref ynu, .ref ymo])), (yta, .inl (cI, 120, .inl tp))] H := hP
                    have hD : va_D A [(ys, .inl (cI, 449, .inl ms)), (ywa, .inl (cI, 6, .inl a8)), (h0, .inr (9, [.ref ys, .ref yk, .ref yo, .ref yt, .int mk0, .ref yfa, .ref yfe, .int mL, .int mS, .int mM, .ref yro, .ref yhe, .ref ygr, .int mF, .int mC, .int mY, .ref yta, .int (nI (mz)), .int (nI (f2_1134)), .int (nI (t2_1135)), .int v2_1123, .int w2_1136, .ref ywa, .ref ybi, .ref ysi, .ref ynu, .ref ymo])), (yta, .inl (cI, 120, .inl tp))] := hD
                    refine lv_aload_n hx hb dX9_walkItem_164 rfl (lv_at hl 3 rfl) ?_
                    refine lv_iconst (v := 0) hx hb dX9_walkItem_165 (by decide) ?_
                    refine lv_bipush (v := 99) hx hb dX9_walkItem_166 (by decide) ?_
                    refine xc_Vv (wr := [(ys, .inl (cI, 449, .inl ms)), (ywa, .inl (cI, 6, .inl a8))]) hF (c_X9_number l D cI cJ cZ cS ta sa sv H.size h0 ys yk yo yt mk0 yfa yfe mL mS mM yro yhe ygr mF mC mY yta mz f2_1134 t2_1135 v2_1123 w2_1136 ywa ybi ysi ynu ymo tp 0 99 (by omega) (by omega) (by omega) (by omega) (by omega)) kv_X9_282 ⟨rfl, rfl, Nat.le_of_ble_eq_true rfl, Nat.le_of_ble_eq_true rfl⟩ ⟨Nat.le_of_ble_eq_true rfl, Nat.le_of_ble_eq_true rfl⟩ hK hN hZ hP hD hS hA [2, 3] [0, 1] rfl rfl rfl rfl (by decide) 0 rfl rfl rfl rfl hl.1 rfl (Nat.le_of_ble_eq_true rfl) dX9_walkItem_168 (fun u_r_1143 H locs hw_r_1143 hP hD hS => ?_)
                    obtain ⟨f2_1144, t2_1145, v2_1146, w2_1147⟩ := u_r_1143
                    try dsimp only at hw_r_1143
                    obtain ⟨i_1148, i_1149, i_1150, i_1151, i_1152, i_1153⟩ := hw_r_1143
                    have hP : va_P D vwCl [(ys, .inl (cI, 449, .inl ms)), (ywa, .inl (cI, 6, .inl a8)), (h0, .inr (9, [.ref ys, .ref yk, .ref yo, .ref yt, .int mk0, .ref yfa, .ref yfe, .int mL, .int mS, .int mM, .ref yro, .ref yhe, .ref ygr, .int mF, .int mC, .int mY, .ref yta, .int (nI (mz)), .int (nI (f2_1144)), .int (nI (t2_1145)), .int v2_1146, .int w2_1147, .ref ywa, .ref ybi, .ref ysi, .ref ynu, .ref ymo])), (yta, .inl (cI, 120, .inl tp))] H := hP
                    have hD : va_D A [(ys, .inl (cI, 449, .inl ms)), (ywa, .inl (cI, 6, .inl a8)), (h0, .inr (9, [.ref ys, .ref yk, .ref yo, .ref yt, .int mk0, .ref yfa, .ref yfe, .int mL, .int mS, .int mM, .ref yro, .ref yhe, .ref ygr, .int mF, .int mC, .int mY, .ref yta, .int (nI (mz)), .int (nI (f2_1144)), .int (nI (t2_1145)), .int v2_1146, .int w2_1147, .ref ywa, .ref ybi, .ref ysi, .ref ynu, .ref ymo])), (yta, .inl (cI, 120, .inl tp))] := hD
                    refine lv_aload_n hx hb dX9_walkItem_171 rfl (lv_at hl 3 rfl) ?_
                    refine xg hF kf_X9_275 hK hP 2 rfl rfl dX9_walkItem_172 ?_
                    refine lv_istore_n (lv' := [(3, .int v2_1146), (2, .int v2_1123), (1, .int (nI (n8))), (0, .ref h0)]) hx hb dX9_walkItem_175 rfl hl (by decide) rfl (fun ls hl => ?_)
                    refine lv_aload_n hx hb dX9_walkItem_176 rfl (lv_at hl 3 rfl) ?_
                    refine xg hF kf_X9_266 hK hP 2 rfl rfl dX9_walkItem_177 ?_
                    refine lv_if_ne (tgt := 252) hx hb dX9_walkItem_180 (by decide) (fun c_1154 => ?_) (fun c_1154 => ?_)
                    · skip
                      exact W.vret hx hb hr (fun t ht hW => ⟨⟨(f2_1144, t2_1145, v2_1146, w2_1147, ms, a8, Wn), rfl, ⟨(by first | assumption | omega), (by first | assumption | omega), (by first | assumption | omega), (by first | assumption | omega), (by first | assumption | omega), (fun h => ⟨(i_578 (hc8 (i_1119 (i_1130 (i_1142 (i_1153 h).1).1).1).1).1).1, trivial⟩), hs0, hs1, hs2, hsS, hsM, hsp, hsr, hsw, hsR⟩, by rw [ht]; exact hP.sub [2, 0, 3, 1] rfl, hD.sub [2, 0, 3, 1] (by decide) rfl⟩, hS.F ht⟩) hS.2.2 dX9_walkItem_252 hlk
                    · skip
                      refine lv_sipush (v := 377) hx hb dX9_walkItem_183 (by decide) ?_
                      refine lv_bipush (v := 9) hx hb dX9_walkItem_186 (by decide) ?_
                      refine lv_aload_n hx hb dX9_walkItem_188 rfl (lv_at hl 3 rfl) ?_
                      refine lv_aload_n hx hb dX9_walkItem_189 rfl (lv_at hl 3 rfl) ?_
                      refine xg hF kf_X9_40 hK hP 2 rfl rfl dX9_walkItem_190 ?_
                      refine lv_iconst (v := 0) hx hb dX9_walkItem_193 (by decide) ?_
                      refine va_iald hx hb hK hP 1 0 rfl rfl (xin 0 6 (by decide) (by decide)) dX9_walkItem_194 ?_
                      refine xl_i (y := a8 0) (congrArg a8 rfl) ?_
                      obtain ⟨z_1155, ez_1155, hz_11550⟩ := wk_A.get hA8 (i_1119 (i_1130 (i_1142 (i_1153 c_1154).1).1).1).1 (show 0 < n8 by omega)
                      refine xl_i (y := nI (z_1155)) ez_1155 ?_
                      refine lv_aload_n hx hb dX9_walkItem_195 rfl (lv_at hl 3 rfl) ?_
                      refine xg hF kf_X9_40 hK hP 2 rfl rfl dX9_walkItem_196 ?_
                      refine lv_iconst (v := 1) hx hb dX9_walkItem_199 (by decide) ?_
                      refine va_iald hx hb hK hP 1 0 rfl rfl (xin 1 6 (by decide) (by decide)) dX9_walkItem_200 ?_
                      refine xl_i (y := a8 1) (congrArg a8 rfl) ?_
                      obtain ⟨z_1156, ez_1156, hz_11560⟩ := wk_A.get hA8 (i_1119 (i_1130 (i_1142 (i_1153 c_1154).1).1).1).1 (show 1 < n8 by omega)
                      refine xl_i (y := nI (z_1156)) ez_1156 ?_
                      refine lv_iload_n hx hb dX9_walkItem_201 rfl (lv_at hl 1 rfl) ?_
                      refine lv_iload_n hx hb dX9_walkItem_202 rfl (lv_at hl 0 rfl) ?_
                      refine xc_Vi (wr := [(ywa, .inl (cI, 6, .inl a8)), (yta, .inl (cI, 120, .inl tp))]) hF (c_X9_newWalk l D cI cJ cZ cS ta sa sv H.size h0 ys yk yo yt mk0 yfa yfe mL mS mM yro yhe ygr mF mC mY yta mz f2_1144 t2_1145 v2_1146 w2_1147 ywa ybi ysi ynu ymo ms P Rn Wn z_1155 z_1156 v2_1123 v2_1146 (by omega) (by omega) (by omega) hs0 hs1 hs2 hsS hsM hsp hsr hsw hsR) kv_X9_196 ⟨rfl, rfl, Nat.le_of_ble_eq_true rfl, Nat.le_of_ble_eq_true rfl⟩ ⟨Nat.le_of_ble_eq_true rfl, Nat.le_of_ble_eq_true rfl⟩ hK hN hZ hP hD hS hA [2, 0] [1, 3] rfl rfl rfl rfl (by decide) 0 rfl rfl rfl rfl hl.1 rfl (Nat.le_of_ble_eq_true rfl) dX9_walkItem_203 (fun r_1157 u_r_1157 H locs hw_r_1157 hP hD hS => ?_)
                      obtain ⟨ms2_1158, rfl⟩ : ∃ z, z = u_r_1157 := ⟨_, rfl⟩
                      try dsimp only at hw_r_1157
                      obtain ⟨hw_r_1157, i_1159, i_1160, i_1161, i_1162, i_1163, i_1164, i_1165, i_1166, i_1167⟩ := hw_r_1157
                      have hP : va_P D vwCl [(ywa, .inl (cI, 6, .inl a8)), (yta, .inl (cI, 120, .inl tp)), (h0, .inr (9, [.ref ys, .ref yk, .ref yo, .ref yt, .int mk0, .ref yfa, .ref yfe, .int mL, .int mS, .int mM, .ref yro, .ref yhe, .ref ygr, .int mF, .int mC, .int mY, .ref yta, .int (nI (mz)), .int (nI (f2_1144)), .int (nI (t2_1145)), .int v2_1146, .int w2_1147, .ref ywa, .ref ybi, .ref ysi, .ref ynu, .ref ymo])), (ys, .inl (cI, 449, .inl ms2_1158))] H := hP
                      have hD : va_D A [(ywa, .inl (cI, 6, .inl a8)), (yta, .inl (cI, 120, .inl tp)), (h0, .inr (9, [.ref ys, .ref yk, .ref yo, .ref yt, .int mk0, .ref yfa, .ref yfe, .int mL, .int mS, .int mM, .ref yro, .ref yhe, .ref ygr, .int mF, .int mC, .int mY, .ref yta, .int (nI (mz)), .int (nI (f2_1144)), .int (nI (t2_1145)), .int v2_1146, .int w2_1147, .ref ywa, .ref ybi, .ref ysi, .ref ynu, .ref ymo])), (ys, .inl (cI, 449, .inl ms2_1158))] := hD
                      subst hw_r_1157
                      refine lv_imul hx hb dX9_walkItem_206 ?_
                      refine xl_i (y := nI (9 * Wn)) (pk_mul 9 Wn) ?_
                      refine lv_iadd hx hb dX9_walkItem_207 ?_
                      refine xl_i (y := nI (377 + (9 * Wn))) (nI_add 377 (9 * Wn)) ?_
                      refine lv_istore (lv' := [(4, .int (nI (377 + (9 * Wn)))), (3, .int v2_1146), (2, .int v2_1123), (1, .int (nI (n8))), (0, .ref h0)]) hx hb dX9_walkItem_208 hl (by decide) rfl (fun ls hl => ?_)
                      refine lv_aload_n hx hb dX9_walkItem_210 rfl (lv_at hl 4 rfl) ?_
                      refine xg hF kf_X9_7 hK hP 2 rfl rfl dX9_walkItem_211 ?_
                      refine lv_iload hx hb dX9_walkItem_214 (lv_at hl 0 rfl) ?_
                      refine lv_iload_n hx hb dX9_walkItem_216 rfl (lv_at hl 3 rfl) ?_
                      refine va_iast hx hb hK hP hD hS 3 0 rfl rfl (vp_in_nI (show 377 + (9 * Wn) < 449 by omega) (by decide)) dX9_walkItem_217 (fun H locs hP hD hS => ?_)
                      rw [nI_clamp (show 377 + (9 * Wn) < 2 ^ 31 by omega)] at hP hD
                      obtain ⟨f_1168, ef_1168⟩ : ∃ g, g = upd ms2_1158 (377 + (9 * Wn)) (nI (n8)) := ⟨_, rfl⟩
                      rw [← ef_1168] at hP hD
                      have k0_f_1168 : f_1168 0 = nI P := by rw [ef_1168]; exact (pk_un (show 0 ≠ (377 + (9 * Wn)) by omega)).trans i_1159
                      have k1_f_1168 : f_1168 1 = nI Rn := by rw [ef_1168]; exact (pk_un (show 1 ≠ (377 + (9 * Wn)) by omega)).trans i_1160
                      have k2_f_1168 : f_1168 2 = nI (Wn + 1) := by rw [ef_1168]; exact (pk_un (show 2 ≠ (377 + (9 * Wn)) by omega)).trans i_1161
                      have kS_f_1168 : SI f_1168 := by rw [ef_1168]; exact SI.upd i_1162 (okS.wl (w := Wn) (q := n8) (by omega) (by omega) (by omega))
                      have kM_f_1168 : MI f_1168 := by rw [ef_1168]; exact MI.upd i_1163 (okM.out (show (377 + (9 * Wn)) < 13 ∨ 113 ≤ (377 + (9 * Wn)) by omega))
                      have kR_f_1168 : RI Rn f_1168 := by rw [ef_1168]; exact RI.upd i_1167 (fun r9 hr9 e9 => by omega)
                      have hP : va_P D vwCl [(ywa, .inl (cI, 6, .inl a8)), (yta, .inl (cI, 120, .inl tp)), (h0, .inr (9, [.ref ys, .ref yk, .ref yo, .ref yt, .int mk0, .ref yfa, .ref yfe, .int mL, .int mS, .int mM, .ref yro, .ref yhe, .ref ygr, .int mF, .int mC, .int mY, .ref yta, .int (nI (mz)), .int (nI (f2_1144)), .int (nI (t2_1145)), .int v2_1146, .int w2_1147, .ref ywa, .ref ybi, .ref ysi, .ref ynu, .ref ymo])), (ys, .inl (cI, 449, .inl f_1168))] H := hP
                      have hD : va_D A [(ywa, .inl (cI, 6, .inl a8)), (yta, .inl (cI, 120, .inl tp)), (h0, .inr (9, [.ref ys, .ref yk, .ref yo, .ref yt, .int mk0, .ref yfa, .ref yfe, .int mL, .int mS, .int mM, .ref yro, .ref yhe, .ref ygr, .int mF, .int mC, .int mY, .ref yta, .int (nI (mz)), .int (nI (f2_1144)), .int (nI (t2_1145)), .int v2_1146, .int w2_1147, .ref ywa, .ref ybi, .ref ysi, .ref ynu, .ref ymo])), (ys, .inl (cI, 449, .inl f_1168))] := hD
                      refine lv_iconst (v := 2) hx hb dX9_walkItem_218 (by decide) ?_
                      refine lv_istore (lv' := [(5, .int 2), (4, .int (nI (377 + (9 * Wn)))), (3, .int v2_1146), (2, .int v2_1123), (1, .int (nI (n8))), (0, .ref h0)]) hx hb dX9_walkItem_219 hl (by decide) rfl (fun ls hl => ?_)
                      suffices loop_221 : ∀ (n_221 : Nat) (i : Nat) (s8 : Nat → Int32) (H : Heap) (locs : List Loc) (ls : Array Slot), n8 - i < n_221 → (2 ≤ i) → (i ≤ n8) → (s8 0 = nI P) → (s8 1 = nI Rn) → (s8 2 = nI (Wn + 1)) → (SI s8) → (MI s8) → (P ≤ 10) → (Rn ≤ 8) → (Wn + 1 ≤ 8) → (RI Rn s8) → va_P D vwCl [(ywa, .inl (cI, 6, .inl a8)), (yta, .inl (cI, 120, .inl tp)), (h0, .inr (9, [.ref ys, .ref yk, .ref yo, .ref yt, .int mk0, .ref yfa, .ref yfe, .int mL, .int mS, .int mM, .ref yro, .ref yhe, .ref ygr, .int mF, .int mC, .int mY, .ref yta, .int (nI (mz)), .int (nI (f2_1144)), .int (nI (t2_1145)), .int v2_1146, .int w2_1147, .ref ywa, .ref ybi, .ref ysi, .ref ynu, .ref ymo])), (ys, .inl (cI, 449, .inl s8))] H → va_D A [(ywa, .inl (cI, 6, .inl a8)), (yta, .inl (cI, 120, .inl tp)), (h0, .inr (9, [.ref ys, .ref yk, .ref yo, .ref yt, .int mk0, .ref yfa, .ref yfe, .int mL, .int mS, .int mM, .ref yro, .ref yhe, .ref ygr, .int mF, .int mC, .int mY, .ref yta, .int (nI (mz)), .int (nI (f2_1144)), .int (nI (t2_1145)), .int v2_1146, .int w2_1147, .ref ywa, .ref ybi, .ref ysi, .ref ynu, .ref ymo])), (ys, .inl (cI, 449, .inl s8))] → va_S A s.heap H locs → lv_has ls 6 [(5, .int (nI (i))), (4, .int (nI (377 + (9 * Wn)))), (3, .int v2_1146), (2, .int v2_1123), (1, .int (nI (n8))), (0, .ref h0)] → W p l e ({ frames := 6, cells := 0, slots := 0, locals := 136 }) s m ([.ref h0] : List Value).toArray below meth c H locs 0 0 (MQ below (XQv (fun (u : Nat × Nat × Int32 × Int32 × (Nat → Int32) × (Nat → Int32) × Nat) => match u with | (f2, t2, v2, w2, ms2, wa2, W2) => (f2 ≤ mz) ∧ (t2 ≤ mz) ∧ (f2 ≤ t2) ∧ (f2 < t2 ∨ f2 = mz) ∧ (mf ≤ f2) ∧ (w2 = 0 → mw = 0 ∧ True) ∧ (ms2 0 = nI P) ∧ (ms2 1 = nI Rn) ∧ (ms2 2 = nI W2) ∧ (SI ms2) ∧ (MI ms2) ∧ (P ≤ 10) ∧ (Rn ≤ 8) ∧ (W2 ≤ 8) ∧ (RI Rn ms2)) D (fun (u : Nat × Nat × Int32 × Int32 × (Nat → Int32) × (Nat → Int32) × Nat) => match u with | (f2, t2, v2, w2, ms2, wa2, W2) => [(h0, .inr (9, [.ref ys, .ref yk, .ref yo, .ref yt, .int mk0, .ref yfa, .ref yfe, .int mL, .int mS, .int mM, .ref yro, .ref yhe, .ref ygr, .int mF, .int mC, .int mY, .ref yta, .int (nI (mz)), .int (nI (f2)), .int (nI (t2)), .int v2, .int w2, .ref ywa, .ref ybi, .ref ysi, .ref ynu, .ref ymo])), (ys, .inl (cI, 449, .inl ms2)), (yta, .inl (cI, 120, .inl tp)), (ywa, .inl (cI, 6, .inl wa2))]) A) ([.ref h0] : List Value).toArray s 0 0 A) (F0 m 221 ls []) by
                        exact loop_221 _ 2 f_1168 _ _ _ (Nat.lt_succ_self _) (by omega) (by omega) k0_f_1168 k1_f_1168 k2_f_1168 kS_f_1168 kM_f_1168 i_1164 i_1165 i_1166 kR_f_1168 hP hD hS (lv_sub hl [0, 1, 2, 3, 4, 5] rfl)
                      intro n_221
                      induction n_221 with
                      | zero =>
                        intro i s8 H locs ls hm_221
                        exact absurd hm_221 (Nat.not_lt_zero _)
                      | succ n_221 ih_221 =>
                        intro i s8 H locs ls hm_221 hi2 hi ht0 ht1 ht2 htS htM htp htr htw htR hP hD hS hl
                        refine lv_iload hx hb dX9_walkItem_221 (lv_at hl 0 rfl) ?_
                        refine lv_iload_n hx hb dX9_walkItem_223 rfl (lv_at hl 4 rfl) ?_
                        refine lv_icmp_ge (tgt := 252) hx hb dX9_walkItem_224 (by decide) (fun c_1169 => ?_) (fun c_1169 => ?_)
                        · skip
                          have nc_1169 : n8 ≤ i := xn_le (a := n8) (b := i) (by omega) (by omega) c_1169
                          exact W.vret hx hb hr (fun t ht hW => ⟨⟨(f2_1144, t2_1145, v2_1146, w2_1147, s8, a8, Wn + 1), rfl, ⟨(by first | assumption | omega), (by first | assumption | omega), (by first | assumption | omega), (by first | assumption | omega), (by first | assumption | omega), (fun h => ⟨(i_578 (hc8 (i_1119 (i_1130 (i_1142 (i_1153 h).1).1).1).1).1).1, trivial⟩), ht0, ht1, ht2, htS, htM, htp, htr, htw, htR⟩, by rw [ht]; exact hP.sub [2, 3, 1, 0] rfl, hD.sub [2, 3, 1, 0] (by decide) rfl⟩, hS.F ht⟩) hS.2.2 dX9_walkItem_252 hlk
                        · skip
                          have nc_1169 : i < n8 := xn_nle (a := n8) (b := i) (by omega) (by omega) c_1169
                          refine lv_aload_n hx hb dX9_walkItem_227 rfl (lv_at hl 5 rfl) ?_
                          refine xg hF kf_X9_7 hK hP 2 rfl rfl dX9_walkItem_228 ?_
                          refine lv_iload hx hb dX9_walkItem_231 (lv_at hl 1 rfl) ?_
                          refine lv_iconst (v := 3) hx hb dX9_walkItem_233 (by decide) ?_
                          refine lv_iadd hx hb dX9_walkItem_234 ?_
                          refine xl_i (y := nI (377 + (9 * Wn) + 3)) (nI_add (377 + (9 * Wn)) 3) ?_
                          refine lv_iload hx hb dX9_walkItem_235 (lv_at hl 0 rfl) ?_
                          refine lv_iadd hx hb dX9_walkItem_237 ?_
                          refine xl_i (y := nI (377 + (9 * Wn) + 3 + i)) (nI_add (377 + (9 * Wn) + 3) i) ?_
                          refine lv_aload_n hx hb dX9_walkItem_238 rfl (lv_at hl 5 rfl) ?_
                          refine xg hF kf_X9_40 hK hP 2 rfl rfl dX9_walkItem_239 ?_
                          refine lv_iload hx hb dX9_walkItem_242 (lv_at hl 0 rfl) ?_
                          refine va_iald hx hb hK hP 0 0 rfl rfl (vp_in_nI (show i < 6 by omega) (by decide)) dX9_walkItem_244 ?_
                          refine xl_i (y := a8 i) (congrArg a8 (nI_clamp (show i < 2 ^ 31 by omega))) ?_
                          obtain ⟨z_1170, ez_1170, hz_11700⟩ := wk_A.get hA8 (i_1119 (i_1130 (i_1142 (i_1153 c_1154).1).1).1).1 (show i < n8 by omega)
                          refine xl_i (y := nI (z_1170)) ez_1170 ?_
                          refine va_iast hx hb hK hP hD hS 3 0 rfl rfl (vp_in_nI (show 377 + (9 * Wn) + 3 + i < 449 by omega) (by decide)) dX9_walkItem_245 (fun H locs hP hD hS => ?_)
                          rw [nI_clamp (show 377 + (9 * Wn) + 3 + i < 2 ^ 31 by omega)] at hP hD
                          obtain ⟨f_1171, ef_1171⟩ : ∃ g, g = upd s8 (377 + (9 * Wn) + 3 + i) (nI (z_1170)) := ⟨_, rfl⟩
                          rw [← ef_1171] at hP hD
                          have k0_f_1171 : f_1171 0 = nI P := by rw [ef_1171]; exact (pk_un (show 0 ≠ (377 + (9 * Wn) + 3 + i) by omega)).trans ht0
                          have k1_f_1171 : f_1171 1 = nI Rn := by rw [ef_1171]; exact (pk_un (show 1 ≠ (377 + (9 * Wn) + 3 + i) by omega)).trans ht1
                          have k2_f_1171 : f_1171 2 = nI (Wn + 1) := by rw [ef_1171]; exact (pk_un (show 2 ≠ (377 + (9 * Wn) + 3 + i) by omega)).trans ht2
                          have kS_f_1171 : SI f_1171 := by rw [ef_1171]; exact SI.upd htS (okS.ws (w := Wn) (i := i) (by omega) (by omega) (by omega) (show z_1170 < 10 by omega))
                          have kM_f_1171 : MI f_1171 := by rw [ef_1171]; exact MI.upd htM (okM.out (show (377 + (9 * Wn) + 3 + i) < 13 ∨ 113 ≤ (377 + (9 * Wn) + 3 + i) by omega))
                          have kR_f_1171 : RI Rn f_1171 := by rw [ef_1171]; exact RI.upd htR (fun r9 hr9 e9 => by omega)
                          have hP : va_P D vwCl [(ywa, .inl (cI, 6, .inl a8)), (yta, .inl (cI, 120, .inl tp)), (h0, .inr (9, [.ref ys, .ref yk, .ref yo, .ref yt, .int mk0, .ref yfa, .ref yfe, .int mL, .int mS, .int mM, .ref yro, .ref yhe, .ref ygr, .int mF, .int mC, .int mY, .ref yta, .int (nI (mz)), .int (nI (f2_1144)), .int (nI (t2_1145)), .int v2_1146, .int w2_1147, .ref ywa, .ref ybi, .ref ysi, .ref ynu, .ref ymo])), (ys, .inl (cI, 449, .inl f_1171))] H := hP
                          have hD : va_D A [(ywa, .inl (cI, 6, .inl a8)), (yta, .inl (cI, 120, .inl tp)), (h0, .inr (9, [.ref ys, .ref yk, .ref yo, .ref yt, .int mk0, .ref yfa, .ref yfe, .int mL, .int mS, .int mM, .ref yro, .ref yhe, .ref ygr, .int mF, .int mC, .int mY, .ref yta, .int (nI (mz)), .int (nI (f2_1144)), .int (nI (t2_1145)), .int v2_1146, .int w2_1147, .ref ywa, .ref ybi, .ref ysi, .ref ynu, .ref ymo])), (ys, .inl (cI, 449, .inl f_1171))] := hD
                          refine lv_iinc (v := nI (i + 1)) (lv' := [(5, .int (nI (i + 1))), (4, .int (nI (377 + (9 * Wn)))), (3, .int v2_1146), (2, .int v2_1123), (1, .int (nI (n8))), (0, .ref h0)]) hx hb dX9_walkItem_246 hl (k := 0) rfl (nI_1 (i)) (by decide) rfl (fun ls hl => ?_)
                          refine lv_goto (tgt := 221) hx hb dX9_walkItem_249 (by decide) ?_
                          exact ih_221 (i + 1) f_1171 _ _ _ (by omega) (by omega) (by omega) k0_f_1171 k1_f_1171 k2_f_1171 kS_f_1171 kM_f_1171 htp htr htw kR_f_1171 (hP.sub [0, 1, 2, 3] rfl) (hD.sub [0, 1, 2, 3] (by decide) rfl) hS (lv_sub hl [0, 1, 2, 3, 4, 5] rfl)
                  · skip
                    refine lv_if_eq (tgt := 176) hx hb dX9_walkItem_156 (by decide) (fun c_1172 => ?_) (fun c_1172 => absurd (by decide) c_1172)
                    refine lv_aload_n hx hb dX9_walkItem_176 rfl (lv_at hl 3 rfl) ?_
                    refine xg hF kf_X9_266 hK hP 2 rfl rfl dX9_walkItem_177 ?_
                    refine lv_if_ne (tgt := 252) hx hb dX9_walkItem_180 (by decide) (fun c_1173 => ?_) (fun c_1173 => ?_)
                    · skip
                      exact W.vret hx hb hr (fun t ht hW => ⟨⟨(f2_1121, t2_1122, v2_1123, w2_1124, ms, a8, Wn), rfl, ⟨(by first | assumption | omega), (by first | assumption | omega), (by first | assumption | omega), (by first | assumption | omega), (by first | assumption | omega), (fun h => ⟨(i_578 (hc8 (i_1119 (i_1130 h).1).1).1).1, trivial⟩), hs0, hs1, hs2, hsS, hsM, hsp, hsr, hsw, hsR⟩, by rw [ht]; exact hP.sub [2, 0, 3, 1] rfl, hD.sub [2, 0, 3, 1] (by decide) rfl⟩, hS.F ht⟩) hS.2.2 dX9_walkItem_252 hlk
                    · skip
                      refine lv_sipush (v := 377) hx hb dX9_walkItem_183 (by decide) ?_
                      refine lv_bipush (v := 9) hx hb dX9_walkItem_186 (by decide) ?_
                      refine lv_aload_n hx hb dX9_walkItem_188 rfl (lv_at hl 3 rfl) ?_
                      refine lv_aload_n hx hb dX9_walkItem_189 rfl (lv_at hl 3 rfl) ?_
                      refine xg hF kf_X9_40 hK hP 2 rfl rfl dX9_walkItem_190 ?_
                      refine lv_iconst (v := 0) hx hb dX9_walkItem_193 (by decide) ?_
                      refine va_iald hx hb hK hP 1 0 rfl rfl (xin 0 6 (by decide) (by decide)) dX9_walkItem_194 ?_
                      refine xl_i (y := a8 0) (congrArg a8 rfl) ?_
                      obtain ⟨z_1174, ez_1174, hz_11740⟩ := wk_A.get hA8 (i_1119 (i_1130 c_1173).1).1 (show 0 < n8 by omega)
                      refine xl_i (y := nI (z_1174)) ez_1174 ?_
                      refine lv_aload_n hx hb dX9_walkItem_195 rfl (lv_at hl 3 rfl) ?_
                      refine xg hF kf_X9_40 hK hP 2 rfl rfl dX9_walkItem_196 ?_
                      refine lv_iconst (v := 1) hx hb dX9_walkItem_199 (by decide) ?_
                      refine va_iald hx hb hK hP 1 0 rfl rfl (xin 1 6 (by decide) (by decide)) dX9_walkItem_200 ?_
                      refine xl_i (y := a8 1) (congrArg a8 rfl) ?_
                      obtain ⟨z_1175, ez_1175, hz_11750⟩ := wk_A.get hA8 (i_1119 (i_1130 c_1173).1).1 (show 1 < n8 by omega)
                      refine xl_i (y := nI (z_1175)) ez_1175 ?_
                      refine lv_iload_n hx hb dX9_walkItem_201 rfl (lv_at hl 1 rfl) ?_
                      refine lv_iload_n hx hb dX9_walkItem_202 rfl (lv_at hl 0 rfl) ?_
                      refine xc_Vi (wr := [(ywa, .inl (cI, 6, .inl a8)), (yta, .inl (cI, 120, .inl tp))]) hF (c_X9_newWalk l D cI cJ cZ cS ta sa sv H.size h0 ys yk yo yt mk0 yfa yfe mL mS mM yro yhe ygr mF mC mY yta mz f2_1121 t2_1122 v2_1123 w2_1124 ywa ybi ysi ynu ymo ms P Rn Wn z_1174 z_1175 v2_1123 0 (by omega) (by omega) (by omega) hs0 hs1 hs2 hsS hsM hsp hsr hsw hsR) kv_X9_196 ⟨rfl, rfl, Nat.le_of_ble_eq_true rfl, Nat.le_of_ble_eq_true rfl⟩ ⟨Nat.le_of_ble_eq_true rfl, Nat.le_of_ble_eq_true rfl⟩ hK hN hZ hP hD hS hA [2, 0] [1, 3] rfl rfl rfl rfl (by decide) 0 rfl rfl rfl rfl hl.1 rfl (Nat.le_of_ble_eq_true rfl) dX9_walkItem_203 (fun r_1176 u_r_1176 H locs hw_r_1176 hP hD hS => ?_)
                      obtain ⟨ms2_1177, rfl⟩ : ∃ z, z = u_r_1176 := ⟨_, rfl⟩
                      try dsimp only at hw_r_1176
                      obtain ⟨hw_r_1176, i_1178, i_1179, i_1180, i_1181, i_1182, i_1183, i_1184, i_1185, i_1186⟩ := hw_r_1176
                      have hP : va_P D vwCl [(ywa, .inl (cI, 6, .inl a8)), (yta, .inl (cI, 120, .inl tp)), (h0, .inr (9, [.ref ys, .ref yk, .ref yo, .ref yt, .int mk0, .ref yfa, .ref yfe, .int mL, .int mS, .int mM, .ref yro, .ref yhe, .ref ygr, .int mF, .int mC, .int mY, .ref yta, .int (nI (mz)), .int (nI (f2_1121)), .int (nI (t2_1122)), .int v2_1123, .int w2_1124, .ref ywa, .ref ybi, .ref ysi, .ref ynu, .ref ymo])), (ys, .inl (cI, 449, .inl ms2_1177))] H := hP
                      have hD : va_D A [(ywa, .inl (cI, 6, .inl a8)), (yta, .inl (cI, 120, .inl tp)), (h0, .inr (9, [.ref ys, .ref yk, .ref yo, .ref yt, .int mk0, .ref yfa, .ref yfe, .int mL, .int mS, .int mM, .ref yro, .ref yhe, .ref ygr, .int mF, .int mC, .int mY, .ref yta, .int (nI (mz)), .int (nI (f2_1121)), .int (nI (t2_1122)), .int v2_1123, .int w2_1124, .ref ywa, .ref ybi, .ref ysi, .ref ynu, .ref ymo])), (ys, .inl (cI, 449, .inl ms2_1177))] := hD
                      subst hw_r_1176
                      refine lv_imul hx hb dX9_walkItem_206 ?_
                      refine xl_i (y := nI (9 * Wn)) (pk_mul 9 Wn) ?_
                      refine lv_iadd hx hb dX9_walkItem_207 ?_
                      refine xl_i (y := nI (377 + (9 * Wn))) (nI_add 377 (9 * Wn)) ?_
                      refine lv_istore (lv' := [(4, .int (nI (377 + (9 * Wn)))), (3, .int 0), (2, .int v2_1123), (1, .int (nI (n8))), (0, .ref h0)]) hx hb dX9_walkItem_208 hl (by decide) rfl (fun ls hl => ?_)
                      refine lv_aload_n hx hb dX9_walkItem_210 rfl (lv_at hl 4 rfl) ?_
                      refine xg hF kf_X9_7 hK hP 2 rfl rfl dX9_walkItem_211 ?_
                      refine lv_iload hx hb dX9_walkItem_214 (lv_at hl 0 rfl) ?_
                      refine lv_iload_n hx hb dX9_walkItem_216 rfl (lv_at hl 3 rfl) ?_
                      refine va_iast hx hb hK hP hD hS 3 0 rfl rfl (vp_in_nI (show 377 + (9 * Wn) < 449 by omega) (by decide)) dX9_walkItem_217 (fun H locs hP hD hS => ?_)
                      rw [nI_clamp (show 377 + (9 * Wn) < 2 ^ 31 by omega)] at hP hD
                      obtain ⟨f_1187, ef_1187⟩ : ∃ g, g = upd ms2_1177 (377 + (9 * Wn)) (nI (n8)) := ⟨_, rfl⟩
                      rw [← ef_1187] at hP hD
                      have k0_f_1187 : f_1187 0 = nI P := by rw [ef_1187]; exact (pk_un (show 0 ≠ (377 + (9 * Wn)) by omega)).trans i_1178
                      have k1_f_1187 : f_1187 1 = nI Rn := by rw [ef_1187]; exact (pk_un (show 1 ≠ (377 + (9 * Wn)) by omega)).trans i_1179
                      have k2_f_1187 : f_1187 2 = nI (Wn + 1) := by rw [ef_1187]; exact (pk_un (show 2 ≠ (377 + (9 * Wn)) by omega)).trans i_1180
                      have kS_f_1187 : SI f_1187 := by rw [ef_1187]; exact SI.upd i_1181 (okS.wl (w := Wn) (q := n8) (by omega) (by omega) (by omega))
                      have kM_f_1187 : MI f_1187 := by rw [ef_1187]; exact MI.upd i_1182 (okM.out (show (377 + (9 * Wn)) < 13 ∨ 113 ≤ (377 + (9 * Wn)) by omega))
                      have kR_f_1187 : RI Rn f_1187 := by rw [ef_1187]; exact RI.upd i_1186 (fun r9 hr9 e9 => by omega)
                      have hP : va_P D vwCl [(ywa, .inl (cI, 6, .inl a8)), (yta, .inl (cI, 120, .inl tp)), (h0, .inr (9, [.ref ys, .ref yk, .ref yo, .ref yt, .int mk0, .ref yfa, .ref yfe, .int mL, .int mS, .int mM, .ref yro, .ref yhe, .ref ygr, .int mF, .int mC, .int mY, .ref yta, .int (nI (mz)), .int (nI (f2_1121)), .int (nI (t2_1122)), .int v2_1123, .int w2_1124, .ref ywa, .ref ybi, .ref ysi, .ref ynu, .ref ymo])), (ys, .inl (cI, 449, .inl f_1187))] H := hP
                      have hD : va_D A [(ywa, .inl (cI, 6, .inl a8)), (yta, .inl (cI, 120, .inl tp)), (h0, .inr (9, [.ref ys, .ref yk, .ref yo, .ref yt, .int mk0, .ref yfa, .ref yfe, .int mL, .int mS, .int mM, .ref yro, .ref yhe, .ref ygr, .int mF, .int mC, .int mY, .ref yta, .int (nI (mz)), .int (nI (f2_1121)), .int (nI (t2_1122)), .int v2_1123, .int w2_1124, .ref ywa, .ref ybi, .ref ysi, .ref ynu, .ref ymo])), (ys, .inl (cI, 449, .inl f_1187))] := hD
                      refine lv_iconst (v := 2) hx hb dX9_walkItem_218 (by decide) ?_
                      refine lv_istore (lv' := [(5, .int 2), (4, .int (nI (377 + (9 * Wn)))), (3, .int 0), (2, .int v2_1123), (1, .int (nI (n8))), (0, .ref h0)]) hx hb dX9_walkItem_219 hl (by decide) rfl (fun ls hl => ?_)
                      suffices loop_221 : ∀ (n_221 : Nat) (i : Nat) (s8 : Nat → Int32) (H : Heap) (locs : List Loc) (ls : Array Slot), n8 - i < n_221 → (2 ≤ i) → (i ≤ n8) → (s8 0 = nI P) → (s8 1 = nI Rn) → (s8 2 = nI (Wn + 1)) → (SI s8) → (MI s8) → (P ≤ 10) → (Rn ≤ 8) → (Wn + 1 ≤ 8) → (RI Rn s8) → va_P D vwCl [(ywa, .inl (cI, 6, .inl a8)), (yta, .inl (cI, 120, .inl tp)), (h0, .inr (9, [.ref ys, .ref yk, .ref yo, .ref yt, .int mk0, .ref yfa, .ref yfe, .int mL, .int mS, .int mM, .ref yro, .ref yhe, .ref ygr, .int mF, .int mC, .int mY, .ref yta, .int (nI (mz)), .int (nI (f2_1121)), .int (nI (t2_1122)), .int v2_1123, .int w2_1124, .ref ywa, .ref ybi, .ref ysi, .ref ynu, .ref ymo])), (ys, .inl (cI, 449, .inl s8))] H → va_D A [(ywa, .inl (cI, 6, .inl a8)), (yta, .inl (cI, 120, .inl tp)), (h0, .inr (9, [.ref ys, .ref yk, .ref yo, .ref yt, .int mk0, .ref yfa, .ref yfe, .int mL, .int mS, .int mM, .ref yro, .ref yhe, .ref ygr, .int mF, .int mC, .int mY, .ref yta, .int (nI (mz)), .int (nI (f2_1121)), .int (nI (t2_1122)), .int v2_1123, .int w2_1124, .ref ywa, .ref ybi, .ref ysi, .ref ynu, .ref ymo])), (ys, .inl (cI, 449, .inl s8))] → va_S A s.heap H locs → lv_has ls 6 [(5, .int (nI (i))), (4, .int (nI (377 + (9 * Wn)))), (3, .int 0), (2, .int v2_1123), (1, .int (nI (n8))), (0, .ref h0)] → W p l e ({ frames := 6, cells := 0, slots := 0, locals := 136 }) s m ([.ref h0] : List Value).toArray below meth c H locs 0 0 (MQ below (XQv (fun (u : Nat × Nat × Int32 × Int32 × (Nat → Int32) × (Nat → Int32) × Nat) => match u with | (f2, t2, v2, w2, ms2, wa2, W2) => (f2 ≤ mz) ∧ (t2 ≤ mz) ∧ (f2 ≤ t2) ∧ (f2 < t2 ∨ f2 = mz) ∧ (mf ≤ f2) ∧ (w2 = 0 → mw = 0 ∧ True) ∧ (ms2 0 = nI P) ∧ (ms2 1 = nI Rn) ∧ (ms2 2 = nI W2) ∧ (SI ms2) ∧ (MI ms2) ∧ (P ≤ 10) ∧ (Rn ≤ 8) ∧ (W2 ≤ 8) ∧ (RI Rn ms2)) D (fun (u : Nat × Nat × Int32 × Int32 × (Nat → Int32) × (Nat → Int32) × Nat) => match u with | (f2, t2, v2, w2, ms2, wa2, W2) => [(h0, .inr (9, [.ref ys, .ref yk, .ref yo, .ref yt, .int mk0, .ref yfa, .ref yfe, .int mL, .int mS, .int mM, .ref yro, .ref yhe, .ref ygr, .int mF, .int mC, .int mY, .ref yta, .int (nI (mz)), .int (nI (f2)), .int (nI (t2)), .int v2, .int w2, .ref ywa, .ref ybi, .ref ysi, .ref ynu, .ref ymo])), (ys, .inl (cI, 449, .inl ms2)), (yta, .inl (cI, 120, .inl tp)), (ywa, .inl (cI, 6, .inl wa2))]) A) ([.ref h0] : List Value).toArray s 0 0 A) (F0 m 221 ls []) by
                        exact loop_221 _ 2 f_1187 _ _ _ (Nat.lt_succ_self _) (by omega) (by omega) k0_f_1187 k1_f_1187 k2_f_1187 kS_f_1187 kM_f_1187 i_1183 i_1184 i_1185 kR_f_1187 hP hD hS (lv_sub hl [0, 1, 2, 3, 4, 5] rfl)
                      intro n_221
                      induction n_221 with
                      | zero =>
                        intro i s8 H locs ls hm_221
                        exact absurd hm_221 (Nat.not_lt_zero _)
                      | succ n_221 ih_221 =>
                        intro i s8 H locs ls hm_221 hi2 hi ht0 ht1 ht2 htS htM htp htr htw htR hP hD hS hl
                        refine lv_iload hx hb dX9_walkItem_221 (lv_at hl 0 rfl) ?_
                        refine lv_iload_n hx hb dX9_walkItem_223 rfl (lv_at hl 4 rfl) ?_
                        refine lv_icmp_ge (tgt := 252) hx hb dX9_walkItem_224 (by decide) (fun c_1188 => ?_) (fun c_1188 => ?_)
                        · skip
                          have nc_1188 : n8 ≤ i := xn_le (a := n8) (b := i) (by omega) (by omega) c_1188
                          exact W.vret hx hb hr (fun t ht hW => ⟨⟨(f2_1121, t2_1122, v2_1123, w2_1124, s8, a8, Wn + 1), rfl, ⟨(by first | assumption | omega), (by first | assumption | omega), (by first | assumption | omega), (by first | assumption | omega), (by first | assumption | omega), (fun h => ⟨(i_578 (hc8 (i_1119 (i_1130 h).1).1).1).1, trivial⟩), ht0, ht1, ht2, htS, htM, htp, htr, htw, htR⟩, by rw [ht]; exact hP.sub [2, 3, 1, 0] rfl, hD.sub [2, 3, 1, 0] (by decide) rfl⟩, hS.F ht⟩) hS.2.2 dX9_walkItem_252 hlk
                        · skip
                          have nc_1188 : i < n8 := xn_nle (a := n8) (b := i) (by omega) (by omega) c_1188
                          refine lv_aload_n hx hb dX9_walkItem_227 rfl (lv_at hl 5 rfl) ?_
                          refine xg hF kf_X9_7 hK hP 2 rfl rfl dX9_walkItem_228 ?_
                          refine lv_iload hx hb dX9_walkItem_231 (lv_at hl 1 rfl) ?_
                          refine lv_iconst (v := 3) hx hb dX9_walkItem_233 (by decide) ?_
                          refine lv_iadd hx hb dX9_walkItem_234 ?_
                          refine xl_i (y := nI (377 + (9 * Wn) + 3)) (nI_add (377 + (9 * Wn)) 3) ?_
                          refine lv_iload hx hb dX9_walkItem_235 (lv_at hl 0 rfl) ?_
                          refine lv_iadd hx hb dX9_walkItem_237 ?_
                          refine xl_i (y := nI (377 + (9 * Wn) + 3 + i)) (nI_add (377 + (9 * Wn) + 3) i) ?_
                          refine lv_aload_n hx hb dX9_walkItem_238 rfl (lv_at hl 5 rfl) ?_
                          refine xg hF kf_X9_40 hK hP 2 rfl rfl dX9_walkItem_239 ?_
                          refine lv_iload hx hb dX9_walkItem_242 (lv_at hl 0 rfl) ?_
                          refine va_iald hx hb hK hP 0 0 rfl rfl (vp_in_nI (show i < 6 by omega) (by decide)) dX9_walkItem_244 ?_
                          refine xl_i (y := a8 i) (congrArg a8 (nI_clamp (show i < 2 ^ 31 by omega))) ?_
                          obtain ⟨z_1189, ez_1189, hz_11890⟩ := wk_A.get hA8 (i_1119 (i_1130 c_1173).1).1 (show i < n8 by omega)
                          refine xl_i (y := nI (z_1189)) ez_1189 ?_
                          refine va_iast hx hb hK hP hD hS 3 0 rfl rfl (vp_in_nI (show 377 + (9 * Wn) + 3 + i < 449 by omega) (by decide)) dX9_walkItem_245 (fun H locs hP hD hS => ?_)
                          rw [nI_clamp (show 377 + (9 * Wn) + 3 + i < 2 ^ 31 by omega)] at hP hD
                          obtain ⟨f_1190, ef_1190⟩ : ∃ g, g = upd s8 (377 + (9 * Wn) + 3 + i) (nI (z_1189)) := ⟨_, rfl⟩
                          rw [← ef_1190] at hP hD
                          have k0_f_1190 : f_1190 0 = nI P := by rw [ef_1190]; exact (pk_un (show 0 ≠ (377 + (9 * Wn) + 3 + i) by omega)).trans ht0
                          have k1_f_1190 : f_1190 1 = nI Rn := by rw [ef_1190]; exact (pk_un (show 1 ≠ (377 + (9 * Wn) + 3 + i) by omega)).trans ht1
                          have k2_f_1190 : f_1190 2 = nI (Wn + 1) := by rw [ef_1190]; exact (pk_un (show 2 ≠ (377 + (9 * Wn) + 3 + i) by omega)).trans ht2
                          have kS_f_1190 : SI f_1190 := by rw [ef_1190]; exact SI.upd htS (okS.ws (w := Wn) (i := i) (by omega) (by omega) (by omega) (show z_1189 < 10 by omega))
                          have kM_f_1190 : MI f_1190 := by rw [ef_1190]; exact MI.upd htM (okM.out (show (377 + (9 * Wn) + 3 + i) < 13 ∨ 113 ≤ (377 + (9 * Wn) + 3 + i) by omega))
                          have kR_f_1190 : RI Rn f_1190 := by rw [ef_1190]; exact RI.upd htR (fun r9 hr9 e9 => by omega)
                          have hP : va_P D vwCl [(ywa, .inl (cI, 6, .inl a8)), (yta, .inl (cI, 120, .inl tp)), (h0, .inr (9, [.ref ys, .ref yk, .ref yo, .ref yt, .int mk0, .ref yfa, .ref yfe, .int mL, .int mS, .int mM, .ref yro, .ref yhe, .ref ygr, .int mF, .int mC, .int mY, .ref yta, .int (nI (mz)), .int (nI (f2_1121)), .int (nI (t2_1122)), .int v2_1123, .int w2_1124, .ref ywa, .ref ybi, .ref ysi, .ref ynu, .ref ymo])), (ys, .inl (cI, 449, .inl f_1190))] H := hP
                          have hD : va_D A [(ywa, .inl (cI, 6, .inl a8)), (yta, .inl (cI, 120, .inl tp)), (h0, .inr (9, [.ref ys, .ref yk, .ref yo, .ref yt, .int mk0, .ref yfa, .ref yfe, .int mL, .int mS, .int mM, .ref yro, .ref yhe, .ref ygr, .int mF, .int mC, .int mY, .ref yta, .int (nI (mz)), .int (nI (f2_1121)), .int (nI (t2_1122)), .int v2_1123, .int w2_1124, .ref ywa, .ref ybi, .ref ysi, .ref ynu, .ref ymo])), (ys, .inl (cI, 449, .inl f_1190))] := hD
                          refine lv_iinc (v := nI (i + 1)) (lv' := [(5, .int (nI (i + 1))), (4, .int (nI (377 + (9 * Wn)))), (3, .int 0), (2, .int v2_1123), (1, .int (nI (n8))), (0, .ref h0)]) hx hb dX9_walkItem_246 hl (k := 0) rfl (nI_1 (i)) (by decide) rfl (fun ls hl => ?_)
                          refine lv_goto (tgt := 221) hx hb dX9_walkItem_249 (by decide) ?_
                          exact ih_221 (i + 1) f_1190 _ _ _ (by omega) (by omega) (by omega) k0_f_1190 k1_f_1190 k2_f_1190 kS_f_1190 kM_f_1190 htp htr htw kR_f_1190 (hP.sub [0, 1, 2, 3] rfl) (hD.sub [0, 1, 2, 3] (by decide) rfl) hS (lv_sub hl [0, 1, 2, 3, 4, 5] rfl)
                · skip
                  refine xc_Vv (wr := [(ys, .inl (cI, 449, .inl ms)), (ywa, .inl (cI, 6, .inl a8))]) hF (c_X9_needs l D cI cJ cZ cS ta sa sv H.size h0 ys yk yo yt mk0 yfa yfe mL mS mM yro yhe ygr mF mC mY yta mz f8 t8 mv w8 ywa ybi ysi ynu ymo tp 0 (by omega) (by omega) (by omega) (by omega) (by omega)) kv_X9_278 ⟨rfl, rfl, Nat.le_of_ble_eq_true rfl, Nat.le_of_ble_eq_true rfl⟩ ⟨Nat.le_of_ble_eq_true rfl, Nat.le_of_ble_eq_true rfl⟩ hK hN hZ hP hD hS hA [2, 3] [0, 1] rfl rfl rfl rfl (by decide) 0 rfl rfl rfl rfl hl.1 rfl (Nat.le_of_ble_eq_true rfl) dX9_walkItem_120 (fun u_r_1191 H locs hw_r_1191 hP hD hS => ?_)
                  obtain ⟨f2_1192, t2_1193, w2_1194⟩ := u_r_1191
                  try dsimp only at hw_r_1191
                  obtain ⟨i_1195, i_1196, i_1197, i_1198, i_1199, i_1200⟩ := hw_r_1191
                  have hP : va_P D vwCl [(ys, .inl (cI, 449, .inl ms)), (ywa, .inl (cI, 6, .inl a8)), (h0, .inr (9, [.ref ys, .ref yk, .ref yo, .ref yt, .int mk0, .ref yfa, .ref yfe, .int mL, .int mS, .int mM, .ref yro, .ref yhe, .ref ygr, .int mF, .int mC, .int mY, .ref yta, .int (nI (mz)), .int (nI (f2_1192)), .int (nI (t2_1193)), .int mv, .int w2_1194, .ref ywa, .ref ybi, .ref ysi, .ref ynu, .ref ymo])), (yta, .inl (cI, 120, .inl tp))] H := hP
                  have hD : va_D A [(ys, .inl (cI, 449, .inl ms)), (ywa, .inl (cI, 6, .inl a8)), (h0, .inr (9, [.ref ys, .ref yk, .ref yo, .ref yt, .int mk0, .ref yfa, .ref yfe, .int mL, .int mS, .int mM, .ref yro, .ref yhe, .ref ygr, .int mF, .int mC, .int mY, .ref yta, .int (nI (mz)), .int (nI (f2_1192)), .int (nI (t2_1193)), .int mv, .int w2_1194, .ref ywa, .ref ybi, .ref ysi, .ref ynu, .ref ymo])), (yta, .inl (cI, 120, .inl tp))] := hD
                  refine lv_aload_n hx hb dX9_walkItem_123 rfl (lv_at hl 1 rfl) ?_
                  refine lv_sipush (v := (-9999)) hx hb dX9_walkItem_124 (by decide) ?_
                  refine lv_sipush (v := 9999) hx hb dX9_walkItem_127 (by decide) ?_
                  refine xc_Vv (wr := [(ys, .inl (cI, 449, .inl ms)), (ywa, .inl (cI, 6, .inl a8))]) hF (c_X9_mile l D cI cJ cZ cS ta sa sv H.size h0 ys yk yo yt mk0 yfa yfe mL mS mM yro yhe ygr mF mC mY yta mz f2_1192 t2_1193 mv w2_1194 ywa ybi ysi ynu ymo tp (-9999) 9999 (by omega) (by omega) (by omega) (by omega) (by omega)) kv_X9_287 ⟨rfl, rfl, Nat.le_of_ble_eq_true rfl, Nat.le_of_ble_eq_true rfl⟩ ⟨Nat.le_of_ble_eq_true rfl, Nat.le_of_ble_eq_true rfl⟩ hK hN hZ hP hD hS hA [2, 3] [0, 1] rfl rfl rfl rfl (by decide) 0 rfl rfl rfl rfl hl.1 rfl (Nat.le_of_ble_eq_true rfl) dX9_walkItem_130 (fun u_r_1201 H locs hw_r_1201 hP hD hS => ?_)
                  obtain ⟨f2_1202, t2_1203, v2_1204, w2_1205⟩ := u_r_1201
                  try dsimp only at hw_r_1201
                  obtain ⟨i_1206, i_1207, i_1208, i_1209, i_1210, i_1211⟩ := hw_r_1201
                  have hP : va_P D vwCl [(ys, .inl (cI, 449, .inl ms)), (ywa, .inl (cI, 6, .inl a8)), (h0, .inr (9, [.ref ys, .ref yk, .ref yo, .ref yt, .int mk0, .ref yfa, .ref yfe, .int mL, .int mS, .int mM, .ref yro, .ref yhe, .ref ygr, .int mF, .int mC, .int mY, .ref yta, .int (nI (mz)), .int (nI (f2_1202)), .int (nI (t2_1203)), .int v2_1204, .int w2_1205, .ref ywa, .ref ybi, .ref ysi, .ref ynu, .ref ymo])), (yta, .inl (cI, 120, .inl tp))] H := hP
                  have hD : va_D A [(ys, .inl (cI, 449, .inl ms)), (ywa, .inl (cI, 6, .inl a8)), (h0, .inr (9, [.ref ys, .ref yk, .ref yo, .ref yt, .int mk0, .ref yfa, .ref yfe, .int mL, .int mS, .int mM, .ref yro, .ref yhe, .ref ygr, .int mF, .int mC, .int mY, .ref yta, .int (nI (mz)), .int (nI (f2_1202)), .int (nI (t2_1203)), .int v2_1204, .int w2_1205, .ref ywa, .ref ybi, .ref ysi, .ref ynu, .ref ymo])), (yta, .inl (cI, 120, .inl tp))] := hD
                  refine lv_aload_n hx hb dX9_walkItem_133 rfl (lv_at hl 1 rfl) ?_
                  refine xg hF kf_X9_275 hK hP 2 rfl rfl dX9_walkItem_134 ?_
                  refine lv_istore_n (lv' := [(2, .int v2_1204), (1, .int (nI (n8))), (0, .ref h0)]) hx hb dX9_walkItem_137 rfl hl (by decide) rfl (fun ls hl => ?_)
                  refine lv_iconst (v := 0) hx hb dX9_walkItem_138 (by decide) ?_
                  refine lv_istore_n (lv' := [(3, .int 0), (2, .int v2_1204), (1, .int (nI (n8))), (0, .ref h0)]) hx hb dX9_walkItem_139 rfl hl (by decide) rfl (fun ls hl => ?_)
                  refine lv_aload_n hx hb dX9_walkItem_140 rfl (lv_at hl 3 rfl) ?_
                  refine lv_bipush (v := 115) hx hb dX9_walkItem_141 (by decide) ?_
                  refine lv_bipush (v := 108) hx hb dX9_walkItem_143 (by decide) ?_
                  refine lv_bipush (v := 97) hx hb dX9_walkItem_145 (by decide) ?_
                  refine lv_bipush (v := 99) hx hb dX9_walkItem_147 (by decide) ?_
                  refine lv_bipush (v := 107) hx hb dX9_walkItem_149 (by decide) ?_
                  refine lv_iconst (v := 0) hx hb dX9_walkItem_151 (by decide) ?_
                  refine lv_iconst (v := 0) hx hb dX9_walkItem_152 (by decide) ?_
                  refine xc_Vr hF (c_X9_isWord l D cI cJ cZ cS ta sa sv H.size h0 ys yk yo yt mk0 yfa yfe mL mS mM yro yhe ygr mF mC mY yta mz f2_1202 t2_1203 v2_1204 w2_1205 ywa ybi ysi ynu ymo tp 115 108 97 99 107 0 0 (by omega) (by omega)) kv_X9_290 ⟨rfl, rfl, Nat.le_of_ble_eq_true rfl, Nat.le_of_ble_eq_true rfl⟩ ⟨Nat.le_of_ble_eq_true rfl, Nat.le_of_ble_eq_true rfl⟩ hK hN hZ hP hD hS hA [2, 3] rfl rfl 0 rfl rfl rfl rfl hl.1 rfl (Nat.le_of_ble_eq_true rfl) dX9_walkItem_153 (fun r_1212 hw_r_1212 => ?_)
                  rcases hw_r_1212 with rfl | rfl
                  · skip
                    refine lv_if_eq (tgt := 176) hx hb dX9_walkItem_156 (by decide) (fun c_1213 => absurd c_1213 (by decide)) (fun c_1213 => ?_)
                    refine lv_aload_n hx hb dX9_walkItem_159 rfl (lv_at hl 3 rfl) ?_
                    refine lv_iconst (v := 1) hx hb dX9_walkItem_160 (by decide) ?_
                    refine xc_Vv (wr := [(ys, .inl (cI, 449, .inl ms)), (ywa, .inl (cI, 6, .inl a8))]) hF (c_X9_needs l D cI cJ cZ cS ta sa sv H.size h0 ys yk yo yt mk0 yfa yfe mL mS mM yro yhe ygr mF mC mY yta mz f2_1202 t2_1203 v2_1204 w2_1205 ywa ybi ysi ynu ymo tp 1 (by omega) (by omega) (by omega) (by omega) (by omega)) kv_X9_278 ⟨rfl, rfl, Nat.le_of_ble_eq_true rfl, Nat.le_of_ble_eq_true rfl⟩ ⟨Nat.le_of_ble_eq_true rfl, Nat.le_of_ble_eq_true rfl⟩ hK hN hZ hP hD hS hA [2, 3] [0, 1] rfl rfl rfl rfl (by decide) 0 rfl rfl rfl rfl hl.1 rfl (Nat.le_of_ble_eq_true rfl) dX9_walkItem_161 (fun u_r_1214 H locs hw_r_1214 hP hD hS => ?_)
                    obtain ⟨f2_1215, t2_1216, w2_1217⟩ := u_r_1214
                    try dsimp only at hw_r_1214
                    obtain ⟨i_1218, i_1219, i_1220, i_1221, i_1222, i_1223⟩ := hw_r_1214
                    have hP : va_P D vwCl [(ys, .inl (cI, 449, .inl ms)), (ywa, .inl (cI, 6, .inl a8)), (h0, .inr (9, [.ref ys, .ref yk, .ref yo, .ref yt, .int mk0, .ref yfa, .ref yfe, .int mL, .int mS, .int mM, .ref yro, .ref yhe, .ref ygr, .int mF, .int mC, .int mY, .ref yta, .int (nI (mz)), .int (nI (f2_1215)), .int (nI (t2_1216)), .int v2_1204, .int w2_1217, .ref ywa, .ref ybi, .ref ysi, .ref ynu, .ref ymo])), (yta, .inl (cI, 120, .inl tp))] H := hP
                    have hD : va_D A [(ys, .inl (cI, 449, .inl ms)), (ywa, .inl (cI, 6, .inl a8)), (h0, .inr (9, [.ref ys, .ref yk, .ref yo, .ref yt, .int mk0, .ref yfa, .ref yfe, .int mL, .int mS, .int mM, .ref yro, .ref yhe, .ref ygr, .int mF, .int mC, .int mY, .ref yta, .int (nI (mz)), .int (nI (f2_1215)), .int (nI (t2_1216)), .int v2_1204, .int w2_1217, .ref ywa, .ref ybi, .ref ysi, .ref ynu, .ref ymo])), (yta, .inl (cI, 120, .inl tp))] := hD
                    refine lv_aload_n hx hb dX9_walkItem_164 rfl (lv_at hl 3 rfl) ?_
                    refine lv_iconst (v := 0) hx hb dX9_walkItem_165 (by decide) ?_
                    refine lv_bipush (v := 99) hx hb dX9_walkItem_166 (by decide) ?_
                    refine xc_Vv (wr := [(ys, .inl (cI, 449, .inl ms)), (ywa, .inl (cI, 6, .inl a8))]) hF (c_X9_number l D cI cJ cZ cS ta sa sv H.size h0 ys yk yo yt mk0 yfa yfe mL mS mM yro yhe ygr mF mC mY yta mz f2_1215 t2_1216 v2_1204 w2_1217 ywa ybi ysi ynu ymo tp 0 99 (by omega) (by omega) (by omega) (by omega) (by omega)) kv_X9_282 ⟨rfl, rfl, Nat.le_of_ble_eq_true rfl, Nat.le_of_ble_eq_true rfl⟩ ⟨Nat.le_of_ble_eq_true rfl, Nat.le_of_ble_eq_true rfl⟩ hK hN hZ hP hD hS hA [2, 3] [0, 1] rfl rfl rfl rfl (by decide) 0 rfl rfl rfl rfl hl.1 rfl (Nat.le_of_ble_eq_true rfl) dX9_walkItem_168 (fun u_r_1224 H locs hw_r_1224 hP hD hS => ?_)
                    obtain ⟨f2_1225, t2_1226, v2_1227, w2_1228⟩ := u_r_1224
                    try dsimp only at hw_r_1224
                    obtain ⟨i_1229, i_1230, i_1231, i_1232, i_1233, i_1234⟩ := hw_r_1224
                    have hP : va_P D vwCl [(ys, .inl (cI, 449, .inl ms)), (ywa, .inl (cI, 6, .inl a8)), (h0, .inr (9, [.ref ys, .ref yk, .ref yo, .ref yt, .int mk0, .ref yfa, .ref yfe, .int mL, .int mS, .int mM, .ref yro, .ref yhe, .ref ygr, .int mF, .int mC, .int mY, .ref yta, .int (nI (mz)), .int (nI (f2_1225)), .int (nI (t2_1226)), .int v2_1227, .int w2_1228, .ref ywa, .ref ybi, .ref ysi, .ref ynu, .ref ymo])), (yta, .inl (cI, 120, .inl tp))] H := hP
                    have hD : va_D A [(ys, .inl (cI, 449, .inl ms)), (ywa, .inl (cI, 6, .inl a8)), (h0, .inr (9, [.ref ys, .ref yk, .ref yo, .ref yt, .int mk0, .ref yfa, .ref yfe, .int mL, .int mS, .int mM, .ref yro, .ref yhe, .ref ygr, .int mF, .int mC, .int mY, .ref yta, .int (nI (mz)), .int (nI (f2_1225)), .int (nI (t2_1226)), .int v2_1227, .int w2_1228, .ref ywa, .ref ybi, .ref ysi, .ref ynu, .ref ymo])), (yta, .inl (cI, 120, .inl tp))] := hD
                    refine lv_aload_n hx hb dX9_walkItem_171 rfl (lv_at hl 3 rfl) ?_
                    refine xg hF kf_X9_275 hK hP 2 rfl rfl dX9_walkItem_172 ?_
                    refine lv_istore_n (lv' := [(3, .int v2_1227), (2, .int v2_1204), (1, .int (nI (n8))), (0, .ref h0)]) hx hb dX9_walkItem_175 rfl hl (by decide) rfl (fun ls hl => ?_)
                    refine lv_aload_n hx hb dX9_walkItem_176 rfl (lv_at hl 3 rfl) ?_
                    refine xg hF kf_X9_266 hK hP 2 rfl rfl dX9_walkItem_177 ?_
                    refine lv_if_ne (tgt := 252) hx hb dX9_walkItem_180 (by decide) (fun c_1235 => ?_) (fun c_1235 => absurd rfl (i_1200 (i_1211 (i_1223 (i_1234 c_1235).1).1).1).2.1)
                    exact W.vret hx hb hr (fun t ht hW => ⟨⟨(f2_1225, t2_1226, v2_1227, w2_1228, ms, a8, Wn), rfl, ⟨(by first | assumption | omega), (by first | assumption | omega), (by first | assumption | omega), (by first | assumption | omega), (by first | assumption | omega), (fun h => ⟨(i_578 (hc8 (i_1200 (i_1211 (i_1223 (i_1234 h).1).1).1).1).1).1, trivial⟩), hs0, hs1, hs2, hsS, hsM, hsp, hsr, hsw, hsR⟩, by rw [ht]; exact hP.sub [2, 0, 3, 1] rfl, hD.sub [2, 0, 3, 1] (by decide) rfl⟩, hS.F ht⟩) hS.2.2 dX9_walkItem_252 hlk
                  · skip
                    refine lv_if_eq (tgt := 176) hx hb dX9_walkItem_156 (by decide) (fun c_1236 => ?_) (fun c_1236 => absurd (by decide) c_1236)
                    refine lv_aload_n hx hb dX9_walkItem_176 rfl (lv_at hl 3 rfl) ?_
                    refine xg hF kf_X9_266 hK hP 2 rfl rfl dX9_walkItem_177 ?_
                    refine lv_if_ne (tgt := 252) hx hb dX9_walkItem_180 (by decide) (fun c_1237 => ?_) (fun c_1237 => absurd rfl (i_1200 (i_1211 c_1237).1).2.1)
                    exact W.vret hx hb hr (fun t ht hW => ⟨⟨(f2_1202, t2_1203, v2_1204, w2_1205, ms, a8, Wn), rfl, ⟨(by first | assumption | omega), (by first | assumption | omega), (by first | assumption | omega), (by first | assumption | omega), (by first | assumption | omega), (fun h => ⟨(i_578 (hc8 (i_1200 (i_1211 h).1).1).1).1, trivial⟩), hs0, hs1, hs2, hsS, hsM, hsp, hsr, hsw, hsR⟩, by rw [ht]; exact hP.sub [2, 0, 3, 1] rfl, hD.sub [2, 0, 3, 1] (by decide) rfl⟩, hS.F ht⟩) hS.2.2 dX9_walkItem_252 hlk
set_option maxHeartbeats 4000000 in
set_option maxRecDepth 100000 in
theorem c_X9_item (l : Launch) (D : va_G) (cI cJ cZ cS : ClassId) (ta : Nat) (sa sv : Nat → Nat) (sz : Nat) (h0 : Nat) (ys : Nat) (yk : Nat) (yo : Nat) (yt : Nat) (mk0 : Int32) (yfa : Nat) (yfe : Nat) (mL : Int32) (mS : Int32) (mM : Int32) (yro : Nat) (yhe : Nat) (ygr : Nat) (mF : Int32) (mC : Int32) (mY : Int32) (yta : Nat) (mz : Nat) (mf : Nat) (mt : Nat) (mv : Int32) (mw : Int32) (ywa : Nat) (ybi : Nat) (ysi : Nat) (ynu : Nat) (ymo : Nat) (ms : Nat → Int32) (tp : Nat → Int32) (wa : Nat → Int32) (P : Nat) (Rn : Nat) (Wn : Nat) (hz : mz ≤ 120) (k1 : mf ≤ mz) (k2 : mt ≤ mz) (k3 : mf ≤ mt) (k4 : mf < mt ∨ mf = mz) (hs0 : ms 0 = nI P) (hs1 : ms 1 = nI Rn) (hs2 : ms 2 = nI Wn) (hsS : SI ms) (hsM : MI ms) (hsp : P ≤ 10) (hsr : Rn ≤ 8) (hsw : Wn ≤ 8) (hsR : RI Rn ms) : Met l yX9_item (Cond.code yX9_item cX9_item 2 none :: wsU) ({ frames := 7, cells := 0, slots := 0, locals := 162 }) (va_Pc [.ref h0] (XW D (xT cI cJ cZ cS) ta sa sv [(h0, .inr (9, [.ref ys, .ref yk, .ref yo, .ref yt, .int mk0, .ref yfa, .ref yfe, .int mL, .int mS, .int mM, .ref yro, .ref yhe, .ref ygr, .int mF, .int mC, .int mY, .ref yta, .int (nI (mz)), .int (nI (mf)), .int (nI (mt)), .int mv, .int mw, .ref ywa, .ref ybi, .ref ysi, .ref ynu, .ref ymo])), (ys, .inl (cI, 449, .inl ms)), (yta, .inl (cI, 120, .inl tp)), (ywa, .inl (cI, 6, .inl wa))] sz)) (XQv (fun (u : Nat × Nat × Int32 × Int32 × (Nat → Int32) × (Nat → Int32) × Nat × Nat) => match u with | (f2, t2, v2, w2, ms2, wa2, P2, W2) => (f2 ≤ mz) ∧ (t2 ≤ mz) ∧ (f2 ≤ t2) ∧ (f2 < t2 ∨ f2 = mz) ∧ (mf ≤ f2) ∧ (w2 = 0 → mw = 0 ∧ True) ∧ (ms2 0 = nI P2) ∧ (ms2 1 = nI Rn) ∧ (ms2 2 = nI W2) ∧ (SI ms2) ∧ (MI ms2) ∧ (P2 ≤ 10) ∧ (Rn ≤ 8) ∧ (W2 ≤ 8) ∧ (RI Rn ms2)) D (fun (u : Nat × Nat × Int32 × Int32 × (Nat → Int32) × (Nat → Int32) × Nat × Nat) => match u with | (f2, t2, v2, w2, ms2, wa2, P2, W2) => [(h0, .inr (9, [.ref ys, .ref yk, .ref yo, .ref yt, .int mk0, .ref yfa, .ref yfe, .int mL, .int mS, .int mM, .ref yro, .ref yhe, .ref ygr, .int mF, .int mC, .int mY, .ref yta, .int (nI (mz)), .int (nI (f2)), .int (nI (t2)), .int v2, .int w2, .ref ywa, .ref ybi, .ref ysi, .ref ynu, .ref ymo])), (ys, .inl (cI, 449, .inl ms2)), (yta, .inl (cI, 120, .inl tp)), (ywa, .inl (cI, 6, .inl wa2))]) (va_A [(h0, .inr (9, [.ref ys, .ref yk, .ref yo, .ref yt, .int mk0, .ref yfa, .ref yfe, .int mL, .int mS, .int mM, .ref yro, .ref yhe, .ref ygr, .int mF, .int mC, .int mY, .ref yta, .int (nI (mz)), .int (nI (mf)), .int (nI (mt)), .int mv, .int mw, .ref ywa, .ref ybi, .ref ysi, .ref ynu, .ref ymo])), (ys, .inl (cI, 449, .inl ms)), (yta, .inl (cI, 120, .inl tp)), (ywa, .inl (cI, 6, .inl wa))] sz)) 0 0 (va_A [(h0, .inr (9, [.ref ys, .ref yk, .ref yo, .ref yt, .int mk0, .ref yfa, .ref yfe, .int mL, .int mS, .int mM, .ref yro, .ref yhe, .ref ygr, .int mF, .int mC, .int mY, .ref yta, .int (nI (mz)), .int (nI (mf)), .int (nI (mt)), .int mv, .int mw, .ref ywa, .ref ybi, .ref ysi, .ref ynu, .ref ymo])), (ys, .inl (cI, 449, .inl ms)), (yta, .inl (cI, 120, .inl tp)), (ywa, .inl (cI, 6, .inl wa))] sz) := by
  refine xh (QA := fun A => XQv (fun (u : Nat × Nat × Int32 × Int32 × (Nat → Int32) × (Nat → Int32) × Nat × Nat) => match u with | (f2, t2, v2, w2, ms2, wa2, P2, W2) => (f2 ≤ mz) ∧ (t2 ≤ mz) ∧ (f2 ≤ t2) ∧ (f2 < t2 ∨ f2 = mz) ∧ (mf ≤ f2) ∧ (w2 = 0 → mw = 0 ∧ True) ∧ (ms2 0 = nI P2) ∧ (ms2 1 = nI Rn) ∧ (ms2 2 = nI W2) ∧ (SI ms2) ∧ (MI ms2) ∧ (P2 ≤ 10) ∧ (Rn ≤ 8) ∧ (W2 ≤ 8) ∧ (RI Rn ms2)) D (fun (u : Nat × Nat × Int32 × Int32 × (Nat → Int32) × (Nat → Int32) × Nat × Nat) => match u with | (f2, t2, v2, w2, ms2, wa2, P2, W2) => [(h0, .inr (9, [.ref ys, .ref yk, .ref yo, .ref yt, .int mk0, .ref yfa, .ref yfe, .int mL, .int mS, .int mM, .ref yro, .ref yhe, .ref ygr, .int mF, .int mC, .int mY, .ref yta, .int (nI (mz)), .int (nI (f2)), .int (nI (t2)), .int v2, .int w2, .ref ywa, .ref ybi, .ref ysi, .ref ynu, .ref ymo])), (ys, .inl (cI, 449, .inl ms2)), (yta, .inl (cI, 120, .inl tp)), (ywa, .inl (cI, 6, .inl wa2))]) A) (fr := fun A => A) (by decide) (Nat.le_of_ble_eq_true rfl) ?_
  intro p e s m below meth c ls A hF hr hlk hin hsz hP hK hD hN hZ hA hS hl
  have hF : CallFix p m c cX9_item 2 s _ _ RX9 := hF
  have hx := hF.1
  have hb := hF.2.1
  have hml := hF.2.2.1
  have hown := hF.2.2.2.1
  have hu : ∀ w ∈ wsU, w.before _ s = true := fun w h => hF.2.2.2.2 w (List.mem_cons_of_mem _ h)
  have hl : lv_has ls 2 [(0, .ref h0)] := hl
  refine lv_aload_n hx hb dX9_item_0 rfl (lv_at hl 0 rfl) ?_
  refine lv_bipush (v := 119) hx hb dX9_item_1 (by decide) ?_
  refine lv_bipush (v := 97) hx hb dX9_item_3 (by decide) ?_
  refine lv_bipush (v := 121) hx hb dX9_item_5 (by decide) ?_
  refine lv_iconst (v := 0) hx hb dX9_item_7 (by decide) ?_
  refine lv_iconst (v := 0) hx hb dX9_item_8 (by decide) ?_
  refine lv_iconst (v := 0) hx hb dX9_item_9 (by decide) ?_
  refine lv_iconst (v := 0) hx hb dX9_item_10 (by decide) ?_
  refine xc_Vr hF (c_X9_isWord l D cI cJ cZ cS ta sa sv s.heap.size h0 ys yk yo yt mk0 yfa yfe mL mS mM yro yhe ygr mF mC mY yta mz mf mt mv mw ywa ybi ysi ynu ymo tp 119 97 121 0 0 0 0 (by omega) (by omega)) kv_X9_290 ⟨rfl, rfl, Nat.le_of_ble_eq_true rfl, Nat.le_of_ble_eq_true rfl⟩ ⟨Nat.le_of_ble_eq_true rfl, Nat.le_of_ble_eq_true rfl⟩ hK hN hZ hP hD hS hA [0, 2] rfl rfl 0 rfl rfl rfl rfl hl.1 rfl (Nat.le_of_ble_eq_true rfl) dX9_item_11 (fun r_1 hw_r_1 => ?_)
  rcases hw_r_1 with rfl | rfl
  · skip
    refine lv_if_eq (tgt := 24) hx hb dX9_item_14 (by decide) (fun c_2 => absurd c_2 (by decide)) (fun c_2 => ?_)
    refine lv_aload_n hx hb dX9_item_17 rfl (lv_at hl 0 rfl) ?_
    refine xc_Vv (wr := [(ywa, .inl (cI, 6, .inl wa))]) hF (c_X9_wayItem l D cI cJ cZ cS ta sa sv s.heap.size h0 ys yk yo yt mk0 yfa yfe mL mS mM yro yhe ygr mF mC mY yta mz mf mt mv mw ywa ybi ysi ynu ymo ms tp P Rn Wn (by omega) (by omega) (by omega) (by omega) (by omega) hs0 hs1 hs2 hsS hsM hsp hsr hsw hsR) kv_X9_294 ⟨rfl, rfl, Nat.le_of_ble_eq_true rfl, Nat.le_of_ble_eq_true rfl⟩ ⟨Nat.le_of_ble_eq_true rfl, Nat.le_of_ble_eq_true rfl⟩ hK hN hZ hP hD hS hA [0, 1, 2] [3] rfl rfl rfl rfl (by decide) 0 rfl rfl rfl rfl hl.1 rfl (Nat.le_of_ble_eq_true rfl) dX9_item_18 (fun u_r_3 H locs hw_r_3 hP hD hS => ?_)
    obtain ⟨f2_4, t2_5, v2_6, w2_7, ms2_8⟩ := u_r_3
    try dsimp only at hw_r_3
    obtain ⟨i_9, i_10, i_11, i_12, i_13, i_14, i_15, i_16, i_17, i_18, i_19, i_20, i_21, i_22, i_23⟩ := hw_r_3
    have hP : va_P D vwCl [(ywa, .inl (cI, 6, .inl wa)), (h0, .inr (9, [.ref ys, .ref yk, .ref yo, .ref yt, .int mk0, .ref yfa, .ref yfe, .int mL, .int mS, .int mM, .ref yro, .ref yhe, .ref ygr, .int mF, .int mC, .int mY, .ref yta, .int (nI (mz)), .int (nI (f2_4)), .int (nI (t2_5)), .int v2_6, .int w2_7, .ref ywa, .ref ybi, .ref ysi, .ref ynu, .ref ymo])), (ys, .inl (cI, 449, .inl ms2_8)), (yta, .inl (cI, 120, .inl tp))] H := hP
    have hD : va_D A [(ywa, .inl (cI, 6, .inl wa)), (h0, .inr (9, [.ref ys, .ref yk, .ref yo, .ref yt, .int mk0, .ref yfa, .ref yfe, .int mL, .int mS, .int mM, .ref yro, .ref yhe, .ref ygr, .int mF, .int mC, .int mY, .ref yta, .int (nI (mz)), .int (nI (f2_4)), .int (nI (t2_5)), .int v2_6, .int w2_7, .ref ywa, .ref ybi, .ref ysi, .ref ynu, .ref ymo])), (ys, .inl (cI, 449, .inl ms2_8)), (yta, .inl (cI, 120, .inl tp))] := hD
    refine lv_goto (tgt := 156) hx hb dX9_item_21 (by decide) ?_
    exact W.vret hx hb hr (fun t ht hW => ⟨⟨(f2_4, t2_5, v2_6, w2_7, ms2_8, wa, P, Wn), rfl, ⟨(by first | assumption | omega), (by first | assumption | omega), (by first | assumption | omega), (by first | assumption | omega), (by first | assumption | omega), (fun h => ⟨(i_14 h).1, trivial⟩), i_15, i_16, i_17, i_18, i_19, i_20, i_21, i_22, i_23⟩, by rw [ht]; exact hP.sub [1, 2, 3, 0] rfl, hD.sub [1, 2, 3, 0] (by decide) rfl⟩, hS.F ht⟩) hS.2.2 dX9_item_156 hlk
  · skip
    refine lv_if_eq (tgt := 24) hx hb dX9_item_14 (by decide) (fun c_24 => ?_) (fun c_24 => absurd (by decide) c_24)
    refine lv_aload_n hx hb dX9_item_24 rfl (lv_at hl 0 rfl) ?_
    refine lv_bipush (v := 119) hx hb dX9_item_25 (by decide) ?_
    refine lv_bipush (v := 97) hx hb dX9_item_27 (by decide) ?_
    refine lv_bipush (v := 108) hx hb dX9_item_29 (by decide) ?_
    refine lv_bipush (v := 107) hx hb dX9_item_31 (by decide) ?_
    refine lv_iconst (v := 0) hx hb dX9_item_33 (by decide) ?_
    refine lv_iconst (v := 0) hx hb dX9_item_34 (by decide) ?_
    refine lv_iconst (v := 0) hx hb dX9_item_35 (by decide) ?_
    refine xc_Vr hF (c_X9_isWord l D cI cJ cZ cS ta sa sv s.heap.size h0 ys yk yo yt mk0 yfa yfe mL mS mM yro yhe ygr mF mC mY yta mz mf mt mv mw ywa ybi ysi ynu ymo tp 119 97 108 107 0 0 0 (by omega) (by omega)) kv_X9_290 ⟨rfl, rfl, Nat.le_of_ble_eq_true rfl, Nat.le_of_ble_eq_true rfl⟩ ⟨Nat.le_of_ble_eq_true rfl, Nat.le_of_ble_eq_true rfl⟩ hK hN hZ hP hD hS hA [0, 2] rfl rfl 0 rfl rfl rfl rfl hl.1 rfl (Nat.le_of_ble_eq_true rfl) dX9_item_36 (fun r_25 hw_r_25 => ?_)
    rcases hw_r_25 with rfl | rfl
    · skip
      refine lv_if_eq (tgt := 49) hx hb dX9_item_39 (by decide) (fun c_26 => absurd c_26 (by decide)) (fun c_26 => ?_)
      refine lv_aload_n hx hb dX9_item_42 rfl (lv_at hl 0 rfl) ?_
      refine xc_Vv (wr := []) hF (c_X9_walkItem l D cI cJ cZ cS ta sa sv s.heap.size h0 ys yk yo yt mk0 yfa yfe mL mS mM yro yhe ygr mF mC mY yta mz mf mt mv mw ywa ybi ysi ynu ymo ms tp wa P Rn Wn (by omega) (by omega) (by omega) (by omega) (by omega) hs0 hs1 hs2 hsS hsM hsp hsr hsw hsR) kv_X9_297 ⟨rfl, rfl, Nat.le_of_ble_eq_true rfl, Nat.le_of_ble_eq_true rfl⟩ ⟨Nat.le_of_ble_eq_true rfl, Nat.le_of_ble_eq_true rfl⟩ hK hN hZ hP hD hS hA [0, 1, 2, 3] [] rfl rfl rfl rfl (by decide) 0 rfl rfl rfl rfl hl.1 rfl (Nat.le_of_ble_eq_true rfl) dX9_item_43 (fun u_r_27 H locs hw_r_27 hP hD hS => ?_)
      obtain ⟨f2_28, t2_29, v2_30, w2_31, ms2_32, wa2_33, W2_34⟩ := u_r_27
      try dsimp only at hw_r_27
      obtain ⟨i_35, i_36, i_37, i_38, i_39, i_40, i_41, i_42, i_43, i_44, i_45, i_46, i_47, i_48, i_49⟩ := hw_r_27
      have hP : va_P D vwCl [(h0, .inr (9, [.ref ys, .ref yk, .ref yo, .ref yt, .int mk0, .ref yfa, .ref yfe, .int mL, .int mS, .int mM, .ref yro, .ref yhe, .ref ygr, .int mF, .int mC, .int mY, .ref yta, .int (nI (mz)), .int (nI (f2_28)), .int (nI (t2_29)), .int v2_30, .int w2_31, .ref ywa, .ref ybi, .ref ysi, .ref ynu, .ref ymo])), (ys, .inl (cI, 449, .inl ms2_32)), (yta, .inl (cI, 120, .inl tp)), (ywa, .inl (cI, 6, .inl wa2_33))] H := hP
      have hD : va_D A [(h0, .inr (9, [.ref ys, .ref yk, .ref yo, .ref yt, .int mk0, .ref yfa, .ref yfe, .int mL, .int mS, .int mM, .ref yro, .ref yhe, .ref ygr, .int mF, .int mC, .int mY, .ref yta, .int (nI (mz)), .int (nI (f2_28)), .int (nI (t2_29)), .int v2_30, .int w2_31, .ref ywa, .ref ybi, .ref ysi, .ref ynu, .ref ymo])), (ys, .inl (cI, 449, .inl ms2_32)), (yta, .inl (cI, 120, .inl tp)), (ywa, .inl (cI, 6, .inl wa2_33))] := hD
      refine lv_goto (tgt := 156) hx hb dX9_item_46 (by decide) ?_
      exact W.vret hx hb hr (fun t ht hW => ⟨⟨(f2_28, t2_29, v2_30, w2_31, ms2_32, wa2_33, P, W2_34), rfl, ⟨(by first | assumption | omega), (by first | assumption | omega), (by first | assumption | omega), (by first | assumption | omega), (by first | assumption | omega), (fun h => ⟨(i_40 h).1, trivial⟩), i_41, i_42, i_43, i_44, i_45, i_46, i_47, i_48, i_49⟩, by rw [ht]; exact hP.sub [0, 1, 2, 3] rfl, hD.sub [0, 1, 2, 3] (by decide) rfl⟩, hS.F ht⟩) hS.2.2 dX9_item_156 hlk
    · skip
      refine lv_if_eq (tgt := 49) hx hb dX9_item_39 (by decide) (fun c_50 => ?_) (fun c_50 => absurd (by decide) c_50)
      refine lv_aload_n hx hb dX9_item_49 rfl (lv_at hl 0 rfl) ?_
      refine lv_aload_n hx hb dX9_item_50 rfl (lv_at hl 0 rfl) ?_
      refine lv_bipush (v := 112) hx hb dX9_item_51 (by decide) ?_
      refine lv_bipush (v := 108) hx hb dX9_item_53 (by decide) ?_
      refine lv_bipush (v := 97) hx hb dX9_item_55 (by decide) ?_
      refine lv_bipush (v := 99) hx hb dX9_item_57 (by decide) ?_
      refine lv_bipush (v := 101) hx hb dX9_item_59 (by decide) ?_
      refine lv_iconst (v := 0) hx hb dX9_item_61 (by decide) ?_
      refine lv_iconst (v := 0) hx hb dX9_item_62 (by decide) ?_
      refine xc_Vr hF (c_X9_isWord l D cI cJ cZ cS ta sa sv s.heap.size h0 ys yk yo yt mk0 yfa yfe mL mS mM yro yhe ygr mF mC mY yta mz mf mt mv mw ywa ybi ysi ynu ymo tp 112 108 97 99 101 0 0 (by omega) (by omega)) kv_X9_290 ⟨rfl, rfl, Nat.le_of_ble_eq_true rfl, Nat.le_of_ble_eq_true rfl⟩ ⟨Nat.le_of_ble_eq_true rfl, Nat.le_of_ble_eq_true rfl⟩ hK hN hZ hP hD hS hA [0, 2] rfl rfl 0 rfl rfl rfl rfl hl.1 rfl (Nat.le_of_ble_eq_true rfl) dX9_item_63 (fun r_51 hw_r_51 => ?_)
      rcases hw_r_51 with rfl | rfl
      · skip
        refine lv_if_eq (tgt := 84) hx hb dX9_item_66 (by decide) (fun c_52 => absurd c_52 (by decide)) (fun c_52 => ?_)
        refine lv_aload_n hx hb dX9_item_69 rfl (lv_at hl 0 rfl) ?_
        refine xg hF kf_X9_7 hK hP 0 rfl rfl dX9_item_70 ?_
        refine lv_iconst (v := 0) hx hb dX9_item_73 (by decide) ?_
        refine va_iald hx hb hK hP 1 0 rfl rfl (xin 0 449 (by decide) (by decide)) dX9_item_74 ?_
        refine xl_i (y := nI (P)) hs0 ?_
        refine lv_bipush (v := 10) hx hb dX9_item_75 (by decide) ?_
        refine lv_icmp_ge (tgt := 84) hx hb dX9_item_77 (by decide) (fun c_53 => ?_) (fun c_53 => ?_)
        · skip
          have nc_53 : 10 ≤ P := xn_le (a := 10) (b := P) (by omega) (by omega) c_53
          refine lv_iconst (v := 0) hx hb dX9_item_84 (by decide) ?_
          refine xc_Vv (wr := [(ys, .inl (cI, 449, .inl ms)), (ywa, .inl (cI, 6, .inl wa))]) hF (c_X9_needs l D cI cJ cZ cS ta sa sv s.heap.size h0 ys yk yo yt mk0 yfa yfe mL mS mM yro yhe ygr mF mC mY yta mz mf mt mv mw ywa ybi ysi ynu ymo tp 0 (by omega) (by omega) (by omega) (by omega) (by omega)) kv_X9_278 ⟨rfl, rfl, Nat.le_of_ble_eq_true rfl, Nat.le_of_ble_eq_true rfl⟩ ⟨Nat.le_of_ble_eq_true rfl, Nat.le_of_ble_eq_true rfl⟩ hK hN hZ hP hD hS hA [0, 2] [1, 3] rfl rfl rfl rfl (by decide) 0 rfl rfl rfl rfl hl.1 rfl (Nat.le_of_ble_eq_true rfl) dX9_item_85 (fun u_r_54 H locs hw_r_54 hP hD hS => ?_)
          obtain ⟨f2_55, t2_56, w2_57⟩ := u_r_54
          try dsimp only at hw_r_54
          obtain ⟨i_58, i_59, i_60, i_61, i_62, i_63⟩ := hw_r_54
          have hP : va_P D vwCl [(ys, .inl (cI, 449, .inl ms)), (ywa, .inl (cI, 6, .inl wa)), (h0, .inr (9, [.ref ys, .ref yk, .ref yo, .ref yt, .int mk0, .ref yfa, .ref yfe, .int mL, .int mS, .int mM, .ref yro, .ref yhe, .ref ygr, .int mF, .int mC, .int mY, .ref yta, .int (nI (mz)), .int (nI (f2_55)), .int (nI (t2_56)), .int mv, .int w2_57, .ref ywa, .ref ybi, .ref ysi, .ref ynu, .ref ymo])), (yta, .inl (cI, 120, .inl tp))] H := hP
          have hD : va_D A [(ys, .inl (cI, 449, .inl ms)), (ywa, .inl (cI, 6, .inl wa)), (h0, .inr (9, [.ref ys, .ref yk, .ref yo, .ref yt, .int mk0, .ref yfa, .ref yfe, .int mL, .int mS, .int mM, .ref yro, .ref yhe, .ref ygr, .int mF, .int mC, .int mY, .ref yta, .int (nI (mz)), .int (nI (f2_55)), .int (nI (t2_56)), .int mv, .int w2_57, .ref ywa, .ref ybi, .ref ysi, .ref ynu, .ref ymo])), (yta, .inl (cI, 120, .inl tp))] := hD
          refine lv_aload_n hx hb dX9_item_88 rfl (lv_at hl 0 rfl) ?_
          refine xg hF kf_X9_266 hK hP 2 rfl rfl dX9_item_89 ?_
          refine lv_if_eq (tgt := 99) hx hb dX9_item_92 (by decide) (fun c_64 => absurd rfl (i_63 c_64).2.1) (fun c_64 => ?_)
          refine lv_iconst (v := 0) hx hb dX9_item_95 (by decide) ?_
          refine lv_goto (tgt := 103) hx hb dX9_item_96 (by decide) ?_
          refine lv_istore_n (lv' := [(1, .int 0), (0, .ref h0)]) hx hb dX9_item_103 rfl hl (by decide) rfl (fun ls hl => ?_)
          refine lv_aload_n hx hb dX9_item_104 rfl (lv_at hl 1 rfl) ?_
          refine lv_bipush (v := 101) hx hb dX9_item_105 (by decide) ?_
          refine lv_bipush (v := 114) hx hb dX9_item_107 (by decide) ?_
          refine lv_bipush (v := 114) hx hb dX9_item_109 (by decide) ?_
          refine lv_bipush (v := 97) hx hb dX9_item_111 (by decide) ?_
          refine lv_bipush (v := 110) hx hb dX9_item_113 (by decide) ?_
          refine lv_bipush (v := 100) hx hb dX9_item_115 (by decide) ?_
          refine lv_bipush (v := 115) hx hb dX9_item_117 (by decide) ?_
          refine xc_Vr hF (c_X9_isWord l D cI cJ cZ cS ta sa sv H.size h0 ys yk yo yt mk0 yfa yfe mL mS mM yro yhe ygr mF mC mY yta mz f2_55 t2_56 mv w2_57 ywa ybi ysi ynu ymo tp 101 114 114 97 110 100 115 (by omega) (by omega)) kv_X9_290 ⟨rfl, rfl, Nat.le_of_ble_eq_true rfl, Nat.le_of_ble_eq_true rfl⟩ ⟨Nat.le_of_ble_eq_true rfl, Nat.le_of_ble_eq_true rfl⟩ hK hN hZ hP hD hS hA [2, 3] rfl rfl 0 rfl rfl rfl rfl hl.1 rfl (Nat.le_of_ble_eq_true rfl) dX9_item_119 (fun r_65 hw_r_65 => ?_)
          rcases hw_r_65 with rfl | rfl
          · skip
            refine lv_if_eq (tgt := 156) hx hb dX9_item_122 (by decide) (fun c_66 => absurd c_66 (by decide)) (fun c_66 => ?_)
            refine lv_aload_n hx hb dX9_item_125 rfl (lv_at hl 1 rfl) ?_
            refine lv_iconst (v := 1) hx hb dX9_item_126 (by decide) ?_
            refine xc_Vv (wr := [(ys, .inl (cI, 449, .inl ms)), (ywa, .inl (cI, 6, .inl wa))]) hF (c_X9_needs l D cI cJ cZ cS ta sa sv H.size h0 ys yk yo yt mk0 yfa yfe mL mS mM yro yhe ygr mF mC mY yta mz f2_55 t2_56 mv w2_57 ywa ybi ysi ynu ymo tp 1 (by omega) (by omega) (by omega) (by omega) (by omega)) kv_X9_278 ⟨rfl, rfl, Nat.le_of_ble_eq_true rfl, Nat.le_of_ble_eq_true rfl⟩ ⟨Nat.le_of_ble_eq_true rfl, Nat.le_of_ble_eq_true rfl⟩ hK hN hZ hP hD hS hA [2, 3] [0, 1] rfl rfl rfl rfl (by decide) 0 rfl rfl rfl rfl hl.1 rfl (Nat.le_of_ble_eq_true rfl) dX9_item_127 (fun u_r_67 H locs hw_r_67 hP hD hS => ?_)
            obtain ⟨f2_68, t2_69, w2_70⟩ := u_r_67
            try dsimp only at hw_r_67
            obtain ⟨i_71, i_72, i_73, i_74, i_75, i_76⟩ := hw_r_67
            have hP : va_P D vwCl [(ys, .inl (cI, 449, .inl ms)), (ywa, .inl (cI, 6, .inl wa)), (h0, .inr (9, [.ref ys, .ref yk, .ref yo, .ref yt, .int mk0, .ref yfa, .ref yfe, .int mL, .int mS, .int mM, .ref yro, .ref yhe, .ref ygr, .int mF, .int mC, .int mY, .ref yta, .int (nI (mz)), .int (nI (f2_68)), .int (nI (t2_69)), .int mv, .int w2_70, .ref ywa, .ref ybi, .ref ysi, .ref ynu, .ref ymo])), (yta, .inl (cI, 120, .inl tp))] H := hP
            have hD : va_D A [(ys, .inl (cI, 449, .inl ms)), (ywa, .inl (cI, 6, .inl wa)), (h0, .inr (9, [.ref ys, .ref yk, .ref yo, .ref yt, .int mk0, .ref yfa, .ref yfe, .int mL, .int mS, .int mM, .ref yro, .ref yhe, .ref ygr, .int mF, .int mC, .int mY, .ref yta, .int (nI (mz)), .int (nI (f2_68)), .int (nI (t2_69)), .int mv, .int w2_70, .ref ywa, .ref ybi, .ref ysi, .ref ynu, .ref ymo])), (yta, .inl (cI, 120, .inl tp))] := hD
            refine lv_aload_n hx hb dX9_item_130 rfl (lv_at hl 1 rfl) ?_
            refine lv_iconst (v := 0) hx hb dX9_item_131 (by decide) ?_
            refine lv_bipush (v := 99) hx hb dX9_item_132 (by decide) ?_
            refine xc_Vv (wr := [(ys, .inl (cI, 449, .inl ms)), (ywa, .inl (cI, 6, .inl wa))]) hF (c_X9_number l D cI cJ cZ cS ta sa sv H.size h0 ys yk yo yt mk0 yfa yfe mL mS mM yro yhe ygr mF mC mY yta mz f2_68 t2_69 mv w2_70 ywa ybi ysi ynu ymo tp 0 99 (by omega) (by omega) (by omega) (by omega) (by omega)) kv_X9_282 ⟨rfl, rfl, Nat.le_of_ble_eq_true rfl, Nat.le_of_ble_eq_true rfl⟩ ⟨Nat.le_of_ble_eq_true rfl, Nat.le_of_ble_eq_true rfl⟩ hK hN hZ hP hD hS hA [2, 3] [0, 1] rfl rfl rfl rfl (by decide) 0 rfl rfl rfl rfl hl.1 rfl (Nat.le_of_ble_eq_true rfl) dX9_item_134 (fun u_r_77 H locs hw_r_77 hP hD hS => ?_)
            obtain ⟨f2_78, t2_79, v2_80, w2_81⟩ := u_r_77
            try dsimp only at hw_r_77
            obtain ⟨i_82, i_83, i_84, i_85, i_86, i_87⟩ := hw_r_77
            have hP : va_P D vwCl [(ys, .inl (cI, 449, .inl ms)), (ywa, .inl (cI, 6, .inl wa)), (h0, .inr (9, [.ref ys, .ref yk, .ref yo, .ref yt, .int mk0, .ref yfa, .ref yfe, .int mL, .int mS, .int mM, .ref yro, .ref yhe, .ref ygr, .int mF, .int mC, .int mY, .ref yta, .int (nI (mz)), .int (nI (f2_78)), .int (nI (t2_79)), .int v2_80, .int w2_81, .ref ywa, .ref ybi, .ref ysi, .ref ynu, .ref ymo])), (yta, .inl (cI, 120, .inl tp))] H := hP
            have hD : va_D A [(ys, .inl (cI, 449, .inl ms)), (ywa, .inl (cI, 6, .inl wa)), (h0, .inr (9, [.ref ys, .ref yk, .ref yo, .ref yt, .int mk0, .ref yfa, .ref yfe, .int mL, .int mS, .int mM, .ref yro, .ref yhe, .ref ygr, .int mF, .int mC, .int mY, .ref yta, .int (nI (mz)), .int (nI (f2_78)), .int (nI (t2_79)), .int v2_80, .int w2_81, .ref ywa, .ref ybi, .ref ysi, .ref ynu, .ref ymo])), (yta, .inl (cI, 120, .inl tp))] := hD
            refine lv_aload_n hx hb dX9_item_137 rfl (lv_at hl 1 rfl) ?_
            refine xg hF kf_X9_266 hK hP 2 rfl rfl dX9_item_138 ?_
            refine lv_if_ne (tgt := 156) hx hb dX9_item_141 (by decide) (fun c_88 => ?_) (fun c_88 => ?_)
            · skip
              exact W.vret hx hb hr (fun t ht hW => ⟨⟨(f2_78, t2_79, v2_80, w2_81, ms, wa, P, Wn), rfl, ⟨(by first | assumption | omega), (by first | assumption | omega), (by first | assumption | omega), (by first | assumption | omega), (by first | assumption | omega), (fun h => ⟨(i_63 (i_76 (i_87 h).1).1).1, trivial⟩), hs0, hs1, hs2, hsS, hsM, hsp, hsr, hsw, hsR⟩, by rw [ht]; exact hP.sub [2, 0, 3, 1] rfl, hD.sub [2, 0, 3, 1] (by decide) rfl⟩, hS.F ht⟩) hS.2.2 dX9_item_156 hlk
            · skip
              refine lv_aload_n hx hb dX9_item_144 rfl (lv_at hl 1 rfl) ?_
              refine xg hF kf_X9_7 hK hP 2 rfl rfl dX9_item_145 ?_
              refine lv_iconst (v := 3) hx hb dX9_item_148 (by decide) ?_
              refine lv_iload_n hx hb dX9_item_149 rfl (lv_at hl 0 rfl) ?_
              refine lv_iadd hx hb dX9_item_150 ?_
              refine xl_i (y := 3) (by decide) ?_
              refine lv_aload_n hx hb dX9_item_151 rfl (lv_at hl 1 rfl) ?_
              refine xg hF kf_X9_275 hK hP 2 rfl rfl dX9_item_152 ?_
              refine va_iast hx hb hK hP hD hS 0 0 rfl rfl (xin 3 449 (by decide) (by decide)) dX9_item_155 (fun H locs hP hD hS => ?_)
              obtain ⟨f_89, ef_89⟩ : ∃ g, g = upd ms 3 v2_80 := ⟨_, rfl⟩
              have hP : va_P D vwCl [(ys, .inl (cI, 449, .inl (upd ms 3 v2_80))), (ywa, .inl (cI, 6, .inl wa)), (h0, .inr (9, [.ref ys, .ref yk, .ref yo, .ref yt, .int mk0, .ref yfa, .ref yfe, .int mL, .int mS, .int mM, .ref yro, .ref yhe, .ref ygr, .int mF, .int mC, .int mY, .ref yta, .int (nI (mz)), .int (nI (f2_78)), .int (nI (t2_79)), .int v2_80, .int w2_81, .ref ywa, .ref ybi, .ref ysi, .ref ynu, .ref ymo])), (yta, .inl (cI, 120, .inl tp))] H := hP
              have hD : va_D A [(ys, .inl (cI, 449, .inl (upd ms 3 v2_80))), (ywa, .inl (cI, 6, .inl wa)), (h0, .inr (9, [.ref ys, .ref yk, .ref yo, .ref yt, .int mk0, .ref yfa, .ref yfe, .int mL, .int mS, .int mM, .ref yro, .ref yhe, .ref ygr, .int mF, .int mC, .int mY, .ref yta, .int (nI (mz)), .int (nI (f2_78)), .int (nI (t2_79)), .int v2_80, .int w2_81, .ref ywa, .ref ybi, .ref ysi, .ref ynu, .ref ymo])), (yta, .inl (cI, 120, .inl tp))] := hD
              rw [← ef_89] at hP hD
              have k0_f_89 : f_89 0 = nI P := by rw [ef_89]; exact (pk_un (show 0 ≠ 3 by omega)).trans hs0
              have k1_f_89 : f_89 1 = nI Rn := by rw [ef_89]; exact (pk_un (show 1 ≠ 3 by omega)).trans hs1
              have k2_f_89 : f_89 2 = nI Wn := by rw [ef_89]; exact (pk_un (show 2 ≠ 3 by omega)).trans hs2
              have kS_f_89 : SI f_89 := by rw [ef_89]; exact SI.upd hsS (okS.low (show 3 < 313 by omega))
              have kM_f_89 : MI f_89 := by rw [ef_89]; exact MI.upd hsM (okM.out (show 3 < 13 ∨ 113 ≤ 3 by omega))
              have kR_f_89 : RI Rn f_89 := by rw [ef_89]; exact RI.upd hsR (fun r9 hr9 e9 => by omega)
              have hP : va_P D vwCl [(ys, .inl (cI, 449, .inl f_89)), (ywa, .inl (cI, 6, .inl wa)), (h0, .inr (9, [.ref ys, .ref yk, .ref yo, .ref yt, .int mk0, .ref yfa, .ref yfe, .int mL, .int mS, .int mM, .ref yro, .ref yhe, .ref ygr, .int mF, .int mC, .int mY, .ref yta, .int (nI (mz)), .int (nI (f2_78)), .int (nI (t2_79)), .int v2_80, .int w2_81, .ref ywa, .ref ybi, .ref ysi, .ref ynu, .ref ymo])), (yta, .inl (cI, 120, .inl tp))] H := hP
              have hD : va_D A [(ys, .inl (cI, 449, .inl f_89)), (ywa, .inl (cI, 6, .inl wa)), (h0, .inr (9, [.ref ys, .ref yk, .ref yo, .ref yt, .int mk0, .ref yfa, .ref yfe, .int mL, .int mS, .int mM, .ref yro, .ref yhe, .ref ygr, .int mF, .int mC, .int mY, .ref yta, .int (nI (mz)), .int (nI (f2_78)), .int (nI (t2_79)), .int v2_80, .int w2_81, .ref ywa, .ref ybi, .ref ysi, .ref ynu, .ref ymo])), (yta, .inl (cI, 120, .inl tp))] := hD
              exact W.vret hx hb hr (fun t ht hW => ⟨⟨(f2_78, t2_79, v2_80, w2_81, f_89, wa, P, Wn), rfl, ⟨(by first | assumption | omega), (by first | assumption | omega), (by first | assumption | omega), (by first | assumption | omega), (by first | assumption | omega), (fun h => ⟨(i_63 (i_76 (i_87 h).1).1).1, trivial⟩), k0_f_89, k1_f_89, k2_f_89, kS_f_89, kM_f_89, hsp, hsr, hsw, kR_f_89⟩, by rw [ht]; exact hP.sub [2, 0, 3, 1] rfl, hD.sub [2, 0, 3, 1] (by decide) rfl⟩, hS.F ht⟩) hS.2.2 dX9_item_156 hlk
          · skip
            refine lv_if_eq (tgt := 156) hx hb dX9_item_122 (by decide) (fun c_90 => ?_) (fun c_90 => absurd (by decide) c_90)
            exact W.vret hx hb hr (fun t ht hW => ⟨⟨(f2_55, t2_56, mv, w2_57, ms, wa, P, Wn), rfl, ⟨(by first | assumption | omega), (by first | assumption | omega), (by first | assumption | omega), (by first | assumption | omega), (by first | assumption | omega), (fun h => ⟨(i_63 h).1, trivial⟩), hs0, hs1, hs2, hsS, hsM, hsp, hsr, hsw, hsR⟩, by rw [ht]; exact hP.sub [2, 0, 3, 1] rfl, hD.sub [2, 0, 3, 1] (by decide) rfl⟩, hS.F ht⟩) hS.2.2 dX9_item_156 hlk
        · skip
          have nc_53 : P < 10 := xn_nle (a := 10) (b := P) (by omega) (by omega) c_53
          refine lv_iconst (v := 1) hx hb dX9_item_80 (by decide) ?_
          refine lv_goto (tgt := 85) hx hb dX9_item_81 (by decide) ?_
          refine xc_Vv (wr := [(ys, .inl (cI, 449, .inl ms)), (ywa, .inl (cI, 6, .inl wa))]) hF (c_X9_needs l D cI cJ cZ cS ta sa sv s.heap.size h0 ys yk yo yt mk0 yfa yfe mL mS mM yro yhe ygr mF mC mY yta mz mf mt mv mw ywa ybi ysi ynu ymo tp 1 (by omega) (by omega) (by omega) (by omega) (by omega)) kv_X9_278 ⟨rfl, rfl, Nat.le_of_ble_eq_true rfl, Nat.le_of_ble_eq_true rfl⟩ ⟨Nat.le_of_ble_eq_true rfl, Nat.le_of_ble_eq_true rfl⟩ hK hN hZ hP hD hS hA [0, 2] [1, 3] rfl rfl rfl rfl (by decide) 0 rfl rfl rfl rfl hl.1 rfl (Nat.le_of_ble_eq_true rfl) dX9_item_85 (fun u_r_91 H locs hw_r_91 hP hD hS => ?_)
          obtain ⟨f2_92, t2_93, w2_94⟩ := u_r_91
          try dsimp only at hw_r_91
          obtain ⟨i_95, i_96, i_97, i_98, i_99, i_100⟩ := hw_r_91
          have hP : va_P D vwCl [(ys, .inl (cI, 449, .inl ms)), (ywa, .inl (cI, 6, .inl wa)), (h0, .inr (9, [.ref ys, .ref yk, .ref yo, .ref yt, .int mk0, .ref yfa, .ref yfe, .int mL, .int mS, .int mM, .ref yro, .ref yhe, .ref ygr, .int mF, .int mC, .int mY, .ref yta, .int (nI (mz)), .int (nI (f2_92)), .int (nI (t2_93)), .int mv, .int w2_94, .ref ywa, .ref ybi, .ref ysi, .ref ynu, .ref ymo])), (yta, .inl (cI, 120, .inl tp))] H := hP
          have hD : va_D A [(ys, .inl (cI, 449, .inl ms)), (ywa, .inl (cI, 6, .inl wa)), (h0, .inr (9, [.ref ys, .ref yk, .ref yo, .ref yt, .int mk0, .ref yfa, .ref yfe, .int mL, .int mS, .int mM, .ref yro, .ref yhe, .ref ygr, .int mF, .int mC, .int mY, .ref yta, .int (nI (mz)), .int (nI (f2_92)), .int (nI (t2_93)), .int mv, .int w2_94, .ref ywa, .ref ybi, .ref ysi, .ref ynu, .ref ymo])), (yta, .inl (cI, 120, .inl tp))] := hD
          refine lv_aload_n hx hb dX9_item_88 rfl (lv_at hl 0 rfl) ?_
          refine xg hF kf_X9_266 hK hP 2 rfl rfl dX9_item_89 ?_
          refine lv_if_eq (tgt := 99) hx hb dX9_item_92 (by decide) (fun c_101 => ?_) (fun c_101 => ?_)
          · skip
            refine lv_aload_n hx hb dX9_item_99 rfl (lv_at hl 0 rfl) ?_
            refine xc_Vi (wr := [(ywa, .inl (cI, 6, .inl wa)), (yta, .inl (cI, 120, .inl tp))]) hF (c_X9_newPlace l D cI cJ cZ cS ta sa sv H.size h0 ys yk yo yt mk0 yfa yfe mL mS mM yro yhe ygr mF mC mY yta mz f2_92 t2_93 mv w2_94 ywa ybi ysi ynu ymo ms P Rn Wn (by omega) hs0 hs1 hs2 hsS hsM hsp hsr hsw hsR) kv_X9_74 ⟨rfl, rfl, Nat.le_of_ble_eq_true rfl, Nat.le_of_ble_eq_true rfl⟩ ⟨Nat.le_of_ble_eq_true rfl, Nat.le_of_ble_eq_true rfl⟩ hK hN hZ hP hD hS hA [2, 0] [1, 3] rfl rfl rfl rfl (by decide) 0 rfl rfl rfl rfl hl.1 rfl (Nat.le_of_ble_eq_true rfl) dX9_item_100 (fun r_102 u_r_102 H locs hw_r_102 hP hD hS => ?_)
            obtain ⟨ms2_103, rfl⟩ : ∃ z, z = u_r_102 := ⟨_, rfl⟩
            try dsimp only at hw_r_102
            obtain ⟨hw_r_102, i_104, i_105, i_106, i_107, i_108, i_109, i_110, i_111, i_112⟩ := hw_r_102
            have hP : va_P D vwCl [(ywa, .inl (cI, 6, .inl wa)), (yta, .inl (cI, 120, .inl tp)), (h0, .inr (9, [.ref ys, .ref yk, .ref yo, .ref yt, .int mk0, .ref yfa, .ref yfe, .int mL, .int mS, .int mM, .ref yro, .ref yhe, .ref ygr, .int mF, .int mC, .int mY, .ref yta, .int (nI (mz)), .int (nI (f2_92)), .int (nI (t2_93)), .int mv, .int w2_94, .ref ywa, .ref ybi, .ref ysi, .ref ynu, .ref ymo])), (ys, .inl (cI, 449, .inl ms2_103))] H := hP
            have hD : va_D A [(ywa, .inl (cI, 6, .inl wa)), (yta, .inl (cI, 120, .inl tp)), (h0, .inr (9, [.ref ys, .ref yk, .ref yo, .ref yt, .int mk0, .ref yfa, .ref yfe, .int mL, .int mS, .int mM, .ref yro, .ref yhe, .ref ygr, .int mF, .int mC, .int mY, .ref yta, .int (nI (mz)), .int (nI (f2_92)), .int (nI (t2_93)), .int mv, .int w2_94, .ref ywa, .ref ybi, .ref ysi, .ref ynu, .ref ymo])), (ys, .inl (cI, 449, .inl ms2_103))] := hD
            subst hw_r_102
            refine lv_istore_n (lv' := [(1, .int (nI (P))), (0, .ref h0)]) hx hb dX9_item_103 rfl hl (by decide) rfl (fun ls hl => ?_)
            refine lv_aload_n hx hb dX9_item_104 rfl (lv_at hl 1 rfl) ?_
            refine lv_bipush (v := 101) hx hb dX9_item_105 (by decide) ?_
            refine lv_bipush (v := 114) hx hb dX9_item_107 (by decide) ?_
            refine lv_bipush (v := 114) hx hb dX9_item_109 (by decide) ?_
            refine lv_bipush (v := 97) hx hb dX9_item_111 (by decide) ?_
            refine lv_bipush (v := 110) hx hb dX9_item_113 (by decide) ?_
            refine lv_bipush (v := 100) hx hb dX9_item_115 (by decide) ?_
            refine lv_bipush (v := 115) hx hb dX9_item_117 (by decide) ?_
            refine xc_Vr hF (c_X9_isWord l D cI cJ cZ cS ta sa sv H.size h0 ys yk yo yt mk0 yfa yfe mL mS mM yro yhe ygr mF mC mY yta mz f2_92 t2_93 mv w2_94 ywa ybi ysi ynu ymo tp 101 114 114 97 110 100 115 (by omega) (by omega)) kv_X9_290 ⟨rfl, rfl, Nat.le_of_ble_eq_true rfl, Nat.le_of_ble_eq_true rfl⟩ ⟨Nat.le_of_ble_eq_true rfl, Nat.le_of_ble_eq_true rfl⟩ hK hN hZ hP hD hS hA [2, 1] rfl rfl 0 rfl rfl rfl rfl hl.1 rfl (Nat.le_of_ble_eq_true rfl) dX9_item_119 (fun r_113 hw_r_113 => ?_)
            rcases hw_r_113 with rfl | rfl
            · skip
              refine lv_if_eq (tgt := 156) hx hb dX9_item_122 (by decide) (fun c_114 => absurd c_114 (by decide)) (fun c_114 => ?_)
              refine lv_aload_n hx hb dX9_item_125 rfl (lv_at hl 1 rfl) ?_
              refine lv_iconst (v := 1) hx hb dX9_item_126 (by decide) ?_
              refine xc_Vv (wr := [(ywa, .inl (cI, 6, .inl wa)), (ys, .inl (cI, 449, .inl ms2_103))]) hF (c_X9_needs l D cI cJ cZ cS ta sa sv H.size h0 ys yk yo yt mk0 yfa yfe mL mS mM yro yhe ygr mF mC mY yta mz f2_92 t2_93 mv w2_94 ywa ybi ysi ynu ymo tp 1 (by omega) (by omega) (by omega) (by omega) (by omega)) kv_X9_278 ⟨rfl, rfl, Nat.le_of_ble_eq_true rfl, Nat.le_of_ble_eq_true rfl⟩ ⟨Nat.le_of_ble_eq_true rfl, Nat.le_of_ble_eq_true rfl⟩ hK hN hZ hP hD hS hA [2, 1] [0, 3] rfl rfl rfl rfl (by decide) 0 rfl rfl rfl rfl hl.1 rfl (Nat.le_of_ble_eq_true rfl) dX9_item_127 (fun u_r_115 H locs hw_r_115 hP hD hS => ?_)
              obtain ⟨f2_116, t2_117, w2_118⟩ := u_r_115
              try dsimp only at hw_r_115
              obtain ⟨i_119, i_120, i_121, i_122, i_123, i_124⟩ := hw_r_115
              have hP : va_P D vwCl [(ywa, .inl (cI, 6, .inl wa)), (ys, .inl (cI, 449, .inl ms2_103)), (h0, .inr (9, [.ref ys, .ref yk, .ref yo, .ref yt, .int mk0, .ref yfa, .ref yfe, .int mL, .int mS, .int mM, .ref yro, .ref yhe, .ref ygr, .int mF, .int mC, .int mY, .ref yta, .int (nI (mz)), .int (nI (f2_116)), .int (nI (t2_117)), .int mv, .int w2_118, .ref ywa, .ref ybi, .ref ysi, .ref ynu, .ref ymo])), (yta, .inl (cI, 120, .inl tp))] H := hP
              have hD : va_D A [(ywa, .inl (cI, 6, .inl wa)), (ys, .inl (cI, 449, .inl ms2_103)), (h0, .inr (9, [.ref ys, .ref yk, .ref yo, .ref yt, .int mk0, .ref yfa, .ref yfe, .int mL, .int mS, .int mM, .ref yro, .ref yhe, .ref ygr, .int mF, .int mC, .int mY, .ref yta, .int (nI (mz)), .int (nI (f2_116)), .int (nI (t2_117)), .int mv, .int w2_118, .ref ywa, .ref ybi, .ref ysi, .ref ynu, .ref ymo])), (yta, .inl (cI, 120, .inl tp))] := hD
              refine lv_aload_n hx hb dX9_item_130 rfl (lv_at hl 1 rfl) ?_
              refine lv_iconst (v := 0) hx hb dX9_item_131 (by decide) ?_
              refine lv_bipush (v := 99) hx hb dX9_item_132 (by decide) ?_
              refine xc_Vv (wr := [(ywa, .inl (cI, 6, .inl wa)), (ys, .inl (cI, 449, .inl ms2_103))]) hF (c_X9_number l D cI cJ cZ cS ta sa sv H.size h0 ys yk yo yt mk0 yfa yfe mL mS mM yro yhe ygr mF mC mY yta mz f2_116 t2_117 mv w2_118 ywa ybi ysi ynu ymo tp 0 99 (by omega) (by omega) (by omega) (by omega) (by omega)) kv_X9_282 ⟨rfl, rfl, Nat.le_of_ble_eq_true rfl, Nat.le_of_ble_eq_true rfl⟩ ⟨Nat.le_of_ble_eq_true rfl, Nat.le_of_ble_eq_true rfl⟩ hK hN hZ hP hD hS hA [2, 3] [0, 1] rfl rfl rfl rfl (by decide) 0 rfl rfl rfl rfl hl.1 rfl (Nat.le_of_ble_eq_true rfl) dX9_item_134 (fun u_r_125 H locs hw_r_125 hP hD hS => ?_)
              obtain ⟨f2_126, t2_127, v2_128, w2_129⟩ := u_r_125
              try dsimp only at hw_r_125
              obtain ⟨i_130, i_131, i_132, i_133, i_134, i_135⟩ := hw_r_125
              have hP : va_P D vwCl [(ywa, .inl (cI, 6, .inl wa)), (ys, .inl (cI, 449, .inl ms2_103)), (h0, .inr (9, [.ref ys, .ref yk, .ref yo, .ref yt, .int mk0, .ref yfa, .ref yfe, .int mL, .int mS, .int mM, .ref yro, .ref yhe, .ref ygr, .int mF, .int mC, .int mY, .ref yta, .int (nI (mz)), .int (nI (f2_126)), .int (nI (t2_127)), .int v2_128, .int w2_129, .ref ywa, .ref ybi, .ref ysi, .ref ynu, .ref ymo])), (yta, .inl (cI, 120, .inl tp))] H := hP
              have hD : va_D A [(ywa, .inl (cI, 6, .inl wa)), (ys, .inl (cI, 449, .inl ms2_103)), (h0, .inr (9, [.ref ys, .ref yk, .ref yo, .ref yt, .int mk0, .ref yfa, .ref yfe, .int mL, .int mS, .int mM, .ref yro, .ref yhe, .ref ygr, .int mF, .int mC, .int mY, .ref yta, .int (nI (mz)), .int (nI (f2_126)), .int (nI (t2_127)), .int v2_128, .int w2_129, .ref ywa, .ref ybi, .ref ysi, .ref ynu, .ref ymo])), (yta, .inl (cI, 120, .inl tp))] := hD
              refine lv_aload_n hx hb dX9_item_137 rfl (lv_at hl 1 rfl) ?_
              refine xg hF kf_X9_266 hK hP 2 rfl rfl dX9_item_138 ?_
              refine lv_if_ne (tgt := 156) hx hb dX9_item_141 (by decide) (fun c_136 => ?_) (fun c_136 => ?_)
              · skip
                exact W.vret hx hb hr (fun t ht hW => ⟨⟨(f2_126, t2_127, v2_128, w2_129, ms2_103, wa, P + 1, Wn), rfl, ⟨(by first | assumption | omega), (by first | assumption | omega), (by first | assumption | omega), (by first | assumption | omega), (by first | assumption | omega), (fun h => ⟨(i_100 (i_124 (i_135 h).1).1).1, trivial⟩), i_104, i_105, i_106, i_107, i_108, i_109, i_110, i_111, i_112⟩, by rw [ht]; exact hP.sub [2, 1, 3, 0] rfl, hD.sub [2, 1, 3, 0] (by decide) rfl⟩, hS.F ht⟩) hS.2.2 dX9_item_156 hlk
              · skip
                refine lv_aload_n hx hb dX9_item_144 rfl (lv_at hl 1 rfl) ?_
                refine xg hF kf_X9_7 hK hP 2 rfl rfl dX9_item_145 ?_
                refine lv_iconst (v := 3) hx hb dX9_item_148 (by decide) ?_
                refine lv_iload_n hx hb dX9_item_149 rfl (lv_at hl 0 rfl) ?_
                refine lv_iadd hx hb dX9_item_150 ?_
                refine xl_i (y := nI (3 + P)) (nI_add 3 P) ?_
                refine lv_aload_n hx hb dX9_item_151 rfl (lv_at hl 1 rfl) ?_
                refine xg hF kf_X9_275 hK hP 2 rfl rfl dX9_item_152 ?_
                refine va_iast hx hb hK hP hD hS 1 0 rfl rfl (vp_in_nI (show 3 + P < 449 by omega) (by decide)) dX9_item_155 (fun H locs hP hD hS => ?_)
                rw [nI_clamp (show 3 + P < 2 ^ 31 by omega)] at hP hD
                obtain ⟨f_137, ef_137⟩ : ∃ g, g = upd ms2_103 (3 + P) v2_128 := ⟨_, rfl⟩
                rw [← ef_137] at hP hD
                have k0_f_137 : f_137 0 = nI (P + 1) := by rw [ef_137]; exact (pk_un (show 0 ≠ (3 + P) by omega)).trans i_104
                have k1_f_137 : f_137 1 = nI Rn := by rw [ef_137]; exact (pk_un (show 1 ≠ (3 + P) by omega)).trans i_105
                have k2_f_137 : f_137 2 = nI Wn := by rw [ef_137]; exact (pk_un (show 2 ≠ (3 + P) by omega)).trans i_106
                have kS_f_137 : SI f_137 := by rw [ef_137]; exact SI.upd i_107 (okS.low (show (3 + P) < 313 by omega))
                have kM_f_137 : MI f_137 := by rw [ef_137]; exact MI.upd i_108 (okM.out (show (3 + P) < 13 ∨ 113 ≤ (3 + P) by omega))
                have kR_f_137 : RI Rn f_137 := by rw [ef_137]; exact RI.upd i_112 (fun r9 hr9 e9 => by omega)
                have hP : va_P D vwCl [(ywa, .inl (cI, 6, .inl wa)), (ys, .inl (cI, 449, .inl f_137)), (h0, .inr (9, [.ref ys, .ref yk, .ref yo, .ref yt, .int mk0, .ref yfa, .ref yfe, .int mL, .int mS, .int mM, .ref yro, .ref yhe, .ref ygr, .int mF, .int mC, .int mY, .ref yta, .int (nI (mz)), .int (nI (f2_126)), .int (nI (t2_127)), .int v2_128, .int w2_129, .ref ywa, .ref ybi, .ref ysi, .ref ynu, .ref ymo])), (yta, .inl (cI, 120, .inl tp))] H := hP
                have hD : va_D A [(ywa, .inl (cI, 6, .inl wa)), (ys, .inl (cI, 449, .inl f_137)), (h0, .inr (9, [.ref ys, .ref yk, .ref yo, .ref yt, .int mk0, .ref yfa, .ref yfe, .int mL, .int mS, .int mM, .ref yro, .ref yhe, .ref ygr, .int mF, .int mC, .int mY, .ref yta, .int (nI (mz)), .int (nI (f2_126)), .int (nI (t2_127)), .int v2_128, .int w2_129, .ref ywa, .ref ybi, .ref ysi, .ref ynu, .ref ymo])), (yta, .inl (cI, 120, .inl tp))] := hD
                exact W.vret hx hb hr (fun t ht hW => ⟨⟨(f2_126, t2_127, v2_128, w2_129, f_137, wa, P + 1, Wn), rfl, ⟨(by first | assumption | omega), (by first | assumption | omega), (by first | assumption | omega), (by first | assumption | omega), (by first | assumption | omega), (fun h => ⟨(i_100 (i_124 (i_135 h).1).1).1, trivial⟩), k0_f_137, k1_f_137, k2_f_137, kS_f_137, kM_f_137, i_109, i_110, i_111, kR_f_137⟩, by rw [ht]; exact hP.sub [2, 1, 3, 0] rfl, hD.sub [2, 1, 3, 0] (by decide) rfl⟩, hS.F ht⟩) hS.2.2 dX9_item_156 hlk
            · skip
              refine lv_if_eq (tgt := 156) hx hb dX9_item_122 (by decide) (fun c_138 => ?_) (fun c_138 => absurd (by decide) c_138)
              exact W.vret hx hb hr (fun t ht hW => ⟨⟨(f2_92, t2_93, mv, w2_94, ms2_103, wa, P + 1, Wn), rfl, ⟨(by first | assumption | omega), (by first | assumption | omega), (by first | assumption | omega), (by first | assumption | omega), (by first | assumption | omega), (fun h => ⟨(i_100 h).1, trivial⟩), i_104, i_105, i_106, i_107, i_108, i_109, i_110, i_111, i_112⟩, by rw [ht]; exact hP.sub [2, 3, 1, 0] rfl, hD.sub [2, 3, 1, 0] (by decide) rfl⟩, hS.F ht⟩) hS.2.2 dX9_item_156 hlk
          · skip
            refine lv_iconst (v := 0) hx hb dX9_item_95 (by decide) ?_
            refine lv_goto (tgt := 103) hx hb dX9_item_96 (by decide) ?_
            refine lv_istore_n (lv' := [(1, .int 0), (0, .ref h0)]) hx hb dX9_item_103 rfl hl (by decide) rfl (fun ls hl => ?_)
            refine lv_aload_n hx hb dX9_item_104 rfl (lv_at hl 1 rfl) ?_
            refine lv_bipush (v := 101) hx hb dX9_item_105 (by decide) ?_
            refine lv_bipush (v := 114) hx hb dX9_item_107 (by decide) ?_
            refine lv_bipush (v := 114) hx hb dX9_item_109 (by decide) ?_
            refine lv_bipush (v := 97) hx hb dX9_item_111 (by decide) ?_
            refine lv_bipush (v := 110) hx hb dX9_item_113 (by decide) ?_
            refine lv_bipush (v := 100) hx hb dX9_item_115 (by decide) ?_
            refine lv_bipush (v := 115) hx hb dX9_item_117 (by decide) ?_
            refine xc_Vr hF (c_X9_isWord l D cI cJ cZ cS ta sa sv H.size h0 ys yk yo yt mk0 yfa yfe mL mS mM yro yhe ygr mF mC mY yta mz f2_92 t2_93 mv w2_94 ywa ybi ysi ynu ymo tp 101 114 114 97 110 100 115 (by omega) (by omega)) kv_X9_290 ⟨rfl, rfl, Nat.le_of_ble_eq_true rfl, Nat.le_of_ble_eq_true rfl⟩ ⟨Nat.le_of_ble_eq_true rfl, Nat.le_of_ble_eq_true rfl⟩ hK hN hZ hP hD hS hA [2, 3] rfl rfl 0 rfl rfl rfl rfl hl.1 rfl (Nat.le_of_ble_eq_true rfl) dX9_item_119 (fun r_139 hw_r_139 => ?_)
            rcases hw_r_139 with rfl | rfl
            · skip
              refine lv_if_eq (tgt := 156) hx hb dX9_item_122 (by decide) (fun c_140 => absurd c_140 (by decide)) (fun c_140 => ?_)
              refine lv_aload_n hx hb dX9_item_125 rfl (lv_at hl 1 rfl) ?_
              refine lv_iconst (v := 1) hx hb dX9_item_126 (by decide) ?_
              refine xc_Vv (wr := [(ys, .inl (cI, 449, .inl ms)), (ywa, .inl (cI, 6, .inl wa))]) hF (c_X9_needs l D cI cJ cZ cS ta sa sv H.size h0 ys yk yo yt mk0 yfa yfe mL mS mM yro yhe ygr mF mC mY yta mz f2_92 t2_93 mv w2_94 ywa ybi ysi ynu ymo tp 1 (by omega) (by omega) (by omega) (by omega) (by omega)) kv_X9_278 ⟨rfl, rfl, Nat.le_of_ble_eq_true rfl, Nat.le_of_ble_eq_true rfl⟩ ⟨Nat.le_of_ble_eq_true rfl, Nat.le_of_ble_eq_true rfl⟩ hK hN hZ hP hD hS hA [2, 3] [0, 1] rfl rfl rfl rfl (by decide) 0 rfl rfl rfl rfl hl.1 rfl (Nat.le_of_ble_eq_true rfl) dX9_item_127 (fun u_r_141 H locs hw_r_141 hP hD hS => ?_)
              obtain ⟨f2_142, t2_143, w2_144⟩ := u_r_141
              try dsimp only at hw_r_141
              obtain ⟨i_145, i_146, i_147, i_148, i_149, i_150⟩ := hw_r_141
              have hP : va_P D vwCl [(ys, .inl (cI, 449, .inl ms)), (ywa, .inl (cI, 6, .inl wa)), (h0, .inr (9, [.ref ys, .ref yk, .ref yo, .ref yt, .int mk0, .ref yfa, .ref yfe, .int mL, .int mS, .int mM, .ref yro, .ref yhe, .ref ygr, .int mF, .int mC, .int mY, .ref yta, .int (nI (mz)), .int (nI (f2_142)), .int (nI (t2_143)), .int mv, .int w2_144, .ref ywa, .ref ybi, .ref ysi, .ref ynu, .ref ymo])), (yta, .inl (cI, 120, .inl tp))] H := hP
              have hD : va_D A [(ys, .inl (cI, 449, .inl ms)), (ywa, .inl (cI, 6, .inl wa)), (h0, .inr (9, [.ref ys, .ref yk, .ref yo, .ref yt, .int mk0, .ref yfa, .ref yfe, .int mL, .int mS, .int mM, .ref yro, .ref yhe, .ref ygr, .int mF, .int mC, .int mY, .ref yta, .int (nI (mz)), .int (nI (f2_142)), .int (nI (t2_143)), .int mv, .int w2_144, .ref ywa, .ref ybi, .ref ysi, .ref ynu, .ref ymo])), (yta, .inl (cI, 120, .inl tp))] := hD
              refine lv_aload_n hx hb dX9_item_130 rfl (lv_at hl 1 rfl) ?_
              refine lv_iconst (v := 0) hx hb dX9_item_131 (by decide) ?_
              refine lv_bipush (v := 99) hx hb dX9_item_132 (by decide) ?_
              refine xc_Vv (wr := [(ys, .inl (cI, 449, .inl ms)), (ywa, .inl (cI, 6, .inl wa))]) hF (c_X9_number l D cI cJ cZ cS ta sa sv H.size h0 ys yk yo yt mk0 yfa yfe mL mS mM yro yhe ygr mF mC mY yta mz f2_142 t2_143 mv w2_144 ywa ybi ysi ynu ymo tp 0 99 (by omega) (by omega) (by omega) (by omega) (by omega)) kv_X9_282 ⟨rfl, rfl, Nat.le_of_ble_eq_true rfl, Nat.le_of_ble_eq_true rfl⟩ ⟨Nat.le_of_ble_eq_true rfl, Nat.le_of_ble_eq_true rfl⟩ hK hN hZ hP hD hS hA [2, 3] [0, 1] rfl rfl rfl rfl (by decide) 0 rfl rfl rfl rfl hl.1 rfl (Nat.le_of_ble_eq_true rfl) dX9_item_134 (fun u_r_151 H locs hw_r_151 hP hD hS => ?_)
              obtain ⟨f2_152, t2_153, v2_154, w2_155⟩ := u_r_151
              try dsimp only at hw_r_151
              obtain ⟨i_156, i_157, i_158, i_159, i_160, i_161⟩ := hw_r_151
              have hP : va_P D vwCl [(ys, .inl (cI, 449, .inl ms)), (ywa, .inl (cI, 6, .inl wa)), (h0, .inr (9, [.ref ys, .ref yk, .ref yo, .ref yt, .int mk0, .ref yfa, .ref yfe, .int mL, .int mS, .int mM, .ref yro, .ref yhe, .ref ygr, .int mF, .int mC, .int mY, .ref yta, .int (nI (mz)), .int (nI (f2_152)), .int (nI (t2_153)), .int v2_154, .int w2_155, .ref ywa, .ref ybi, .ref ysi, .ref ynu, .ref ymo])), (yta, .inl (cI, 120, .inl tp))] H := hP
              have hD : va_D A [(ys, .inl (cI, 449, .inl ms)), (ywa, .inl (cI, 6, .inl wa)), (h0, .inr (9, [.ref ys, .ref yk, .ref yo, .ref yt, .int mk0, .ref yfa, .ref yfe, .int mL, .int mS, .int mM, .ref yro, .ref yhe, .ref ygr, .int mF, .int mC, .int mY, .ref yta, .int (nI (mz)), .int (nI (f2_152)), .int (nI (t2_153)), .int v2_154, .int w2_155, .ref ywa, .ref ybi, .ref ysi, .ref ynu, .ref ymo])), (yta, .inl (cI, 120, .inl tp))] := hD
              refine lv_aload_n hx hb dX9_item_137 rfl (lv_at hl 1 rfl) ?_
              refine xg hF kf_X9_266 hK hP 2 rfl rfl dX9_item_138 ?_
              refine lv_if_ne (tgt := 156) hx hb dX9_item_141 (by decide) (fun c_162 => ?_) (fun c_162 => ?_)
              · skip
                exact W.vret hx hb hr (fun t ht hW => ⟨⟨(f2_152, t2_153, v2_154, w2_155, ms, wa, P, Wn), rfl, ⟨(by first | assumption | omega), (by first | assumption | omega), (by first | assumption | omega), (by first | assumption | omega), (by first | assumption | omega), (fun h => ⟨(i_100 (i_150 (i_161 h).1).1).1, trivial⟩), hs0, hs1, hs2, hsS, hsM, hsp, hsr, hsw, hsR⟩, by rw [ht]; exact hP.sub [2, 0, 3, 1] rfl, hD.sub [2, 0, 3, 1] (by decide) rfl⟩, hS.F ht⟩) hS.2.2 dX9_item_156 hlk
              · skip
                refine lv_aload_n hx hb dX9_item_144 rfl (lv_at hl 1 rfl) ?_
                refine xg hF kf_X9_7 hK hP 2 rfl rfl dX9_item_145 ?_
                refine lv_iconst (v := 3) hx hb dX9_item_148 (by decide) ?_
                refine lv_iload_n hx hb dX9_item_149 rfl (lv_at hl 0 rfl) ?_
                refine lv_iadd hx hb dX9_item_150 ?_
                refine xl_i (y := 3) (by decide) ?_
                refine lv_aload_n hx hb dX9_item_151 rfl (lv_at hl 1 rfl) ?_
                refine xg hF kf_X9_275 hK hP 2 rfl rfl dX9_item_152 ?_
                refine va_iast hx hb hK hP hD hS 0 0 rfl rfl (xin 3 449 (by decide) (by decide)) dX9_item_155 (fun H locs hP hD hS => ?_)
                obtain ⟨f_163, ef_163⟩ : ∃ g, g = upd ms 3 v2_154 := ⟨_, rfl⟩
                have hP : va_P D vwCl [(ys, .inl (cI, 449, .inl (upd ms 3 v2_154))), (ywa, .inl (cI, 6, .inl wa)), (h0, .inr (9, [.ref ys, .ref yk, .ref yo, .ref yt, .int mk0, .ref yfa, .ref yfe, .int mL, .int mS, .int mM, .ref yro, .ref yhe, .ref ygr, .int mF, .int mC, .int mY, .ref yta, .int (nI (mz)), .int (nI (f2_152)), .int (nI (t2_153)), .int v2_154, .int w2_155, .ref ywa, .ref ybi, .ref ysi, .ref ynu, .ref ymo])), (yta, .inl (cI, 120, .inl tp))] H := hP
                have hD : va_D A [(ys, .inl (cI, 449, .inl (upd ms 3 v2_154))), (ywa, .inl (cI, 6, .inl wa)), (h0, .inr (9, [.ref ys, .ref yk, .ref yo, .ref yt, .int mk0, .ref yfa, .ref yfe, .int mL, .int mS, .int mM, .ref yro, .ref yhe, .ref ygr, .int mF, .int mC, .int mY, .ref yta, .int (nI (mz)), .int (nI (f2_152)), .int (nI (t2_153)), .int v2_154, .int w2_155, .ref ywa, .ref ybi, .ref ysi, .ref ynu, .ref ymo])), (yta, .inl (cI, 120, .inl tp))] := hD
                rw [← ef_163] at hP hD
                have k0_f_163 : f_163 0 = nI P := by rw [ef_163]; exact (pk_un (show 0 ≠ 3 by omega)).trans hs0
                have k1_f_163 : f_163 1 = nI Rn := by rw [ef_163]; exact (pk_un (show 1 ≠ 3 by omega)).trans hs1
                have k2_f_163 : f_163 2 = nI Wn := by rw [ef_163]; exact (pk_un (show 2 ≠ 3 by omega)).trans hs2
                have kS_f_163 : SI f_163 := by rw [ef_163]; exact SI.upd hsS (okS.low (show 3 < 313 by omega))
                have kM_f_163 : MI f_163 := by rw [ef_163]; exact MI.upd hsM (okM.out (show 3 < 13 ∨ 113 ≤ 3 by omega))
                have kR_f_163 : RI Rn f_163 := by rw [ef_163]; exact RI.upd hsR (fun r9 hr9 e9 => by omega)
                have hP : va_P D vwCl [(ys, .inl (cI, 449, .inl f_163)), (ywa, .inl (cI, 6, .inl wa)), (h0, .inr (9, [.ref ys, .ref yk, .ref yo, .ref yt, .int mk0, .ref yfa, .ref yfe, .int mL, .int mS, .int mM, .ref yro, .ref yhe, .ref ygr, .int mF, .int mC, .int mY, .ref yta, .int (nI (mz)), .int (nI (f2_152)), .int (nI (t2_153)), .int v2_154, .int w2_155, .ref ywa, .ref ybi, .ref ysi, .ref ynu, .ref ymo])), (yta, .inl (cI, 120, .inl tp))] H := hP
                have hD : va_D A [(ys, .inl (cI, 449, .inl f_163)), (ywa, .inl (cI, 6, .inl wa)), (h0, .inr (9, [.ref ys, .ref yk, .ref yo, .ref yt, .int mk0, .ref yfa, .ref yfe, .int mL, .int mS, .int mM, .ref yro, .ref yhe, .ref ygr, .int mF, .int mC, .int mY, .ref yta, .int (nI (mz)), .int (nI (f2_152)), .int (nI (t2_153)), .int v2_154, .int w2_155, .ref ywa, .ref ybi, .ref ysi, .ref ynu, .ref ymo])), (yta, .inl (cI, 120, .inl tp))] := hD
                exact W.vret hx hb hr (fun t ht hW => ⟨⟨(f2_152, t2_153, v2_154, w2_155, f_163, wa, P, Wn), rfl, ⟨(by first | assumption | omega), (by first | assumption | omega), (by first | assumption | omega), (by first | assumption | omega), (by first | assumption | omega), (fun h => ⟨(i_100 (i_150 (i_161 h).1).1).1, trivial⟩), k0_f_163, k1_f_163, k2_f_163, kS_f_163, kM_f_163, hsp, hsr, hsw, kR_f_163⟩, by rw [ht]; exact hP.sub [2, 0, 3, 1] rfl, hD.sub [2, 0, 3, 1] (by decide) rfl⟩, hS.F ht⟩) hS.2.2 dX9_item_156 hlk
            · skip
              refine lv_if_eq (tgt := 156) hx hb dX9_item_122 (by decide) (fun c_164 => ?_) (fun c_164 => absurd (by decide) c_164)
              exact W.vret hx hb hr (fun t ht hW => ⟨⟨(f2_92, t2_93, mv, w2_94, ms, wa, P, Wn), rfl, ⟨(by first | assumption | omega), (by first | assumption | omega), (by first | assumption | omega), (by first | assumption | omega), (by first | assumption | omega), (fun h => ⟨(i_100 h).1, trivial⟩), hs0, hs1, hs2, hsS, hsM, hsp, hsr, hsw, hsR⟩, by rw [ht]; exact hP.sub [2, 0, 3, 1] rfl, hD.sub [2, 0, 3, 1] (by decide) rfl⟩, hS.F ht⟩) hS.2.2 dX9_item_156 hlk
      · skip
        refine lv_if_eq (tgt := 84) hx hb dX9_item_66 (by decide) (fun c_165 => ?_) (fun c_165 => absurd (by decide) c_165)
        refine lv_iconst (v := 0) hx hb dX9_item_84 (by decide) ?_
        refine xc_Vv (wr := [(ys, .inl (cI, 449, .inl ms)), (ywa, .inl (cI, 6, .inl wa))]) hF (c_X9_needs l D cI cJ cZ cS ta sa sv s.heap.size h0 ys yk yo yt mk0 yfa yfe mL mS mM yro yhe ygr mF mC mY yta mz mf mt mv mw ywa ybi ysi ynu ymo tp 0 (by omega) (by omega) (by omega) (by omega) (by omega)) kv_X9_278 ⟨rfl, rfl, Nat.le_of_ble_eq_true rfl, Nat.le_of_ble_eq_true rfl⟩ ⟨Nat.le_of_ble_eq_true rfl, Nat.le_of_ble_eq_true rfl⟩ hK hN hZ hP hD hS hA [0, 2] [1, 3] rfl rfl rfl rfl (by decide) 0 rfl rfl rfl rfl hl.1 rfl (Nat.le_of_ble_eq_true rfl) dX9_item_85 (fun u_r_166 H locs hw_r_166 hP hD hS => ?_)
        obtain ⟨f2_167, t2_168, w2_169⟩ := u_r_166
        try dsimp only at hw_r_166
        obtain ⟨i_170, i_171, i_172, i_173, i_174, i_175⟩ := hw_r_166
        have hP : va_P D vwCl [(ys, .inl (cI, 449, .inl ms)), (ywa, .inl (cI, 6, .inl wa)), (h0, .inr (9, [.ref ys, .ref yk, .ref yo, .ref yt, .int mk0, .ref yfa, .ref yfe, .int mL, .int mS, .int mM, .ref yro, .ref yhe, .ref ygr, .int mF, .int mC, .int mY, .ref yta, .int (nI (mz)), .int (nI (f2_167)), .int (nI (t2_168)), .int mv, .int w2_169, .ref ywa, .ref ybi, .ref ysi, .ref ynu, .ref ymo])), (yta, .inl (cI, 120, .inl tp))] H := hP
        have hD : va_D A [(ys, .inl (cI, 449, .inl ms)), (ywa, .inl (cI, 6, .inl wa)), (h0, .inr (9, [.ref ys, .ref yk, .ref yo, .ref yt, .int mk0, .ref yfa, .ref yfe, .int mL, .int mS, .int mM, .ref yro, .ref yhe, .ref ygr, .int mF, .int mC, .int mY, .ref yta, .int (nI (mz)), .int (nI (f2_167)), .int (nI (t2_168)), .int mv, .int w2_169, .ref ywa, .ref ybi, .ref ysi, .ref ynu, .ref ymo])), (yta, .inl (cI, 120, .inl tp))] := hD
        refine lv_aload_n hx hb dX9_item_88 rfl (lv_at hl 0 rfl) ?_
        refine xg hF kf_X9_266 hK hP 2 rfl rfl dX9_item_89 ?_
        refine lv_if_eq (tgt := 99) hx hb dX9_item_92 (by decide) (fun c_176 => absurd rfl (i_175 c_176).2.1) (fun c_176 => ?_)
        refine lv_iconst (v := 0) hx hb dX9_item_95 (by decide) ?_
        refine lv_goto (tgt := 103) hx hb dX9_item_96 (by decide) ?_
        refine lv_istore_n (lv' := [(1, .int 0), (0, .ref h0)]) hx hb dX9_item_103 rfl hl (by decide) rfl (fun ls hl => ?_)
        refine lv_aload_n hx hb dX9_item_104 rfl (lv_at hl 1 rfl) ?_
        refine lv_bipush (v := 101) hx hb dX9_item_105 (by decide) ?_
        refine lv_bipush (v := 114) hx hb dX9_item_107 (by decide) ?_
        refine lv_bipush (v := 114) hx hb dX9_item_109 (by decide) ?_
        refine lv_bipush (v := 97) hx hb dX9_item_111 (by decide) ?_
        refine lv_bipush (v := 110) hx hb dX9_item_113 (by decide) ?_
        refine lv_bipush (v := 100) hx hb dX9_item_115 (by decide) ?_
        refine lv_bipush (v := 115) hx hb dX9_item_117 (by decide) ?_
        refine xc_Vr hF (c_X9_isWord l D cI cJ cZ cS ta sa sv H.size h0 ys yk yo yt mk0 yfa yfe mL mS mM yro yhe ygr mF mC mY yta mz f2_167 t2_168 mv w2_169 ywa ybi ysi ynu ymo tp 101 114 114 97 110 100 115 (by omega) (by omega)) kv_X9_290 ⟨rfl, rfl, Nat.le_of_ble_eq_true rfl, Nat.le_of_ble_eq_true rfl⟩ ⟨Nat.le_of_ble_eq_true rfl, Nat.le_of_ble_eq_true rfl⟩ hK hN hZ hP hD hS hA [2, 3] rfl rfl 0 rfl rfl rfl rfl hl.1 rfl (Nat.le_of_ble_eq_true rfl) dX9_item_119 (fun r_177 hw_r_177 => ?_)
        rcases hw_r_177 with rfl | rfl
        · skip
          refine lv_if_eq (tgt := 156) hx hb dX9_item_122 (by decide) (fun c_178 => absurd c_178 (by decide)) (fun c_178 => ?_)
          refine lv_aload_n hx hb dX9_item_125 rfl (lv_at hl 1 rfl) ?_
          refine lv_iconst (v := 1) hx hb dX9_item_126 (by decide) ?_
          refine xc_Vv (wr := [(ys, .inl (cI, 449, .inl ms)), (ywa, .inl (cI, 6, .inl wa))]) hF (c_X9_needs l D cI cJ cZ cS ta sa sv H.size h0 ys yk yo yt mk0 yfa yfe mL mS mM yro yhe ygr mF mC mY yta mz f2_167 t2_168 mv w2_169 ywa ybi ysi ynu ymo tp 1 (by omega) (by omega) (by omega) (by omega) (by omega)) kv_X9_278 ⟨rfl, rfl, Nat.le_of_ble_eq_true rfl, Nat.le_of_ble_eq_true rfl⟩ ⟨Nat.le_of_ble_eq_true rfl, Nat.le_of_ble_eq_true rfl⟩ hK hN hZ hP hD hS hA [2, 3] [0, 1] rfl rfl rfl rfl (by decide) 0 rfl rfl rfl rfl hl.1 rfl (Nat.le_of_ble_eq_true rfl) dX9_item_127 (fun u_r_179 H locs hw_r_179 hP hD hS => ?_)
          obtain ⟨f2_180, t2_181, w2_182⟩ := u_r_179
          try dsimp only at hw_r_179
          obtain ⟨i_183, i_184, i_185, i_186, i_187, i_188⟩ := hw_r_179
          have hP : va_P D vwCl [(ys, .inl (cI, 449, .inl ms)), (ywa, .inl (cI, 6, .inl wa)), (h0, .inr (9, [.ref ys, .ref yk, .ref yo, .ref yt, .int mk0, .ref yfa, .ref yfe, .int mL, .int mS, .int mM, .ref yro, .ref yhe, .ref ygr, .int mF, .int mC, .int mY, .ref yta, .int (nI (mz)), .int (nI (f2_180)), .int (nI (t2_181)), .int mv, .int w2_182, .ref ywa, .ref ybi, .ref ysi, .ref ynu, .ref ymo])), (yta, .inl (cI, 120, .inl tp))] H := hP
          have hD : va_D A [(ys, .inl (cI, 449, .inl ms)), (ywa, .inl (cI, 6, .inl wa)), (h0, .inr (9, [.ref ys, .ref yk, .ref yo, .ref yt, .int mk0, .ref yfa, .ref yfe, .int mL, .int mS, .int mM, .ref yro, .ref yhe, .ref ygr, .int mF, .int mC, .int mY, .ref yta, .int (nI (mz)), .int (nI (f2_180)), .int (nI (t2_181)), .int mv, .int w2_182, .ref ywa, .ref ybi, .ref ysi, .ref ynu, .ref ymo])), (yta, .inl (cI, 120, .inl tp))] := hD
          refine lv_aload_n hx hb dX9_item_130 rfl (lv_at hl 1 rfl) ?_
          refine lv_iconst (v := 0) hx hb dX9_item_131 (by decide) ?_
          refine lv_bipush (v := 99) hx hb dX9_item_132 (by decide) ?_
          refine xc_Vv (wr := [(ys, .inl (cI, 449, .inl ms)), (ywa, .inl (cI, 6, .inl wa))]) hF (c_X9_number l D cI cJ cZ cS ta sa sv H.size h0 ys yk yo yt mk0 yfa yfe mL mS mM yro yhe ygr mF mC mY yta mz f2_180 t2_181 mv w2_182 ywa ybi ysi ynu ymo tp 0 99 (by omega) (by omega) (by omega) (by omega) (by omega)) kv_X9_282 ⟨rfl, rfl, Nat.le_of_ble_eq_true rfl, Nat.le_of_ble_eq_true rfl⟩ ⟨Nat.le_of_ble_eq_true rfl, Nat.le_of_ble_eq_true rfl⟩ hK hN hZ hP hD hS hA [2, 3] [0, 1] rfl rfl rfl rfl (by decide) 0 rfl rfl rfl rfl hl.1 rfl (Nat.le_of_ble_eq_true rfl) dX9_item_134 (fun u_r_189 H locs hw_r_189 hP hD hS => ?_)
          obtain ⟨f2_190, t2_191, v2_192, w2_193⟩ := u_r_189
          try dsimp only at hw_r_189
          obtain ⟨i_194, i_195, i_196, i_197, i_198, i_199⟩ := hw_r_189
          have hP : va_P D vwCl [(ys, .inl (cI, 449, .inl ms)), (ywa, .inl (cI, 6, .inl wa)), (h0, .inr (9, [.ref ys, .ref yk, .ref yo, .ref yt, .int mk0, .ref yfa, .ref yfe, .int mL, .int mS, .int mM, .ref yro, .ref yhe, .ref ygr, .int mF, .int mC, .int mY, .ref yta, .int (nI (mz)), .int (nI (f2_190)), .int (nI (t2_191)), .int v2_192, .int w2_193, .ref ywa, .ref ybi, .ref ysi, .ref ynu, .ref ymo])), (yta, .inl (cI, 120, .inl tp))] H := hP
          have hD : va_D A [(ys, .inl (cI, 449, .inl ms)), (ywa, .inl (cI, 6, .inl wa)), (h0, .inr (9, [.ref ys, .ref yk, .ref yo, .ref yt, .int mk0, .ref yfa, .ref yfe, .int mL, .int mS, .int mM, .ref yro, .ref yhe, .ref ygr, .int mF, .int mC, .int mY, .ref yta, .int (nI (mz)), .int (nI (f2_190)), .int (nI (t2_191)), .int v2_192, .int w2_193, .ref ywa, .ref ybi, .ref ysi, .ref ynu, .ref ymo])), (yta, .inl (cI, 120, .inl tp))] := hD
          refine lv_aload_n hx hb dX9_item_137 rfl (lv_at hl 1 rfl) ?_
          refine xg hF kf_X9_266 hK hP 2 rfl rfl dX9_item_138 ?_
          refine lv_if_ne (tgt := 156) hx hb dX9_item_141 (by decide) (fun c_200 => ?_) (fun c_200 => ?_)
          · skip
            exact W.vret hx hb hr (fun t ht hW => ⟨⟨(f2_190, t2_191, v2_192, w2_193, ms, wa, P, Wn), rfl, ⟨(by first | assumption | omega), (by first | assumption | omega), (by first | assumption | omega), (by first | assumption | omega), (by first | assumption | omega), (fun h => ⟨(i_175 (i_188 (i_199 h).1).1).1, trivial⟩), hs0, hs1, hs2, hsS, hsM, hsp, hsr, hsw, hsR⟩, by rw [ht]; exact hP.sub [2, 0, 3, 1] rfl, hD.sub [2, 0, 3, 1] (by decide) rfl⟩, hS.F ht⟩) hS.2.2 dX9_item_156 hlk
          · skip
            refine lv_aload_n hx hb dX9_item_144 rfl (lv_at hl 1 rfl) ?_
            refine xg hF kf_X9_7 hK hP 2 rfl rfl dX9_item_145 ?_
            refine lv_iconst (v := 3) hx hb dX9_item_148 (by decide) ?_
            refine lv_iload_n hx hb dX9_item_149 rfl (lv_at hl 0 rfl) ?_
            refine lv_iadd hx hb dX9_item_150 ?_
            refine xl_i (y := 3) (by decide) ?_
            refine lv_aload_n hx hb dX9_item_151 rfl (lv_at hl 1 rfl) ?_
            refine xg hF kf_X9_275 hK hP 2 rfl rfl dX9_item_152 ?_
            refine va_iast hx hb hK hP hD hS 0 0 rfl rfl (xin 3 449 (by decide) (by decide)) dX9_item_155 (fun H locs hP hD hS => ?_)
            obtain ⟨f_201, ef_201⟩ : ∃ g, g = upd ms 3 v2_192 := ⟨_, rfl⟩
            have hP : va_P D vwCl [(ys, .inl (cI, 449, .inl (upd ms 3 v2_192))), (ywa, .inl (cI, 6, .inl wa)), (h0, .inr (9, [.ref ys, .ref yk, .ref yo, .ref yt, .int mk0, .ref yfa, .ref yfe, .int mL, .int mS, .int mM, .ref yro, .ref yhe, .ref ygr, .int mF, .int mC, .int mY, .ref yta, .int (nI (mz)), .int (nI (f2_190)), .int (nI (t2_191)), .int v2_192, .int w2_193, .ref ywa, .ref ybi, .ref ysi, .ref ynu, .ref ymo])), (yta, .inl (cI, 120, .inl tp))] H := hP
            have hD : va_D A [(ys, .inl (cI, 449, .inl (upd ms 3 v2_192))), (ywa, .inl (cI, 6, .inl wa)), (h0, .inr (9, [.ref ys, .ref yk, .ref yo, .ref yt, .int mk0, .ref yfa, .ref yfe, .int mL, .int mS, .int mM, .ref yro, .ref yhe, .ref ygr, .int mF, .int mC, .int mY, .ref yta, .int (nI (mz)), .int (nI (f2_190)), .int (nI (t2_191)), .int v2_192, .int w2_193, .ref ywa, .ref ybi, .ref ysi, .ref ynu, .ref ymo])), (yta, .inl (cI, 120, .inl tp))] := hD
            rw [← ef_201] at hP hD
            have k0_f_201 : f_201 0 = nI P := by rw [ef_201]; exact (pk_un (show 0 ≠ 3 by omega)).trans hs0
            have k1_f_201 : f_201 1 = nI Rn := by rw [ef_201]; exact (pk_un (show 1 ≠ 3 by omega)).trans hs1
            have k2_f_201 : f_201 2 = nI Wn := by rw [ef_201]; exact (pk_un (show 2 ≠ 3 by omega)).trans hs2
            have kS_f_201 : SI f_201 := by rw [ef_201]; exact SI.upd hsS (okS.low (show 3 < 313 by omega))
            have kM_f_201 : MI f_201 := by rw [ef_201]; exact MI.upd hsM (okM.out (show 3 < 13 ∨ 113 ≤ 3 by omega))
            have kR_f_201 : RI Rn f_201 := by rw [ef_201]; exact RI.upd hsR (fun r9 hr9 e9 => by omega)
            have hP : va_P D vwCl [(ys, .inl (cI, 449, .inl f_201)), (ywa, .inl (cI, 6, .inl wa)), (h0, .inr (9, [.ref ys, .ref yk, .ref yo, .ref yt, .int mk0, .ref yfa, .ref yfe, .int mL, .int mS, .int mM, .ref yro, .ref yhe, .ref ygr, .int mF, .int mC, .int mY, .ref yta, .int (nI (mz)), .int (nI (f2_190)), .int (nI (t2_191)), .int v2_192, .int w2_193, .ref ywa, .ref ybi, .ref ysi, .ref ynu, .ref ymo])), (yta, .inl (cI, 120, .inl tp))] H := hP
            have hD : va_D A [(ys, .inl (cI, 449, .inl f_201)), (ywa, .inl (cI, 6, .inl wa)), (h0, .inr (9, [.ref ys, .ref yk, .ref yo, .ref yt, .int mk0, .ref yfa, .ref yfe, .int mL, .int mS, .int mM, .ref yro, .ref yhe, .ref ygr, .int mF, .int mC, .int mY, .ref yta, .int (nI (mz)), .int (nI (f2_190)), .int (nI (t2_191)), .int v2_192, .int w2_193, .ref ywa, .ref ybi, .ref ysi, .ref ynu, .ref ymo])), (yta, .inl (cI, 120, .inl tp))] := hD
            exact W.vret hx hb hr (fun t ht hW => ⟨⟨(f2_190, t2_191, v2_192, w2_193, f_201, wa, P, Wn), rfl, ⟨(by first | assumption | omega), (by first | assumption | omega), (by first | assumption | omega), (by first | assumption | omega), (by first | assumption | omega), (fun h => ⟨(i_175 (i_188 (i_199 h).1).1).1, trivial⟩), k0_f_201, k1_f_201, k2_f_201, kS_f_201, kM_f_201, hsp, hsr, hsw, kR_f_201⟩, by rw [ht]; exact hP.sub [2, 0, 3, 1] rfl, hD.sub [2, 0, 3, 1] (by decide) rfl⟩, hS.F ht⟩) hS.2.2 dX9_item_156 hlk
        · skip
          refine lv_if_eq (tgt := 156) hx hb dX9_item_122 (by decide) (fun c_202 => ?_) (fun c_202 => absurd (by decide) c_202)
          exact W.vret hx hb hr (fun t ht hW => ⟨⟨(f2_167, t2_168, mv, w2_169, ms, wa, P, Wn), rfl, ⟨(by first | assumption | omega), (by first | assumption | omega), (by first | assumption | omega), (by first | assumption | omega), (by first | assumption | omega), (fun h => ⟨(i_175 h).1, trivial⟩), hs0, hs1, hs2, hsS, hsM, hsp, hsr, hsw, hsR⟩, by rw [ht]; exact hP.sub [2, 0, 3, 1] rfl, hD.sub [2, 0, 3, 1] (by decide) rfl⟩, hS.F ht⟩) hS.2.2 dX9_item_156 hlk
set_option maxHeartbeats 4000000 in
set_option maxRecDepth 100000 in
theorem c_X9_land (l : Launch) (D : va_G) (cI cJ cZ cS : ClassId) (ta : Nat) (sa sv : Nat → Nat) (sz : Nat) (h0 : Nat) (ys : Nat) (yk : Nat) (yo : Nat) (yt : Nat) (mk0 : Int32) (yfa : Nat) (yfe : Nat) (mL : Int32) (mS : Int32) (mM : Int32) (yro : Nat) (yhe : Nat) (ygr : Nat) (mF : Int32) (mC : Int32) (mY : Int32) (yta : Nat) (mz : Nat) (mf : Nat) (mt : Nat) (mv : Int32) (mw : Int32) (ywa : Nat) (ybi : Nat) (ysi : Nat) (ynu : Nat) (ymo : Nat) (ms : Nat → Int32) (oo : Nat → Int32) (tp : Nat → Int32) (wa : Nat → Int32) (P : Nat) (Rn : Nat) (Wn : Nat) (hz : mz ≤ 120) (hs0 : ms 0 = nI P) (hs1 : ms 1 = nI Rn) (hs2 : ms 2 = nI Wn) (hsS : SI ms) (hsM : MI ms) (hsp : P ≤ 10) (hsr : Rn ≤ 8) (hsw : Wn ≤ 8) (hsR : RI Rn ms) : Met l yX9_land (Cond.code yX9_land cX9_land 2 (some .int) :: wsU) ({ frames := 8, cells := 0, slots := 0, locals := 183 }) (va_Pc [.ref h0] (XW D (xT cI cJ cZ cS) ta sa sv [(h0, .inr (9, [.ref ys, .ref yk, .ref yo, .ref yt, .int mk0, .ref yfa, .ref yfe, .int mL, .int mS, .int mM, .ref yro, .ref yhe, .ref ygr, .int mF, .int mC, .int mY, .ref yta, .int (nI (mz)), .int (nI (mf)), .int (nI (mt)), .int mv, .int mw, .ref ywa, .ref ybi, .ref ysi, .ref ynu, .ref ymo])), (ys, .inl (cI, 449, .inl ms)), (yo, .inl (cI, 449, .inl oo)), (yta, .inl (cI, 120, .inl tp)), (ywa, .inl (cI, 6, .inl wa))] sz)) (XQi (fun (r : Int32) (u : Nat × Nat × Int32 × Int32 × (Nat → Int32) × (Nat → Int32) × (Nat → Int32) × Nat × Nat × Nat) => match u with | (f2, t2, v2, w2, ms2, oo2, wa2, P2, R2, W2) => (True) ∧ (ms2 0 = nI P2) ∧ (ms2 1 = nI R2) ∧ (ms2 2 = nI W2) ∧ (SI ms2) ∧ (MI ms2) ∧ (P2 ≤ 10) ∧ (R2 ≤ 8) ∧ (W2 ≤ 8) ∧ (RI R2 ms2)) D (fun (u : Nat × Nat × Int32 × Int32 × (Nat → Int32) × (Nat → Int32) × (Nat → Int32) × Nat × Nat × Nat) => match u with | (f2, t2, v2, w2, ms2, oo2, wa2, P2, R2, W2) => [(h0, .inr (9, [.ref ys, .ref yk, .ref yo, .ref yt, .int mk0, .ref yfa, .ref yfe, .int mL, .int mS, .int mM, .ref yro, .ref yhe, .ref ygr, .int mF, .int mC, .int mY, .ref yta, .int 0, .int (nI (f2)), .int (nI (t2)), .int v2, .int w2, .ref ywa, .ref ybi, .ref ysi, .ref ynu, .ref ymo])), (ys, .inl (cI, 449, .inl ms2)), (yo, .inl (cI, 449, .inl oo2)), (yta, .inl (cI, 120, .inl tp)), (ywa, .inl (cI, 6, .inl wa2))]) (va_A [(h0, .inr (9, [.ref ys, .ref yk, .ref yo, .ref yt, .int mk0, .ref yfa, .ref yfe, .int mL, .int mS, .int mM, .ref yro, .ref yhe, .ref ygr, .int mF, .int mC, .int mY, .ref yta, .int (nI (mz)), .int (nI (mf)), .int (nI (mt)), .int mv, .int mw, .ref ywa, .ref ybi, .ref ysi, .ref ynu, .ref ymo])), (ys, .inl (cI, 449, .inl ms)), (yo, .inl (cI, 449, .inl oo)), (yta, .inl (cI, 120, .inl tp)), (ywa, .inl (cI, 6, .inl wa))] sz)) 0 0 (va_A [(h0, .inr (9, [.ref ys, .ref yk, .ref yo, .ref yt, .int mk0, .ref yfa, .ref yfe, .int mL, .int mS, .int mM, .ref yro, .ref yhe, .ref ygr, .int mF, .int mC, .int mY, .ref yta, .int (nI (mz)), .int (nI (mf)), .int (nI (mt)), .int mv, .int mw, .ref ywa, .ref ybi, .ref ysi, .ref ynu, .ref ymo])), (ys, .inl (cI, 449, .inl ms)), (yo, .inl (cI, 449, .inl oo)), (yta, .inl (cI, 120, .inl tp)), (ywa, .inl (cI, 6, .inl wa))] sz) := by
  refine xh (QA := fun A => XQi (fun (r : Int32) (u : Nat × Nat × Int32 × Int32 × (Nat → Int32) × (Nat → Int32) × (Nat → Int32) × Nat × Nat × Nat) => match u with | (f2, t2, v2, w2, ms2, oo2, wa2, P2, R2, W2) => (True) ∧ (ms2 0 = nI P2) ∧ (ms2 1 = nI R2) ∧ (ms2 2 = nI W2) ∧ (SI ms2) ∧ (MI ms2) ∧ (P2 ≤ 10) ∧ (R2 ≤ 8) ∧ (W2 ≤ 8) ∧ (RI R2 ms2)) D (fun (u : Nat × Nat × Int32 × Int32 × (Nat → Int32) × (Nat → Int32) × (Nat → Int32) × Nat × Nat × Nat) => match u with | (f2, t2, v2, w2, ms2, oo2, wa2, P2, R2, W2) => [(h0, .inr (9, [.ref ys, .ref yk, .ref yo, .ref yt, .int mk0, .ref yfa, .ref yfe, .int mL, .int mS, .int mM, .ref yro, .ref yhe, .ref ygr, .int mF, .int mC, .int mY, .ref yta, .int 0, .int (nI (f2)), .int (nI (t2)), .int v2, .int w2, .ref ywa, .ref ybi, .ref ysi, .ref ynu, .ref ymo])), (ys, .inl (cI, 449, .inl ms2)), (yo, .inl (cI, 449, .inl oo2)), (yta, .inl (cI, 120, .inl tp)), (ywa, .inl (cI, 6, .inl wa2))]) A) (fr := fun A => A) (by decide) (Nat.le_of_ble_eq_true rfl) ?_
  intro p e s m below meth c ls A hF hr hlk hin hsz hP hK hD hN hZ hA hS hl
  have hF : CallFix p m c cX9_land 2 s _ _ RX9 := hF
  have hx := hF.1
  have hb := hF.2.1
  have hml := hF.2.2.1
  have hown := hF.2.2.2.1
  have hu : ∀ w ∈ wsU, w.before _ s = true := fun w h => hF.2.2.2.2 w (List.mem_cons_of_mem _ h)
  have hl : lv_has ls 2 [(0, .ref h0)] := hl
  refine lv_aload_n hx hb dX9_land_0 rfl (lv_at hl 0 rfl) ?_
  refine xc_Vv (wr := [(yta, .inl (cI, 120, .inl tp)), (ywa, .inl (cI, 6, .inl wa))]) hF (c_X9_puts l D cI cJ cZ cS ta sa sv s.heap.size h0 ys yk yo yt mk0 yfa yfe mL mS mM yro yhe ygr mF mC mY yta mz mf mt mv mw ywa ybi ysi ynu ymo ms oo P Rn Wn hs0 hs1 hs2 hsS hsM hsp hsr hsw hsR) kv_X9_217 ⟨rfl, rfl, Nat.le_of_ble_eq_true rfl, Nat.le_of_ble_eq_true rfl⟩ ⟨Nat.le_of_ble_eq_true rfl, Nat.le_of_ble_eq_true rfl⟩ hK hN hZ hP hD hS hA [0, 1, 2] [3, 4] rfl rfl rfl rfl (by decide) 0 rfl rfl rfl rfl hl.1 rfl (Nat.le_of_ble_eq_true rfl) dX9_land_1 (fun u_r_1 H locs hw_r_1 hP hD hS => ?_)
  obtain ⟨oo2_2, rfl⟩ : ∃ z, z = u_r_1 := ⟨_, rfl⟩
  try dsimp only at hw_r_1
  obtain ⟨i_3, i_4, i_5, i_6, i_7, i_8, i_9, i_10, i_11, i_12⟩ := hw_r_1
  have hP : va_P D vwCl [(yta, .inl (cI, 120, .inl tp)), (ywa, .inl (cI, 6, .inl wa)), (h0, .inr (9, [.ref ys, .ref yk, .ref yo, .ref yt, .int mk0, .ref yfa, .ref yfe, .int mL, .int mS, .int mM, .ref yro, .ref yhe, .ref ygr, .int mF, .int mC, .int mY, .ref yta, .int (nI (mz)), .int (nI (mf)), .int (nI (mt)), .int mv, .int mw, .ref ywa, .ref ybi, .ref ysi, .ref ynu, .ref ymo])), (ys, .inl (cI, 449, .inl ms)), (yo, .inl (cI, 449, .inl oo2_2))] H := hP
  have hD : va_D A [(yta, .inl (cI, 120, .inl tp)), (ywa, .inl (cI, 6, .inl wa)), (h0, .inr (9, [.ref ys, .ref yk, .ref yo, .ref yt, .int mk0, .ref yfa, .ref yfe, .int mL, .int mS, .int mM, .ref yro, .ref yhe, .ref ygr, .int mF, .int mC, .int mY, .ref yta, .int (nI (mz)), .int (nI (mf)), .int (nI (mt)), .int mv, .int mw, .ref ywa, .ref ybi, .ref ysi, .ref ynu, .ref ymo])), (ys, .inl (cI, 449, .inl ms)), (yo, .inl (cI, 449, .inl oo2_2))] := hD
  refine lv_aload_n hx hb dX9_land_4 rfl (lv_at hl 0 rfl) ?_
  refine lv_iconst (v := 0) hx hb dX9_land_5 (by decide) ?_
  refine xp hF kf_X9_251 tyX9_ok nmX9 hK hP hD hS 2 rfl rfl rfl rfl (Nat.le_of_ble_eq_true rfl) dX9_land_6 (fun H locs hP hD hS => ?_)
  have hP : va_P D vwCl [(yta, .inl (cI, 120, .inl tp)), (ywa, .inl (cI, 6, .inl wa)), (h0, .inr (9, [.ref ys, .ref yk, .ref yo, .ref yt, .int mk0, .ref yfa, .ref yfe, .int mL, .int mS, .int mM, .ref yro, .ref yhe, .ref ygr, .int mF, .int mC, .int mY, .ref yta, .int (nI (mz)), .int (nI (mf)), .int 0, .int mv, .int mw, .ref ywa, .ref ybi, .ref ysi, .ref ynu, .ref ymo])), (ys, .inl (cI, 449, .inl ms)), (yo, .inl (cI, 449, .inl oo2_2))] H := hP
  have hD : va_D A [(yta, .inl (cI, 120, .inl tp)), (ywa, .inl (cI, 6, .inl wa)), (h0, .inr (9, [.ref ys, .ref yk, .ref yo, .ref yt, .int mk0, .ref yfa, .ref yfe, .int mL, .int mS, .int mM, .ref yro, .ref yhe, .ref ygr, .int mF, .int mC, .int mY, .ref yta, .int (nI (mz)), .int (nI (mf)), .int 0, .int mv, .int mw, .ref ywa, .ref ybi, .ref ysi, .ref ynu, .ref ymo])), (ys, .inl (cI, 449, .inl ms)), (yo, .inl (cI, 449, .inl oo2_2))] := hD
  refine lv_aload_n hx hb dX9_land_9 rfl (lv_at hl 0 rfl) ?_
  refine lv_iconst (v := 0) hx hb dX9_land_10 (by decide) ?_
  refine xp hF kf_X9_266 tyX9_ok nmX9 hK hP hD hS 2 rfl rfl rfl rfl (Nat.le_of_ble_eq_true rfl) dX9_land_11 (fun H locs hP hD hS => ?_)
  have hP : va_P D vwCl [(yta, .inl (cI, 120, .inl tp)), (ywa, .inl (cI, 6, .inl wa)), (h0, .inr (9, [.ref ys, .ref yk, .ref yo, .ref yt, .int mk0, .ref yfa, .ref yfe, .int mL, .int mS, .int mM, .ref yro, .ref yhe, .ref ygr, .int mF, .int mC, .int mY, .ref yta, .int (nI (mz)), .int (nI (mf)), .int 0, .int mv, .int 0, .ref ywa, .ref ybi, .ref ysi, .ref ynu, .ref ymo])), (ys, .inl (cI, 449, .inl ms)), (yo, .inl (cI, 449, .inl oo2_2))] H := hP
  have hD : va_D A [(yta, .inl (cI, 120, .inl tp)), (ywa, .inl (cI, 6, .inl wa)), (h0, .inr (9, [.ref ys, .ref yk, .ref yo, .ref yt, .int mk0, .ref yfa, .ref yfe, .int mL, .int mS, .int mM, .ref yro, .ref yhe, .ref ygr, .int mF, .int mC, .int mY, .ref yta, .int (nI (mz)), .int (nI (mf)), .int 0, .int mv, .int 0, .ref ywa, .ref ybi, .ref ysi, .ref ynu, .ref ymo])), (ys, .inl (cI, 449, .inl ms)), (yo, .inl (cI, 449, .inl oo2_2))] := hD
  refine lv_aload_n hx hb dX9_land_14 rfl (lv_at hl 0 rfl) ?_
  refine xc_Vv (wr := [(ywa, .inl (cI, 6, .inl wa)), (ys, .inl (cI, 449, .inl ms)), (yo, .inl (cI, 449, .inl oo2_2))]) hF (c_X9_next l D cI cJ cZ cS ta sa sv H.size h0 ys yk yo yt mk0 yfa yfe mL mS mM yro yhe ygr mF mC mY yta mz mf 0 mv 0 ywa ybi ysi ynu ymo tp (by omega) (by omega)) kv_X9_269 ⟨rfl, rfl, Nat.le_of_ble_eq_true rfl, Nat.le_of_ble_eq_true rfl⟩ ⟨Nat.le_of_ble_eq_true rfl, Nat.le_of_ble_eq_true rfl⟩ hK hN hZ hP hD hS hA [2, 0] [1, 3, 4] rfl rfl rfl rfl (by decide) 0 rfl rfl rfl rfl hl.1 rfl (Nat.le_of_ble_eq_true rfl) dX9_land_15 (fun u_r_13 H locs hw_r_13 hP hD hS => ?_)
  obtain ⟨f2_14, t2_15⟩ := u_r_13
  try dsimp only at hw_r_13
  obtain ⟨i_16, i_17, i_18, i_19, i_20⟩ := hw_r_13
  have hP : va_P D vwCl [(ywa, .inl (cI, 6, .inl wa)), (ys, .inl (cI, 449, .inl ms)), (yo, .inl (cI, 449, .inl oo2_2)), (h0, .inr (9, [.ref ys, .ref yk, .ref yo, .ref yt, .int mk0, .ref yfa, .ref yfe, .int mL, .int mS, .int mM, .ref yro, .ref yhe, .ref ygr, .int mF, .int mC, .int mY, .ref yta, .int (nI (mz)), .int (nI (f2_14)), .int (nI (t2_15)), .int mv, .int 0, .ref ywa, .ref ybi, .ref ysi, .ref ynu, .ref ymo])), (yta, .inl (cI, 120, .inl tp))] H := hP
  have hD : va_D A [(ywa, .inl (cI, 6, .inl wa)), (ys, .inl (cI, 449, .inl ms)), (yo, .inl (cI, 449, .inl oo2_2)), (h0, .inr (9, [.ref ys, .ref yk, .ref yo, .ref yt, .int mk0, .ref yfa, .ref yfe, .int mL, .int mS, .int mM, .ref yro, .ref yhe, .ref ygr, .int mF, .int mC, .int mY, .ref yta, .int (nI (mz)), .int (nI (f2_14)), .int (nI (t2_15)), .int mv, .int 0, .ref ywa, .ref ybi, .ref ysi, .ref ynu, .ref ymo])), (yta, .inl (cI, 120, .inl tp))] := hD
  refine lv_iconst (v := 1) hx hb dX9_land_18 (by decide) ?_
  refine lv_istore_n (lv' := [(1, .int 1), (0, .ref h0)]) hx hb dX9_land_19 rfl hl (by decide) rfl (fun ls hl => ?_)
  refine lv_aload_n hx hb dX9_land_20 rfl (lv_at hl 1 rfl) ?_
  refine xc_Vv (wr := [(yo, .inl (cI, 449, .inl oo2_2))]) hF (c_X9_item l D cI cJ cZ cS ta sa sv H.size h0 ys yk yo yt mk0 yfa yfe mL mS mM yro yhe ygr mF mC mY yta mz f2_14 t2_15 mv 0 ywa ybi ysi ynu ymo ms tp wa P Rn Wn (by omega) (by omega) (by omega) (by omega) (by omega) hs0 hs1 hs2 hsS hsM hsp hsr hsw hsR) kv_X9_300 ⟨rfl, rfl, Nat.le_of_ble_eq_true rfl, Nat.le_of_ble_eq_true rfl⟩ ⟨Nat.le_of_ble_eq_true rfl, Nat.le_of_ble_eq_true rfl⟩ hK hN hZ hP hD hS hA [3, 1, 4, 0] [2] rfl rfl rfl rfl (by decide) 0 rfl rfl rfl rfl hl.1 rfl (Nat.le_of_ble_eq_true rfl) dX9_land_21 (fun u_r_21 H locs hw_r_21 hP hD hS => ?_)
  obtain ⟨f2_22, t2_23, v2_24, w2_25, ms2_26, wa2_27, P2_28, W2_29⟩ := u_r_21
  try dsimp only at hw_r_21
  obtain ⟨i_30, i_31, i_32, i_33, i_34, i_35, i_36, i_37, i_38, i_39, i_40, i_41, i_42, i_43, i_44⟩ := hw_r_21
  have hP : va_P D vwCl [(yo, .inl (cI, 449, .inl oo2_2)), (h0, .inr (9, [.ref ys, .ref yk, .ref yo, .ref yt, .int mk0, .ref yfa, .ref yfe, .int mL, .int mS, .int mM, .ref yro, .ref yhe, .ref ygr, .int mF, .int mC, .int mY, .ref yta, .int (nI (mz)), .int (nI (f2_22)), .int (nI (t2_23)), .int v2_24, .int w2_25, .ref ywa, .ref ybi, .ref ysi, .ref ynu, .ref ymo])), (ys, .inl (cI, 449, .inl ms2_26)), (yta, .inl (cI, 120, .inl tp)), (ywa, .inl (cI, 6, .inl wa2_27))] H := hP
  have hD : va_D A [(yo, .inl (cI, 449, .inl oo2_2)), (h0, .inr (9, [.ref ys, .ref yk, .ref yo, .ref yt, .int mk0, .ref yfa, .ref yfe, .int mL, .int mS, .int mM, .ref yro, .ref yhe, .ref ygr, .int mF, .int mC, .int mY, .ref yta, .int (nI (mz)), .int (nI (f2_22)), .int (nI (t2_23)), .int v2_24, .int w2_25, .ref ywa, .ref ybi, .ref ysi, .ref ynu, .ref ymo])), (ys, .inl (cI, 449, .inl ms2_26)), (yta, .inl (cI, 120, .inl tp)), (ywa, .inl (cI, 6, .inl wa2_27))] := hD
  suffices loop_24 : ∀ (n_24 : Nat) (u8 : Int32) (f8 : Nat) (t8 : Nat) (w8 : Int32) (v8 : Int32) (P8 : Nat) (W8 : Nat) (s8 : Nat → Int32) (a8 : Nat → Int32) (H : Heap) (locs : List Loc) (ls : Array Slot), lm_M w8 (mz - f8) < n_24 → (f8 ≤ mz) → (t8 ≤ mz) → (f8 ≤ t8) → (f8 < t8 ∨ f8 = mz) → (s8 0 = nI P8) → (s8 1 = nI Rn) → (s8 2 = nI W8) → (SI s8) → (MI s8) → (P8 ≤ 10) → (Rn ≤ 8) → (W8 ≤ 8) → (RI Rn s8) → va_P D vwCl [(yo, .inl (cI, 449, .inl oo2_2)), (h0, .inr (9, [.ref ys, .ref yk, .ref yo, .ref yt, .int mk0, .ref yfa, .ref yfe, .int mL, .int mS, .int mM, .ref yro, .ref yhe, .ref ygr, .int mF, .int mC, .int mY, .ref yta, .int (nI (mz)), .int (nI (f8)), .int (nI (t8)), .int v8, .int w8, .ref ywa, .ref ybi, .ref ysi, .ref ynu, .ref ymo])), (ys, .inl (cI, 449, .inl s8)), (yta, .inl (cI, 120, .inl tp)), (ywa, .inl (cI, 6, .inl a8))] H → va_D A [(yo, .inl (cI, 449, .inl oo2_2)), (h0, .inr (9, [.ref ys, .ref yk, .ref yo, .ref yt, .int mk0, .ref yfa, .ref yfe, .int mL, .int mS, .int mM, .ref yro, .ref yhe, .ref ygr, .int mF, .int mC, .int mY, .ref yta, .int (nI (mz)), .int (nI (f8)), .int (nI (t8)), .int v8, .int w8, .ref ywa, .ref ybi, .ref ysi, .ref ynu, .ref ymo])), (ys, .inl (cI, 449, .inl s8)), (yta, .inl (cI, 120, .inl tp)), (ywa, .inl (cI, 6, .inl a8))] → va_S A s.heap H locs → lv_has ls 2 [(1, .int u8), (0, .ref h0)] → W p l e ({ frames := 8, cells := 0, slots := 0, locals := 183 }) s m ([.ref h0] : List Value).toArray below meth c H locs 0 0 (MQ below (XQi (fun (r : Int32) (u : Nat × Nat × Int32 × Int32 × (Nat → Int32) × (Nat → Int32) × (Nat → Int32) × Nat × Nat × Nat) => match u with | (f2, t2, v2, w2, ms2, oo2, wa2, P2, R2, W2) => (True) ∧ (ms2 0 = nI P2) ∧ (ms2 1 = nI R2) ∧ (ms2 2 = nI W2) ∧ (SI ms2) ∧ (MI ms2) ∧ (P2 ≤ 10) ∧ (R2 ≤ 8) ∧ (W2 ≤ 8) ∧ (RI R2 ms2)) D (fun (u : Nat × Nat × Int32 × Int32 × (Nat → Int32) × (Nat → Int32) × (Nat → Int32) × Nat × Nat × Nat) => match u with | (f2, t2, v2, w2, ms2, oo2, wa2, P2, R2, W2) => [(h0, .inr (9, [.ref ys, .ref yk, .ref yo, .ref yt, .int mk0, .ref yfa, .ref yfe, .int mL, .int mS, .int mM, .ref yro, .ref yhe, .ref ygr, .int mF, .int mC, .int mY, .ref yta, .int 0, .int (nI (f2)), .int (nI (t2)), .int v2, .int w2, .ref ywa, .ref ybi, .ref ysi, .ref ynu, .ref ymo])), (ys, .inl (cI, 449, .inl ms2)), (yo, .inl (cI, 449, .inl oo2)), (yta, .inl (cI, 120, .inl tp)), (ywa, .inl (cI, 6, .inl wa2))]) A) ([.ref h0] : List Value).toArray s 0 0 A) (F0 m 24 ls []) by
    exact loop_24 _ 1 f2_22 t2_23 w2_25 v2_24 P2_28 W2_29 ms2_26 wa2_27 _ _ _ (Nat.lt_succ_self _) (by omega) (by omega) (by omega) (by omega) i_36 i_37 i_38 i_39 i_40 i_41 i_42 i_43 i_44 hP hD hS (lv_sub hl [0, 1] rfl)
  intro n_24
  induction n_24 with
  | zero =>
    intro u8 f8 t8 w8 v8 P8 W8 s8 a8 H locs ls hm_24
    exact absurd hm_24 (Nat.not_lt_zero _)
  | succ n_24 ih_24 =>
    intro u8 f8 t8 w8 v8 P8 W8 s8 a8 H locs ls hm_24 hf81 hf82 hf83 hf84 ht0 ht1 ht2 htS htM htp htr htw htR hP hD hS hl
    refine lv_aload_n hx hb dX9_land_24 rfl (lv_at hl 1 rfl) ?_
    refine xg hF kf_X9_266 hK hP 1 rfl rfl dX9_land_25 ?_
    refine lv_if_ne (tgt := 74) hx hb dX9_land_28 (by decide) (fun c_45 => ?_) (fun c_45 => ?_)
    · skip
      refine lv_aload_n hx hb dX9_land_74 rfl (lv_at hl 1 rfl) ?_
      refine lv_iconst (v := 0) hx hb dX9_land_75 (by decide) ?_
      refine xp hF kf_X9_240 tyX9_ok nmX9 hK hP hD hS 1 rfl rfl rfl rfl (Nat.le_of_ble_eq_true rfl) dX9_land_76 (fun H locs hP hD hS => ?_)
      have hP : va_P D vwCl [(yo, .inl (cI, 449, .inl oo2_2)), (h0, .inr (9, [.ref ys, .ref yk, .ref yo, .ref yt, .int mk0, .ref yfa, .ref yfe, .int mL, .int mS, .int mM, .ref yro, .ref yhe, .ref ygr, .int mF, .int mC, .int mY, .ref yta, .int 0, .int (nI (f8)), .int (nI (t8)), .int v8, .int w8, .ref ywa, .ref ybi, .ref ysi, .ref ynu, .ref ymo])), (ys, .inl (cI, 449, .inl s8)), (yta, .inl (cI, 120, .inl tp)), (ywa, .inl (cI, 6, .inl a8))] H := hP
      have hD : va_D A [(yo, .inl (cI, 449, .inl oo2_2)), (h0, .inr (9, [.ref ys, .ref yk, .ref yo, .ref yt, .int mk0, .ref yfa, .ref yfe, .int mL, .int mS, .int mM, .ref yro, .ref yhe, .ref ygr, .int mF, .int mC, .int mY, .ref yta, .int 0, .int (nI (f8)), .int (nI (t8)), .int v8, .int w8, .ref ywa, .ref ybi, .ref ysi, .ref ynu, .ref ymo])), (ys, .inl (cI, 449, .inl s8)), (yta, .inl (cI, 120, .inl tp)), (ywa, .inl (cI, 6, .inl a8))] := hD
      refine lv_aload_n hx hb dX9_land_79 rfl (lv_at hl 1 rfl) ?_
      refine xg hF kf_X9_266 hK hP 1 rfl rfl dX9_land_80 ?_
      refine lv_if_eq (tgt := 97) hx hb dX9_land_83 (by decide) (fun c_46 => ?_) (fun c_46 => ?_)
      · skip
        refine lv_iload_n hx hb dX9_land_97 rfl (lv_at hl 0 rfl) ?_
        exact W.iret (v := u8) hx hb hr (fun t ht hW => ⟨⟨u8, (f8, t8, v8, w8, s8, oo2_2, a8, P8, Rn, W8), rfl, ⟨trivial, ht0, ht1, ht2, htS, htM, htp, htr, htw, htR⟩, by rw [ht]; exact hP.sub [1, 2, 0, 3, 4] rfl, hD.sub [1, 2, 0, 3, 4] (by decide +kernel) rfl⟩, hS.F ht⟩) hS.2.2 dX9_land_98 hlk
      · skip
        refine lv_aload_n hx hb dX9_land_86 rfl (lv_at hl 1 rfl) ?_
        refine xc_Vv (wr := [(yta, .inl (cI, 120, .inl tp)), (ywa, .inl (cI, 6, .inl a8))]) hF (c_X9_putsBack l D cI cJ cZ cS ta sa sv H.size h0 ys yk yo yt mk0 yfa yfe mL mS mM yro yhe ygr mF mC mY yta 0 f8 t8 v8 w8 ywa ybi ysi ynu ymo s8 oo2_2 P Rn Wn i_4 i_5 i_6 i_7 i_8 i_9 i_10 i_11 i_12) kv_X9_220 ⟨rfl, rfl, Nat.le_of_ble_eq_true rfl, Nat.le_of_ble_eq_true rfl⟩ ⟨Nat.le_of_ble_eq_true rfl, Nat.le_of_ble_eq_true rfl⟩ hK hN hZ hP hD hS hA [1, 2, 0] [3, 4] rfl rfl rfl rfl (by decide) 0 rfl rfl rfl rfl hl.1 rfl (Nat.le_of_ble_eq_true rfl) dX9_land_87 (fun u_r_47 H locs hw_r_47 hP hD hS => ?_)
        obtain ⟨ms2_48, rfl⟩ : ∃ z, z = u_r_47 := ⟨_, rfl⟩
        try dsimp only at hw_r_47
        obtain ⟨i_49, i_50, i_51, i_52, i_53, i_54, i_55, i_56, i_57, i_58⟩ := hw_r_47
        have hP : va_P D vwCl [(yta, .inl (cI, 120, .inl tp)), (ywa, .inl (cI, 6, .inl a8)), (h0, .inr (9, [.ref ys, .ref yk, .ref yo, .ref yt, .int mk0, .ref yfa, .ref yfe, .int mL, .int mS, .int mM, .ref yro, .ref yhe, .ref ygr, .int mF, .int mC, .int mY, .ref yta, .int 0, .int (nI (f8)), .int (nI (t8)), .int v8, .int w8, .ref ywa, .ref ybi, .ref ysi, .ref ynu, .ref ymo])), (ys, .inl (cI, 449, .inl ms2_48)), (yo, .inl (cI, 449, .inl oo2_2))] H := hP
        have hD : va_D A [(yta, .inl (cI, 120, .inl tp)), (ywa, .inl (cI, 6, .inl a8)), (h0, .inr (9, [.ref ys, .ref yk, .ref yo, .ref yt, .int mk0, .ref yfa, .ref yfe, .int mL, .int mS, .int mM, .ref yro, .ref yhe, .ref ygr, .int mF, .int mC, .int mY, .ref yta, .int 0, .int (nI (f8)), .int (nI (t8)), .int v8, .int w8, .ref ywa, .ref ybi, .ref ysi, .ref ynu, .ref ymo])), (ys, .inl (cI, 449, .inl ms2_48)), (yo, .inl (cI, 449, .inl oo2_2))] := hD
        refine lv_iconst (v := (-1)) hx hb dX9_land_90 (by decide) ?_
        refine lv_aload_n hx hb dX9_land_91 rfl (lv_at hl 1 rfl) ?_
        refine xg hF kf_X9_254 hK hP 2 rfl rfl dX9_land_92 ?_
        refine lv_isub hx hb dX9_land_95 ?_
        refine lv_topi (fun x_59 ex_59 => ?_)
        exact W.iret (v := x_59) hx hb hr (fun t ht hW => ⟨⟨x_59, (f8, t8, v8, w8, ms2_48, oo2_2, a8, P, Rn, Wn), rfl, ⟨trivial, i_50, i_51, i_52, i_53, i_54, i_55, i_56, i_57, i_58⟩, by rw [ht]; exact hP.sub [2, 3, 4, 0, 1] rfl, hD.sub [2, 3, 4, 0, 1] (by decide +kernel) rfl⟩, hS.F ht⟩) hS.2.2 dX9_land_96 hlk
    · skip
      refine lv_aload_n hx hb dX9_land_31 rfl (lv_at hl 1 rfl) ?_
      refine xg hF kf_X9_254 hK hP 1 rfl rfl dX9_land_32 ?_
      refine lv_aload_n hx hb dX9_land_35 rfl (lv_at hl 1 rfl) ?_
      refine xg hF kf_X9_240 hK hP 1 rfl rfl dX9_land_36 ?_
      refine lv_icmp_ge (tgt := 74) hx hb dX9_land_39 (by decide) (fun c_60 => ?_) (fun c_60 => ?_)
      · skip
        have nc_60 : mz ≤ f8 := xn_le (a := mz) (b := f8) (by omega) (by omega) c_60
        refine lv_aload_n hx hb dX9_land_74 rfl (lv_at hl 1 rfl) ?_
        refine lv_iconst (v := 0) hx hb dX9_land_75 (by decide) ?_
        refine xp hF kf_X9_240 tyX9_ok nmX9 hK hP hD hS 1 rfl rfl rfl rfl (Nat.le_of_ble_eq_true rfl) dX9_land_76 (fun H locs hP hD hS => ?_)
        have hP : va_P D vwCl [(yo, .inl (cI, 449, .inl oo2_2)), (h0, .inr (9, [.ref ys, .ref yk, .ref yo, .ref yt, .int mk0, .ref yfa, .ref yfe, .int mL, .int mS, .int mM, .ref yro, .ref yhe, .ref ygr, .int mF, .int mC, .int mY, .ref yta, .int 0, .int (nI (f8)), .int (nI (t8)), .int v8, .int w8, .ref ywa, .ref ybi, .ref ysi, .ref ynu, .ref ymo])), (ys, .inl (cI, 449, .inl s8)), (yta, .inl (cI, 120, .inl tp)), (ywa, .inl (cI, 6, .inl a8))] H := hP
        have hD : va_D A [(yo, .inl (cI, 449, .inl oo2_2)), (h0, .inr (9, [.ref ys, .ref yk, .ref yo, .ref yt, .int mk0, .ref yfa, .ref yfe, .int mL, .int mS, .int mM, .ref yro, .ref yhe, .ref ygr, .int mF, .int mC, .int mY, .ref yta, .int 0, .int (nI (f8)), .int (nI (t8)), .int v8, .int w8, .ref ywa, .ref ybi, .ref ysi, .ref ynu, .ref ymo])), (ys, .inl (cI, 449, .inl s8)), (yta, .inl (cI, 120, .inl tp)), (ywa, .inl (cI, 6, .inl a8))] := hD
        refine lv_aload_n hx hb dX9_land_79 rfl (lv_at hl 1 rfl) ?_
        refine xg hF kf_X9_266 hK hP 1 rfl rfl dX9_land_80 ?_
        refine lv_if_eq (tgt := 97) hx hb dX9_land_83 (by decide) (fun c_61 => ?_) (fun c_61 => ?_)
        · skip
          refine lv_iload_n hx hb dX9_land_97 rfl (lv_at hl 0 rfl) ?_
          exact W.iret (v := u8) hx hb hr (fun t ht hW => ⟨⟨u8, (f8, t8, v8, w8, s8, oo2_2, a8, P8, Rn, W8), rfl, ⟨trivial, ht0, ht1, ht2, htS, htM, htp, htr, htw, htR⟩, by rw [ht]; exact hP.sub [1, 2, 0, 3, 4] rfl, hD.sub [1, 2, 0, 3, 4] (by decide +kernel) rfl⟩, hS.F ht⟩) hS.2.2 dX9_land_98 hlk
        · skip
          refine lv_aload_n hx hb dX9_land_86 rfl (lv_at hl 1 rfl) ?_
          refine xc_Vv (wr := [(yta, .inl (cI, 120, .inl tp)), (ywa, .inl (cI, 6, .inl a8))]) hF (c_X9_putsBack l D cI cJ cZ cS ta sa sv H.size h0 ys yk yo yt mk0 yfa yfe mL mS mM yro yhe ygr mF mC mY yta 0 f8 t8 v8 w8 ywa ybi ysi ynu ymo s8 oo2_2 P Rn Wn i_4 i_5 i_6 i_7 i_8 i_9 i_10 i_11 i_12) kv_X9_220 ⟨rfl, rfl, Nat.le_of_ble_eq_true rfl, Nat.le_of_ble_eq_true rfl⟩ ⟨Nat.le_of_ble_eq_true rfl, Nat.le_of_ble_eq_true rfl⟩ hK hN hZ hP hD hS hA [1, 2, 0] [3, 4] rfl rfl rfl rfl (by decide) 0 rfl rfl rfl rfl hl.1 rfl (Nat.le_of_ble_eq_true rfl) dX9_land_87 (fun u_r_62 H locs hw_r_62 hP hD hS => ?_)
          obtain ⟨ms2_63, rfl⟩ : ∃ z, z = u_r_62 := ⟨_, rfl⟩
          try dsimp only at hw_r_62
          obtain ⟨i_64, i_65, i_66, i_67, i_68, i_69, i_70, i_71, i_72, i_73⟩ := hw_r_62
          have hP : va_P D vwCl [(yta, .inl (cI, 120, .inl tp)), (ywa, .inl (cI, 6, .inl a8)), (h0, .inr (9, [.ref ys, .ref yk, .ref yo, .ref yt, .int mk0, .ref yfa, .ref yfe, .int mL, .int mS, .int mM, .ref yro, .ref yhe, .ref ygr, .int mF, .int mC, .int mY, .ref yta, .int 0, .int (nI (f8)), .int (nI (t8)), .int v8, .int w8, .ref ywa, .ref ybi, .ref ysi, .ref ynu, .ref ymo])), (ys, .inl (cI, 449, .inl ms2_63)), (yo, .inl (cI, 449, .inl oo2_2))] H := hP
          have hD : va_D A [(yta, .inl (cI, 120, .inl tp)), (ywa, .inl (cI, 6, .inl a8)), (h0, .inr (9, [.ref ys, .ref yk, .ref yo, .ref yt, .int mk0, .ref yfa, .ref yfe, .int mL, .int mS, .int mM, .ref yro, .ref yhe, .ref ygr, .int mF, .int mC, .int mY, .ref yta, .int 0, .int (nI (f8)), .int (nI (t8)), .int v8, .int w8, .ref ywa, .ref ybi, .ref ysi, .ref ynu, .ref ymo])), (ys, .inl (cI, 449, .inl ms2_63)), (yo, .inl (cI, 449, .inl oo2_2))] := hD
          refine lv_iconst (v := (-1)) hx hb dX9_land_90 (by decide) ?_
          refine lv_aload_n hx hb dX9_land_91 rfl (lv_at hl 1 rfl) ?_
          refine xg hF kf_X9_254 hK hP 2 rfl rfl dX9_land_92 ?_
          refine lv_isub hx hb dX9_land_95 ?_
          refine lv_topi (fun x_74 ex_74 => ?_)
          exact W.iret (v := x_74) hx hb hr (fun t ht hW => ⟨⟨x_74, (f8, t8, v8, w8, ms2_63, oo2_2, a8, P, Rn, Wn), rfl, ⟨trivial, i_65, i_66, i_67, i_68, i_69, i_70, i_71, i_72, i_73⟩, by rw [ht]; exact hP.sub [2, 3, 4, 0, 1] rfl, hD.sub [2, 3, 4, 0, 1] (by decide +kernel) rfl⟩, hS.F ht⟩) hS.2.2 dX9_land_96 hlk
      · skip
        have nc_60 : f8 < mz := xn_nle (a := mz) (b := f8) (by omega) (by omega) c_60
        refine lv_aload_n hx hb dX9_land_42 rfl (lv_at hl 1 rfl) ?_
        refine lv_aload_n hx hb dX9_land_43 rfl (lv_at hl 1 rfl) ?_
        refine lv_aload_n hx hb dX9_land_44 rfl (lv_at hl 1 rfl) ?_
        refine xg hF kf_X9_254 hK hP 1 rfl rfl dX9_land_45 ?_
        refine xc_Vr hF (c_X9_byteAt l D cI cJ cZ cS ta sa sv H.size h0 ys yk yo yt mk0 yfa yfe mL mS mM yro yhe ygr mF mC mY yta mz f8 t8 v8 w8 ywa ybi ysi ynu ymo tp f8 (by omega) (by omega)) kv_X9_257 ⟨rfl, rfl, Nat.le_of_ble_eq_true rfl, Nat.le_of_ble_eq_true rfl⟩ ⟨Nat.le_of_ble_eq_true rfl, Nat.le_of_ble_eq_true rfl⟩ hK hN hZ hP hD hS hA [1, 3] rfl rfl 0 rfl rfl rfl rfl hl.1 rfl (Nat.le_of_ble_eq_true rfl) dX9_land_48 (fun r_75 hw_r_75 => ?_)
        rcases hw_r_75 with ⟨rfl, h_76⟩ | ⟨rfl, h_77⟩
        · skip
          refine lv_bipush (v := 59) hx hb dX9_land_51 (by decide) ?_
          refine lv_icmp_ne (tgt := 60) hx hb dX9_land_53 (by decide) (fun c_78 => ?_) (fun c_78 => ?_)
          · skip
            refine lv_iconst (v := 0) hx hb dX9_land_60 (by decide) ?_
            refine xc_Vv (wr := [(yo, .inl (cI, 449, .inl oo2_2)), (ys, .inl (cI, 449, .inl s8)), (ywa, .inl (cI, 6, .inl a8))]) hF (c_X9_needs l D cI cJ cZ cS ta sa sv H.size h0 ys yk yo yt mk0 yfa yfe mL mS mM yro yhe ygr mF mC mY yta mz f8 t8 v8 w8 ywa ybi ysi ynu ymo tp 0 (by omega) (by omega) (by omega) (by omega) (by omega)) kv_X9_278 ⟨rfl, rfl, Nat.le_of_ble_eq_true rfl, Nat.le_of_ble_eq_true rfl⟩ ⟨Nat.le_of_ble_eq_true rfl, Nat.le_of_ble_eq_true rfl⟩ hK hN hZ hP hD hS hA [1, 3] [0, 2, 4] rfl rfl rfl rfl (by decide) 0 rfl rfl rfl rfl hl.1 rfl (Nat.le_of_ble_eq_true rfl) dX9_land_61 (fun u_r_79 H locs hw_r_79 hP hD hS => ?_)
            obtain ⟨f2_80, t2_81, w2_82⟩ := u_r_79
            try dsimp only at hw_r_79
            obtain ⟨i_83, i_84, i_85, i_86, i_87, i_88⟩ := hw_r_79
            have hP : va_P D vwCl [(yo, .inl (cI, 449, .inl oo2_2)), (ys, .inl (cI, 449, .inl s8)), (ywa, .inl (cI, 6, .inl a8)), (h0, .inr (9, [.ref ys, .ref yk, .ref yo, .ref yt, .int mk0, .ref yfa, .ref yfe, .int mL, .int mS, .int mM, .ref yro, .ref yhe, .ref ygr, .int mF, .int mC, .int mY, .ref yta, .int (nI (mz)), .int (nI (f2_80)), .int (nI (t2_81)), .int v8, .int w2_82, .ref ywa, .ref ybi, .ref ysi, .ref ynu, .ref ymo])), (yta, .inl (cI, 120, .inl tp))] H := hP
            have hD : va_D A [(yo, .inl (cI, 449, .inl oo2_2)), (ys, .inl (cI, 449, .inl s8)), (ywa, .inl (cI, 6, .inl a8)), (h0, .inr (9, [.ref ys, .ref yk, .ref yo, .ref yt, .int mk0, .ref yfa, .ref yfe, .int mL, .int mS, .int mM, .ref yro, .ref yhe, .ref ygr, .int mF, .int mC, .int mY, .ref yta, .int (nI (mz)), .int (nI (f2_80)), .int (nI (t2_81)), .int v8, .int w2_82, .ref ywa, .ref ybi, .ref ysi, .ref ynu, .ref ymo])), (yta, .inl (cI, 120, .inl tp))] := hD
            refine lv_aload_n hx hb dX9_land_64 rfl (lv_at hl 1 rfl) ?_
            refine xc_Vv (wr := [(yo, .inl (cI, 449, .inl oo2_2))]) hF (c_X9_item l D cI cJ cZ cS ta sa sv H.size h0 ys yk yo yt mk0 yfa yfe mL mS mM yro yhe ygr mF mC mY yta mz f2_80 t2_81 v8 w2_82 ywa ybi ysi ynu ymo s8 tp a8 P8 Rn W8 (by omega) (by omega) (by omega) (by omega) (by omega) ht0 ht1 ht2 htS htM htp htr htw htR) kv_X9_300 ⟨rfl, rfl, Nat.le_of_ble_eq_true rfl, Nat.le_of_ble_eq_true rfl⟩ ⟨Nat.le_of_ble_eq_true rfl, Nat.le_of_ble_eq_true rfl⟩ hK hN hZ hP hD hS hA [3, 1, 4, 2] [0] rfl rfl rfl rfl (by decide) 0 rfl rfl rfl rfl hl.1 rfl (Nat.le_of_ble_eq_true rfl) dX9_land_65 (fun u_r_89 H locs hw_r_89 hP hD hS => ?_)
            obtain ⟨f2_90, t2_91, v2_92, w2_93, ms2_94, wa2_95, P2_96, W2_97⟩ := u_r_89
            try dsimp only at hw_r_89
            obtain ⟨i_98, i_99, i_100, i_101, i_102, i_103, i_104, i_105, i_106, i_107, i_108, i_109, i_110, i_111, i_112⟩ := hw_r_89
            have hP : va_P D vwCl [(yo, .inl (cI, 449, .inl oo2_2)), (h0, .inr (9, [.ref ys, .ref yk, .ref yo, .ref yt, .int mk0, .ref yfa, .ref yfe, .int mL, .int mS, .int mM, .ref yro, .ref yhe, .ref ygr, .int mF, .int mC, .int mY, .ref yta, .int (nI (mz)), .int (nI (f2_90)), .int (nI (t2_91)), .int v2_92, .int w2_93, .ref ywa, .ref ybi, .ref ysi, .ref ynu, .ref ymo])), (ys, .inl (cI, 449, .inl ms2_94)), (yta, .inl (cI, 120, .inl tp)), (ywa, .inl (cI, 6, .inl wa2_95))] H := hP
            have hD : va_D A [(yo, .inl (cI, 449, .inl oo2_2)), (h0, .inr (9, [.ref ys, .ref yk, .ref yo, .ref yt, .int mk0, .ref yfa, .ref yfe, .int mL, .int mS, .int mM, .ref yro, .ref yhe, .ref ygr, .int mF, .int mC, .int mY, .ref yta, .int (nI (mz)), .int (nI (f2_90)), .int (nI (t2_91)), .int v2_92, .int w2_93, .ref ywa, .ref ybi, .ref ysi, .ref ynu, .ref ymo])), (ys, .inl (cI, 449, .inl ms2_94)), (yta, .inl (cI, 120, .inl tp)), (ywa, .inl (cI, 6, .inl wa2_95))] := hD
            refine lv_iinc (v := u8 + 1) (lv' := [(1, .int (u8 + 1)), (0, .ref h0)]) hx hb dX9_land_68 hl (k := 0) rfl rfl (by decide) rfl (fun ls hl => ?_)
            refine lv_goto (tgt := 24) hx hb dX9_land_71 (by decide) ?_
            have hd9 : lm_M w2_93 (mz - f2_90) < lm_M w8 (mz - f8) := lm_dec c_45 (by omega) (fun h => by have h1 := i_103 h; have h2 := i_88 h1.1; omega)
            exact ih_24 (u8 + 1) f2_90 t2_91 w2_93 v2_92 P2_96 W2_97 ms2_94 wa2_95 _ _ _ (by omega) (by omega) (by omega) (by omega) (by omega) i_104 i_105 i_106 i_107 i_108 i_109 i_110 i_111 i_112 (hP.sub [0, 1, 2, 3, 4] rfl) (hD.sub [0, 1, 2, 3, 4] (by decide +kernel) rfl) hS (lv_sub hl [0, 1] rfl)
          · skip
            refine lv_iconst (v := 1) hx hb dX9_land_56 (by decide) ?_
            refine lv_goto (tgt := 61) hx hb dX9_land_57 (by decide) ?_
            refine xc_Vv (wr := [(yo, .inl (cI, 449, .inl oo2_2)), (ys, .inl (cI, 449, .inl s8)), (ywa, .inl (cI, 6, .inl a8))]) hF (c_X9_needs l D cI cJ cZ cS ta sa sv H.size h0 ys yk yo yt mk0 yfa yfe mL mS mM yro yhe ygr mF mC mY yta mz f8 t8 v8 w8 ywa ybi ysi ynu ymo tp 1 (by omega) (by omega) (by omega) (by omega) (by omega)) kv_X9_278 ⟨rfl, rfl, Nat.le_of_ble_eq_true rfl, Nat.le_of_ble_eq_true rfl⟩ ⟨Nat.le_of_ble_eq_true rfl, Nat.le_of_ble_eq_true rfl⟩ hK hN hZ hP hD hS hA [1, 3] [0, 2, 4] rfl rfl rfl rfl (by decide) 0 rfl rfl rfl rfl hl.1 rfl (Nat.le_of_ble_eq_true rfl) dX9_land_61 (fun u_r_113 H locs hw_r_113 hP hD hS => ?_)
            obtain ⟨f2_114, t2_115, w2_116⟩ := u_r_113
            try dsimp only at hw_r_113
            obtain ⟨i_117, i_118, i_119, i_120, i_121, i_122⟩ := hw_r_113
            have hP : va_P D vwCl [(yo, .inl (cI, 449, .inl oo2_2)), (ys, .inl (cI, 449, .inl s8)), (ywa, .inl (cI, 6, .inl a8)), (h0, .inr (9, [.ref ys, .ref yk, .ref yo, .ref yt, .int mk0, .ref yfa, .ref yfe, .int mL, .int mS, .int mM, .ref yro, .ref yhe, .ref ygr, .int mF, .int mC, .int mY, .ref yta, .int (nI (mz)), .int (nI (f2_114)), .int (nI (t2_115)), .int v8, .int w2_116, .ref ywa, .ref ybi, .ref ysi, .ref ynu, .ref ymo])), (yta, .inl (cI, 120, .inl tp))] H := hP
            have hD : va_D A [(yo, .inl (cI, 449, .inl oo2_2)), (ys, .inl (cI, 449, .inl s8)), (ywa, .inl (cI, 6, .inl a8)), (h0, .inr (9, [.ref ys, .ref yk, .ref yo, .ref yt, .int mk0, .ref yfa, .ref yfe, .int mL, .int mS, .int mM, .ref yro, .ref yhe, .ref ygr, .int mF, .int mC, .int mY, .ref yta, .int (nI (mz)), .int (nI (f2_114)), .int (nI (t2_115)), .int v8, .int w2_116, .ref ywa, .ref ybi, .ref ysi, .ref ynu, .ref ymo])), (yta, .inl (cI, 120, .inl tp))] := hD
            refine lv_aload_n hx hb dX9_land_64 rfl (lv_at hl 1 rfl) ?_
            refine xc_Vv (wr := [(yo, .inl (cI, 449, .inl oo2_2))]) hF (c_X9_item l D cI cJ cZ cS ta sa sv H.size h0 ys yk yo yt mk0 yfa yfe mL mS mM yro yhe ygr mF mC mY yta mz f2_114 t2_115 v8 w2_116 ywa ybi ysi ynu ymo s8 tp a8 P8 Rn W8 (by omega) (by omega) (by omega) (by omega) (by omega) ht0 ht1 ht2 htS htM htp htr htw htR) kv_X9_300 ⟨rfl, rfl, Nat.le_of_ble_eq_true rfl, Nat.le_of_ble_eq_true rfl⟩ ⟨Nat.le_of_ble_eq_true rfl, Nat.le_of_ble_eq_true rfl⟩ hK hN hZ hP hD hS hA [3, 1, 4, 2] [0] rfl rfl rfl rfl (by decide) 0 rfl rfl rfl rfl hl.1 rfl (Nat.le_of_ble_eq_true rfl) dX9_land_65 (fun u_r_123 H locs hw_r_123 hP hD hS => ?_)
            obtain ⟨f2_124, t2_125, v2_126, w2_127, ms2_128, wa2_129, P2_130, W2_131⟩ := u_r_123
            try dsimp only at hw_r_123
            obtain ⟨i_132, i_133, i_134, i_135, i_136, i_137, i_138, i_139, i_140, i_141, i_142, i_143, i_144, i_145, i_146⟩ := hw_r_123
            have hP : va_P D vwCl [(yo, .inl (cI, 449, .inl oo2_2)), (h0, .inr (9, [.ref ys, .ref yk, .ref yo, .ref yt, .int mk0, .ref yfa, .ref yfe, .int mL, .int mS, .int mM, .ref yro, .ref yhe, .ref ygr, .int mF, .int mC, .int mY, .ref yta, .int (nI (mz)), .int (nI (f2_124)), .int (nI (t2_125)), .int v2_126, .int w2_127, .ref ywa, .ref ybi, .ref ysi, .ref ynu, .ref ymo])), (ys, .inl (cI, 449, .inl ms2_128)), (yta, .inl (cI, 120, .inl tp)), (ywa, .inl (cI, 6, .inl wa2_129))] H := hP
            have hD : va_D A [(yo, .inl (cI, 449, .inl oo2_2)), (h0, .inr (9, [.ref ys, .ref yk, .ref yo, .ref yt, .int mk0, .ref yfa, .ref yfe, .int mL, .int mS, .int mM, .ref yro, .ref yhe, .ref ygr, .int mF, .int mC, .int mY, .ref yta, .int (nI (mz)), .int (nI (f2_124)), .int (nI (t2_125)), .int v2_126, .int w2_127, .ref ywa, .ref ybi, .ref ysi, .ref ynu, .ref ymo])), (ys, .inl (cI, 449, .inl ms2_128)), (yta, .inl (cI, 120, .inl tp)), (ywa, .inl (cI, 6, .inl wa2_129))] := hD
            refine lv_iinc (v := u8 + 1) (lv' := [(1, .int (u8 + 1)), (0, .ref h0)]) hx hb dX9_land_68 hl (k := 0) rfl rfl (by decide) rfl (fun ls hl => ?_)
            refine lv_goto (tgt := 24) hx hb dX9_land_71 (by decide) ?_
            have hd9 : lm_M w2_127 (mz - f2_124) < lm_M w8 (mz - f8) := lm_dec c_45 (by omega) (fun h => by have h1 := i_137 h; have h2 := i_122 h1.1; omega)
            exact ih_24 (u8 + 1) f2_124 t2_125 w2_127 v2_126 P2_130 W2_131 ms2_128 wa2_129 _ _ _ (by omega) (by omega) (by omega) (by omega) (by omega) i_138 i_139 i_140 i_141 i_142 i_143 i_144 i_145 i_146 (hP.sub [0, 1, 2, 3, 4] rfl) (hD.sub [0, 1, 2, 3, 4] (by decide +kernel) rfl) hS (lv_sub hl [0, 1] rfl)
        · skip
          refine lv_bipush (v := 59) hx hb dX9_land_51 (by decide) ?_
          refine lv_icmp_ne (tgt := 60) hx hb dX9_land_53 (by decide) (fun c_147 => ?_) (fun c_147 => absurd c_147 (by decide))
          refine lv_iconst (v := 0) hx hb dX9_land_60 (by decide) ?_
          refine xc_Vv (wr := [(yo, .inl (cI, 449, .inl oo2_2)), (ys, .inl (cI, 449, .inl s8)), (ywa, .inl (cI, 6, .inl a8))]) hF (c_X9_needs l D cI cJ cZ cS ta sa sv H.size h0 ys yk yo yt mk0 yfa yfe mL mS mM yro yhe ygr mF mC mY yta mz f8 t8 v8 w8 ywa ybi ysi ynu ymo tp 0 (by omega) (by omega) (by omega) (by omega) (by omega)) kv_X9_278 ⟨rfl, rfl, Nat.le_of_ble_eq_true rfl, Nat.le_of_ble_eq_true rfl⟩ ⟨Nat.le_of_ble_eq_true rfl, Nat.le_of_ble_eq_true rfl⟩ hK hN hZ hP hD hS hA [1, 3] [0, 2, 4] rfl rfl rfl rfl (by decide) 0 rfl rfl rfl rfl hl.1 rfl (Nat.le_of_ble_eq_true rfl) dX9_land_61 (fun u_r_148 H locs hw_r_148 hP hD hS => ?_)
          obtain ⟨f2_149, t2_150, w2_151⟩ := u_r_148
          try dsimp only at hw_r_148
          obtain ⟨i_152, i_153, i_154, i_155, i_156, i_157⟩ := hw_r_148
          have hP : va_P D vwCl [(yo, .inl (cI, 449, .inl oo2_2)), (ys, .inl (cI, 449, .inl s8)), (ywa, .inl (cI, 6, .inl a8)), (h0, .inr (9, [.ref ys, .ref yk, .ref yo, .ref yt, .int mk0, .ref yfa, .ref yfe, .int mL, .int mS, .int mM, .ref yro, .ref yhe, .ref ygr, .int mF, .int mC, .int mY, .ref yta, .int (nI (mz)), .int (nI (f2_149)), .int (nI (t2_150)), .int v8, .int w2_151, .ref ywa, .ref ybi, .ref ysi, .ref ynu, .ref ymo])), (yta, .inl (cI, 120, .inl tp))] H := hP
          have hD : va_D A [(yo, .inl (cI, 449, .inl oo2_2)), (ys, .inl (cI, 449, .inl s8)), (ywa, .inl (cI, 6, .inl a8)), (h0, .inr (9, [.ref ys, .ref yk, .ref yo, .ref yt, .int mk0, .ref yfa, .ref yfe, .int mL, .int mS, .int mM, .ref yro, .ref yhe, .ref ygr, .int mF, .int mC, .int mY, .ref yta, .int (nI (mz)), .int (nI (f2_149)), .int (nI (t2_150)), .int v8, .int w2_151, .ref ywa, .ref ybi, .ref ysi, .ref ynu, .ref ymo])), (yta, .inl (cI, 120, .inl tp))] := hD
          refine lv_aload_n hx hb dX9_land_64 rfl (lv_at hl 1 rfl) ?_
          refine xc_Vv (wr := [(yo, .inl (cI, 449, .inl oo2_2))]) hF (c_X9_item l D cI cJ cZ cS ta sa sv H.size h0 ys yk yo yt mk0 yfa yfe mL mS mM yro yhe ygr mF mC mY yta mz f2_149 t2_150 v8 w2_151 ywa ybi ysi ynu ymo s8 tp a8 P8 Rn W8 (by omega) (by omega) (by omega) (by omega) (by omega) ht0 ht1 ht2 htS htM htp htr htw htR) kv_X9_300 ⟨rfl, rfl, Nat.le_of_ble_eq_true rfl, Nat.le_of_ble_eq_true rfl⟩ ⟨Nat.le_of_ble_eq_true rfl, Nat.le_of_ble_eq_true rfl⟩ hK hN hZ hP hD hS hA [3, 1, 4, 2] [0] rfl rfl rfl rfl (by decide) 0 rfl rfl rfl rfl hl.1 rfl (Nat.le_of_ble_eq_true rfl) dX9_land_65 (fun u_r_158 H locs hw_r_158 hP hD hS => ?_)
          obtain ⟨f2_159, t2_160, v2_161, w2_162, ms2_163, wa2_164, P2_165, W2_166⟩ := u_r_158
          try dsimp only at hw_r_158
          obtain ⟨i_167, i_168, i_169, i_170, i_171, i_172, i_173, i_174, i_175, i_176, i_177, i_178, i_179, i_180, i_181⟩ := hw_r_158
          have hP : va_P D vwCl [(yo, .inl (cI, 449, .inl oo2_2)), (h0, .inr (9, [.ref ys, .ref yk, .ref yo, .ref yt, .int mk0, .ref yfa, .ref yfe, .int mL, .int mS, .int mM, .ref yro, .ref yhe, .ref ygr, .int mF, .int mC, .int mY, .ref yta, .int (nI (mz)), .int (nI (f2_159)), .int (nI (t2_160)), .int v2_161, .int w2_162, .ref ywa, .ref ybi, .ref ysi, .ref ynu, .ref ymo])), (ys, .inl (cI, 449, .inl ms2_163)), (yta, .inl (cI, 120, .inl tp)), (ywa, .inl (cI, 6, .inl wa2_164))] H := hP
          have hD : va_D A [(yo, .inl (cI, 449, .inl oo2_2)), (h0, .inr (9, [.ref ys, .ref yk, .ref yo, .ref yt, .int mk0, .ref yfa, .ref yfe, .int mL, .int mS, .int mM, .ref yro, .ref yhe, .ref ygr, .int mF, .int mC, .int mY, .ref yta, .int (nI (mz)), .int (nI (f2_159)), .int (nI (t2_160)), .int v2_161, .int w2_162, .ref ywa, .ref ybi, .ref ysi, .ref ynu, .ref ymo])), (ys, .inl (cI, 449, .inl ms2_163)), (yta, .inl (cI, 120, .inl tp)), (ywa, .inl (cI, 6, .inl wa2_164))] := hD
          refine lv_iinc (v := u8 + 1) (lv' := [(1, .int (u8 + 1)), (0, .ref h0)]) hx hb dX9_land_68 hl (k := 0) rfl rfl (by decide) rfl (fun ls hl => ?_)
          refine lv_goto (tgt := 24) hx hb dX9_land_71 (by decide) ?_
          have hd9 : lm_M w2_162 (mz - f2_159) < lm_M w8 (mz - f8) := lm_dec c_45 (by omega) (fun h => by have h1 := i_172 h; have h2 := i_157 h1.1; omega)
          exact ih_24 (u8 + 1) f2_159 t2_160 w2_162 v2_161 P2_165 W2_166 ms2_163 wa2_164 _ _ _ (by omega) (by omega) (by omega) (by omega) (by omega) i_173 i_174 i_175 i_176 i_177 i_178 i_179 i_180 i_181 (hP.sub [0, 1, 2, 3, 4] rfl) (hD.sub [0, 1, 2, 3, 4] (by decide +kernel) rfl) hS (lv_sub hl [0, 1] rfl)
