def LRX9_wayItem_12 : List UInt8 := []
def LBX9_wayItem_11 : List UInt8 := [0x13, 0xb6, 0x00, 0x57, 0xa7, 0x00, 0x04, 0x03, 0x60, 0x36, 0x06, 0xb1]
def LRX9_wayItem_11 : List UInt8 := LBX9_wayItem_11 ++ LRX9_wayItem_12
def LBX9_wayItem_10 : List UInt8 := [0x06, 0x15, 0x05, 0x99, 0x00, 0x14, 0x2a, 0x1c, 0x1b, 0x2a, 0xb4, 0x01, 0x13, 0x2a, 0xb4, 0x01]
def LRX9_wayItem_10 : List UInt8 := LBX9_wayItem_10 ++ LRX9_wayItem_11
def LBX9_wayItem_9 : List UInt8 := [0x0a, 0x9a, 0x00, 0x2a, 0x2a, 0x1b, 0x1c, 0x1d, 0x15, 0x04, 0xb6, 0x00, 0x57, 0x36, 0x06, 0x15]
def LRX9_wayItem_9 : List UInt8 := LBX9_wayItem_9 ++ LRX9_wayItem_10
def LBX9_wayItem_8 : List UInt8 := [0x04, 0xb6, 0x01, 0x16, 0x2a, 0x10, 0x9d, 0x11, 0x03, 0xe7, 0xb6, 0x01, 0x1f, 0x2a, 0xb4, 0x01]
def LRX9_wayItem_8 : List UInt8 := LBX9_wayItem_8 ++ LRX9_wayItem_9
def LBX9_wayItem_7 : List UInt8 := [0x10, 0x6b, 0x03, 0x03, 0x03, 0xb6, 0x01, 0x22, 0x36, 0x05, 0x15, 0x05, 0x99, 0x00, 0x11, 0x2a]
def LRX9_wayItem_7 : List UInt8 := LBX9_wayItem_7 ++ LRX9_wayItem_8
def LBX9_wayItem_6 : List UInt8 := [0xb6, 0x01, 0x1f, 0x2a, 0xb4, 0x01, 0x13, 0x36, 0x04, 0x2a, 0x10, 0x62, 0x10, 0x61, 0x10, 0x63]
def LRX9_wayItem_6 : List UInt8 := LBX9_wayItem_6 ++ LRX9_wayItem_7
def LBX9_wayItem_5 : List UInt8 := [0xb6, 0x01, 0x22, 0x99, 0x00, 0x16, 0x2a, 0x04, 0xb6, 0x01, 0x16, 0x2a, 0x1d, 0x11, 0x03, 0xe7]
def LRX9_wayItem_5 : List UInt8 := LBX9_wayItem_5 ++ LRX9_wayItem_6
def LBX9_wayItem_4 : List UInt8 := [0x2a, 0xb4, 0x01, 0x13, 0x36, 0x04, 0x2a, 0x10, 0x74, 0x10, 0x6f, 0x03, 0x03, 0x03, 0x03, 0x03]
def LRX9_wayItem_4 : List UInt8 := LBX9_wayItem_4 ++ LRX9_wayItem_5
def LBX9_wayItem_3 : List UInt8 := [0x01, 0x16, 0x2a, 0x10, 0x9d, 0x11, 0x03, 0xe7, 0xb6, 0x01, 0x1f, 0x2a, 0xb4, 0x01, 0x13, 0x3e]
def LRX9_wayItem_3 : List UInt8 := LBX9_wayItem_3 ++ LRX9_wayItem_4
def LBX9_wayItem_2 : List UInt8 := [0x00, 0x3d, 0x99, 0x00, 0x0c, 0x1c, 0x1b, 0x9f, 0x00, 0x07, 0x04, 0xa7, 0x00, 0x04, 0x03, 0xb6]
def LRX9_wayItem_2 : List UInt8 := LBX9_wayItem_2 ++ LRX9_wayItem_3
def LBX9_wayItem_1 : List UInt8 := [0x01, 0x1a, 0x2a, 0xb4, 0x01, 0x13, 0x3c, 0x2a, 0xb6, 0x01, 0x1c, 0x3d, 0x2a, 0x2a, 0x1c, 0xb6]
def LRX9_wayItem_1 : List UInt8 := LBX9_wayItem_1 ++ LRX9_wayItem_2
def LBX9_wayItem_0 : List UInt8 := [0x2a, 0x04, 0xb6, 0x01, 0x16, 0x2a, 0x03, 0x2a, 0xb4, 0x00, 0x07, 0x03, 0x2e, 0x04, 0x64, 0xb6]
def LRX9_wayItem_0 : List UInt8 := LBX9_wayItem_0 ++ LRX9_wayItem_1
set_option maxRecDepth 100000 in
theorem LBX9_wayItem_eq : cX9_wayItem.data.toList = LRX9_wayItem_0 := by decide +kernel
theorem LBX9_wayItemr_0 (k : Nat) : cX9_wayItem.data.toList[0 + k]? = LRX9_wayItem_0[k]? := by rw [LBX9_wayItem_eq, Nat.zero_add]
theorem LBX9_wayItemr_1 (k : Nat) : cX9_wayItem.data.toList[16 + k]? = LRX9_wayItem_1[k]? := by
  have h := LBX9_wayItemr_0 (16 + k)
  rw [show 0 + (16 + k) = 16 + k by omega] at h
  rw [h]
  exact (List.getElem?_append_right (l₁ := LBX9_wayItem_0) (l₂ := LRX9_wayItem_1) (show 16 ≤ 16 + k by omega)).trans (congrArg (fun i => LRX9_wayItem_1[i]?) (show 16 + k - 16 = k by omega))
theorem LBX9_wayItemr_2 (k : Nat) : cX9_wayItem.data.toList[32 + k]? = LRX9_wayItem_2[k]? := by
  have h := LBX9_wayItemr_1 (16 + k)
  rw [show 16 + (16 + k) = 32 + k by omega] at h
  rw [h]
  exact (List.getElem?_append_right (l₁ := LBX9_wayItem_1) (l₂ := LRX9_wayItem_2) (show 16 ≤ 16 + k by omega)).trans (congrArg (fun i => LRX9_wayItem_2[i]?) (show 16 + k - 16 = k by omega))
theorem LBX9_wayItemr_3 (k : Nat) : cX9_wayItem.data.toList[48 + k]? = LRX9_wayItem_3[k]? := by
  have h := LBX9_wayItemr_2 (16 + k)
  rw [show 32 + (16 + k) = 48 + k by omega] at h
  rw [h]
  exact (List.getElem?_append_right (l₁ := LBX9_wayItem_2) (l₂ := LRX9_wayItem_3) (show 16 ≤ 16 + k by omega)).trans (congrArg (fun i => LRX9_wayItem_3[i]?) (show 16 + k - 16 = k by omega))
theorem LBX9_wayItemr_4 (k : Nat) : cX9_wayItem.data.toList[64 + k]? = LRX9_wayItem_4[k]? := by
  have h := LBX9_wayItemr_3 (16 + k)
  rw [show 48 + (16 + k) = 64 + k by omega] at h
  rw [h]
  exact (List.getElem?_append_right (l₁ := LBX9_wayItem_3) (l₂ := LRX9_wayItem_4) (show 16 ≤ 16 + k by omega)).trans (congrArg (fun i => LRX9_wayItem_4[i]?) (show 16 + k - 16 = k by omega))
theorem LBX9_wayItemr_5 (k : Nat) : cX9_wayItem.data.toList[80 + k]? = LRX9_wayItem_5[k]? := by
  have h := LBX9_wayItemr_4 (16 + k)
  rw [show 64 + (16 + k) = 80 + k by omega] at h
  rw [h]
  exact (List.getElem?_append_right (l₁ := LBX9_wayItem_4) (l₂ := LRX9_wayItem_5) (show 16 ≤ 16 + k by omega)).trans (congrArg (fun i => LRX9_wayItem_5[i]?) (show 16 + k - 16 = k by omega))
theorem LBX9_wayItemr_6 (k : Nat) : cX9_wayItem.data.toList[96 + k]? = LRX9_wayItem_6[k]? := by
  have h := LBX9_wayItemr_5 (16 + k)
  rw [show 80 + (16 + k) = 96 + k by omega] at h
  rw [h]
  exact (List.getElem?_append_right (l₁ := LBX9_wayItem_5) (l₂ := LRX9_wayItem_6) (show 16 ≤ 16 + k by omega)).trans (congrArg (fun i => LRX9_wayItem_6[i]?) (show 16 + k - 16 = k by omega))
theorem LBX9_wayItemr_7 (k : Nat) : cX9_wayItem.data.toList[112 + k]? = LRX9_wayItem_7[k]? := by
  have h := LBX9_wayItemr_6 (16 + k)
  rw [show 96 + (16 + k) = 112 + k by omega] at h
  rw [h]
  exact (List.getElem?_append_right (l₁ := LBX9_wayItem_6) (l₂ := LRX9_wayItem_7) (show 16 ≤ 16 + k by omega)).trans (congrArg (fun i => LRX9_wayItem_7[i]?) (show 16 + k - 16 = k by omega))
theorem LBX9_wayItemr_8 (k : Nat) : cX9_wayItem.data.toList[128 + k]? = LRX9_wayItem_8[k]? := by
  have h := LBX9_wayItemr_7 (16 + k)
  rw [show 112 + (16 + k) = 128 + k by omega] at h
  rw [h]
  exact (List.getElem?_append_right (l₁ := LBX9_wayItem_7) (l₂ := LRX9_wayItem_8) (show 16 ≤ 16 + k by omega)).trans (congrArg (fun i => LRX9_wayItem_8[i]?) (show 16 + k - 16 = k by omega))
theorem LBX9_wayItemr_9 (k : Nat) : cX9_wayItem.data.toList[144 + k]? = LRX9_wayItem_9[k]? := by
  have h := LBX9_wayItemr_8 (16 + k)
  rw [show 128 + (16 + k) = 144 + k by omega] at h
  rw [h]
  exact (List.getElem?_append_right (l₁ := LBX9_wayItem_8) (l₂ := LRX9_wayItem_9) (show 16 ≤ 16 + k by omega)).trans (congrArg (fun i => LRX9_wayItem_9[i]?) (show 16 + k - 16 = k by omega))
theorem LBX9_wayItemr_10 (k : Nat) : cX9_wayItem.data.toList[160 + k]? = LRX9_wayItem_10[k]? := by
  have h := LBX9_wayItemr_9 (16 + k)
  rw [show 144 + (16 + k) = 160 + k by omega] at h
  rw [h]
  exact (List.getElem?_append_right (l₁ := LBX9_wayItem_9) (l₂ := LRX9_wayItem_10) (show 16 ≤ 16 + k by omega)).trans (congrArg (fun i => LRX9_wayItem_10[i]?) (show 16 + k - 16 = k by omega))
theorem LBX9_wayItemr_11 (k : Nat) : cX9_wayItem.data.toList[176 + k]? = LRX9_wayItem_11[k]? := by
  have h := LBX9_wayItemr_10 (16 + k)
  rw [show 160 + (16 + k) = 176 + k by omega] at h
  rw [h]
  exact (List.getElem?_append_right (l₁ := LBX9_wayItem_10) (l₂ := LRX9_wayItem_11) (show 16 ≤ 16 + k by omega)).trans (congrArg (fun i => LRX9_wayItem_11[i]?) (show 16 + k - 16 = k by omega))
theorem dX9_wayItem_0 : decode cX9_wayItem 0 = .ok (.aload_n 0, 1) := dk_42_ (show cX9_wayItem.data.toList[0]? = some 0x2a from (LBX9_wayItemr_0 0).trans (by decide +kernel))
theorem dX9_wayItem_1 : decode cX9_wayItem 1 = .ok (.iconst 1, 1) := dk_4_ (show cX9_wayItem.data.toList[1]? = some 0x04 from (LBX9_wayItemr_0 1).trans (by decide +kernel))
theorem dX9_wayItem_2 : decode cX9_wayItem 2 = .ok (.invokevirtual 278, 3) := dk_182_ (show cX9_wayItem.data.toList[2]? = some 0xb6 from (LBX9_wayItemr_0 2).trans (by decide +kernel)) (show cX9_wayItem.data.toList[3]? = some 0x01 from (LBX9_wayItemr_0 3).trans (by decide +kernel)) (show cX9_wayItem.data.toList[4]? = some 0x16 from (LBX9_wayItemr_0 4).trans (by decide +kernel)) (by decide)
theorem dX9_wayItem_5 : decode cX9_wayItem 5 = .ok (.aload_n 0, 1) := dk_42_ (show cX9_wayItem.data.toList[5]? = some 0x2a from (LBX9_wayItemr_0 5).trans (by decide +kernel))
theorem dX9_wayItem_6 : decode cX9_wayItem 6 = .ok (.iconst 0, 1) := dk_3_ (show cX9_wayItem.data.toList[6]? = some 0x03 from (LBX9_wayItemr_0 6).trans (by decide +kernel))
theorem dX9_wayItem_7 : decode cX9_wayItem 7 = .ok (.aload_n 0, 1) := dk_42_ (show cX9_wayItem.data.toList[7]? = some 0x2a from (LBX9_wayItemr_0 7).trans (by decide +kernel))
theorem dX9_wayItem_8 : decode cX9_wayItem 8 = .ok (.getfield 7, 3) := dk_180_ (show cX9_wayItem.data.toList[8]? = some 0xb4 from (LBX9_wayItemr_0 8).trans (by decide +kernel)) (show cX9_wayItem.data.toList[9]? = some 0x00 from (LBX9_wayItemr_0 9).trans (by decide +kernel)) (show cX9_wayItem.data.toList[10]? = some 0x07 from (LBX9_wayItemr_0 10).trans (by decide +kernel)) (by decide)
theorem dX9_wayItem_11 : decode cX9_wayItem 11 = .ok (.iconst 0, 1) := dk_3_ (show cX9_wayItem.data.toList[11]? = some 0x03 from (LBX9_wayItemr_0 11).trans (by decide +kernel))
theorem dX9_wayItem_12 : decode cX9_wayItem 12 = .ok (.iaload, 1) := dk_46_ (show cX9_wayItem.data.toList[12]? = some 0x2e from (LBX9_wayItemr_0 12).trans (by decide +kernel))
theorem dX9_wayItem_13 : decode cX9_wayItem 13 = .ok (.iconst 1, 1) := dk_4_ (show cX9_wayItem.data.toList[13]? = some 0x04 from (LBX9_wayItemr_0 13).trans (by decide +kernel))
theorem dX9_wayItem_14 : decode cX9_wayItem 14 = .ok (.isub, 1) := dk_100_ (show cX9_wayItem.data.toList[14]? = some 0x64 from (LBX9_wayItemr_0 14).trans (by decide +kernel))
theorem dX9_wayItem_15 : decode cX9_wayItem 15 = .ok (.invokevirtual 282, 3) := dk_182_ (show cX9_wayItem.data.toList[15]? = some 0xb6 from (LBX9_wayItemr_0 15).trans (by decide +kernel)) (show cX9_wayItem.data.toList[16]? = some 0x01 from (LBX9_wayItemr_1 0).trans (by decide +kernel)) (show cX9_wayItem.data.toList[17]? = some 0x1a from (LBX9_wayItemr_1 1).trans (by decide +kernel)) (by decide)
theorem dX9_wayItem_18 : decode cX9_wayItem 18 = .ok (.aload_n 0, 1) := dk_42_ (show cX9_wayItem.data.toList[18]? = some 0x2a from (LBX9_wayItemr_1 2).trans (by decide +kernel))
theorem dX9_wayItem_19 : decode cX9_wayItem 19 = .ok (.getfield 275, 3) := dk_180_ (show cX9_wayItem.data.toList[19]? = some 0xb4 from (LBX9_wayItemr_1 3).trans (by decide +kernel)) (show cX9_wayItem.data.toList[20]? = some 0x01 from (LBX9_wayItemr_1 4).trans (by decide +kernel)) (show cX9_wayItem.data.toList[21]? = some 0x13 from (LBX9_wayItemr_1 5).trans (by decide +kernel)) (by decide)
theorem dX9_wayItem_22 : decode cX9_wayItem 22 = .ok (.istore_n 1, 1) := dk_60_ (show cX9_wayItem.data.toList[22]? = some 0x3c from (LBX9_wayItemr_1 6).trans (by decide +kernel))
theorem dX9_wayItem_23 : decode cX9_wayItem 23 = .ok (.aload_n 0, 1) := dk_42_ (show cX9_wayItem.data.toList[23]? = some 0x2a from (LBX9_wayItemr_1 7).trans (by decide +kernel))
theorem dX9_wayItem_24 : decode cX9_wayItem 24 = .ok (.invokevirtual 284, 3) := dk_182_ (show cX9_wayItem.data.toList[24]? = some 0xb6 from (LBX9_wayItemr_1 8).trans (by decide +kernel)) (show cX9_wayItem.data.toList[25]? = some 0x01 from (LBX9_wayItemr_1 9).trans (by decide +kernel)) (show cX9_wayItem.data.toList[26]? = some 0x1c from (LBX9_wayItemr_1 10).trans (by decide +kernel)) (by decide)
theorem dX9_wayItem_27 : decode cX9_wayItem 27 = .ok (.istore_n 2, 1) := dk_61_ (show cX9_wayItem.data.toList[27]? = some 0x3d from (LBX9_wayItemr_1 11).trans (by decide +kernel))
theorem dX9_wayItem_28 : decode cX9_wayItem 28 = .ok (.aload_n 0, 1) := dk_42_ (show cX9_wayItem.data.toList[28]? = some 0x2a from (LBX9_wayItemr_1 12).trans (by decide +kernel))
theorem dX9_wayItem_29 : decode cX9_wayItem 29 = .ok (.aload_n 0, 1) := dk_42_ (show cX9_wayItem.data.toList[29]? = some 0x2a from (LBX9_wayItemr_1 13).trans (by decide +kernel))
theorem dX9_wayItem_30 : decode cX9_wayItem 30 = .ok (.iload_n 2, 1) := dk_28_ (show cX9_wayItem.data.toList[30]? = some 0x1c from (LBX9_wayItemr_1 14).trans (by decide +kernel))
theorem dX9_wayItem_31 : decode cX9_wayItem 31 = .ok (.invokevirtual 61, 3) := dk_182_ (show cX9_wayItem.data.toList[31]? = some 0xb6 from (LBX9_wayItemr_1 15).trans (by decide +kernel)) (show cX9_wayItem.data.toList[32]? = some 0x00 from (LBX9_wayItemr_2 0).trans (by decide +kernel)) (show cX9_wayItem.data.toList[33]? = some 0x3d from (LBX9_wayItemr_2 1).trans (by decide +kernel)) (by decide)
theorem dX9_wayItem_34 : decode cX9_wayItem 34 = .ok (.ifCond .eq 12, 3) := dk_153_ (show cX9_wayItem.data.toList[34]? = some 0x99 from (LBX9_wayItemr_2 2).trans (by decide +kernel)) (show cX9_wayItem.data.toList[35]? = some 0x00 from (LBX9_wayItemr_2 3).trans (by decide +kernel)) (show cX9_wayItem.data.toList[36]? = some 0x0c from (LBX9_wayItemr_2 4).trans (by decide +kernel)) (by decide)
theorem dX9_wayItem_37 : decode cX9_wayItem 37 = .ok (.iload_n 2, 1) := dk_28_ (show cX9_wayItem.data.toList[37]? = some 0x1c from (LBX9_wayItemr_2 5).trans (by decide +kernel))
theorem dX9_wayItem_38 : decode cX9_wayItem 38 = .ok (.iload_n 1, 1) := dk_27_ (show cX9_wayItem.data.toList[38]? = some 0x1b from (LBX9_wayItemr_2 6).trans (by decide +kernel))
theorem dX9_wayItem_39 : decode cX9_wayItem 39 = .ok (.if_icmp .eq 7, 3) := dk_159_ (show cX9_wayItem.data.toList[39]? = some 0x9f from (LBX9_wayItemr_2 7).trans (by decide +kernel)) (show cX9_wayItem.data.toList[40]? = some 0x00 from (LBX9_wayItemr_2 8).trans (by decide +kernel)) (show cX9_wayItem.data.toList[41]? = some 0x07 from (LBX9_wayItemr_2 9).trans (by decide +kernel)) (by decide)
theorem dX9_wayItem_42 : decode cX9_wayItem 42 = .ok (.iconst 1, 1) := dk_4_ (show cX9_wayItem.data.toList[42]? = some 0x04 from (LBX9_wayItemr_2 10).trans (by decide +kernel))
theorem dX9_wayItem_43 : decode cX9_wayItem 43 = .ok (.goto 4, 3) := dk_167_ (show cX9_wayItem.data.toList[43]? = some 0xa7 from (LBX9_wayItemr_2 11).trans (by decide +kernel)) (show cX9_wayItem.data.toList[44]? = some 0x00 from (LBX9_wayItemr_2 12).trans (by decide +kernel)) (show cX9_wayItem.data.toList[45]? = some 0x04 from (LBX9_wayItemr_2 13).trans (by decide +kernel)) (by decide)
theorem dX9_wayItem_46 : decode cX9_wayItem 46 = .ok (.iconst 0, 1) := dk_3_ (show cX9_wayItem.data.toList[46]? = some 0x03 from (LBX9_wayItemr_2 14).trans (by decide +kernel))
theorem dX9_wayItem_47 : decode cX9_wayItem 47 = .ok (.invokevirtual 278, 3) := dk_182_ (show cX9_wayItem.data.toList[47]? = some 0xb6 from (LBX9_wayItemr_2 15).trans (by decide +kernel)) (show cX9_wayItem.data.toList[48]? = some 0x01 from (LBX9_wayItemr_3 0).trans (by decide +kernel)) (show cX9_wayItem.data.toList[49]? = some 0x16 from (LBX9_wayItemr_3 1).trans (by decide +kernel)) (by decide)
theorem dX9_wayItem_50 : decode cX9_wayItem 50 = .ok (.aload_n 0, 1) := dk_42_ (show cX9_wayItem.data.toList[50]? = some 0x2a from (LBX9_wayItemr_3 2).trans (by decide +kernel))
theorem dX9_wayItem_51 : decode cX9_wayItem 51 = .ok (.bipush (-99), 2) := dk_16_ (show cX9_wayItem.data.toList[51]? = some 0x10 from (LBX9_wayItemr_3 3).trans (by decide +kernel)) (show cX9_wayItem.data.toList[52]? = some 0x9d from (LBX9_wayItemr_3 4).trans (by decide +kernel)) (by decide)
theorem dX9_wayItem_53 : decode cX9_wayItem 53 = .ok (.sipush 999, 3) := dk_17_ (show cX9_wayItem.data.toList[53]? = some 0x11 from (LBX9_wayItemr_3 5).trans (by decide +kernel)) (show cX9_wayItem.data.toList[54]? = some 0x03 from (LBX9_wayItemr_3 6).trans (by decide +kernel)) (show cX9_wayItem.data.toList[55]? = some 0xe7 from (LBX9_wayItemr_3 7).trans (by decide +kernel)) (by decide)
theorem dX9_wayItem_56 : decode cX9_wayItem 56 = .ok (.invokevirtual 287, 3) := dk_182_ (show cX9_wayItem.data.toList[56]? = some 0xb6 from (LBX9_wayItemr_3 8).trans (by decide +kernel)) (show cX9_wayItem.data.toList[57]? = some 0x01 from (LBX9_wayItemr_3 9).trans (by decide +kernel)) (show cX9_wayItem.data.toList[58]? = some 0x1f from (LBX9_wayItemr_3 10).trans (by decide +kernel)) (by decide)
theorem dX9_wayItem_59 : decode cX9_wayItem 59 = .ok (.aload_n 0, 1) := dk_42_ (show cX9_wayItem.data.toList[59]? = some 0x2a from (LBX9_wayItemr_3 11).trans (by decide +kernel))
theorem dX9_wayItem_60 : decode cX9_wayItem 60 = .ok (.getfield 275, 3) := dk_180_ (show cX9_wayItem.data.toList[60]? = some 0xb4 from (LBX9_wayItemr_3 12).trans (by decide +kernel)) (show cX9_wayItem.data.toList[61]? = some 0x01 from (LBX9_wayItemr_3 13).trans (by decide +kernel)) (show cX9_wayItem.data.toList[62]? = some 0x13 from (LBX9_wayItemr_3 14).trans (by decide +kernel)) (by decide)
theorem dX9_wayItem_63 : decode cX9_wayItem 63 = .ok (.istore_n 3, 1) := dk_62_ (show cX9_wayItem.data.toList[63]? = some 0x3e from (LBX9_wayItemr_3 15).trans (by decide +kernel))
theorem dX9_wayItem_64 : decode cX9_wayItem 64 = .ok (.aload_n 0, 1) := dk_42_ (show cX9_wayItem.data.toList[64]? = some 0x2a from (LBX9_wayItemr_4 0).trans (by decide +kernel))
theorem dX9_wayItem_65 : decode cX9_wayItem 65 = .ok (.getfield 275, 3) := dk_180_ (show cX9_wayItem.data.toList[65]? = some 0xb4 from (LBX9_wayItemr_4 1).trans (by decide +kernel)) (show cX9_wayItem.data.toList[66]? = some 0x01 from (LBX9_wayItemr_4 2).trans (by decide +kernel)) (show cX9_wayItem.data.toList[67]? = some 0x13 from (LBX9_wayItemr_4 3).trans (by decide +kernel)) (by decide)
theorem dX9_wayItem_68 : decode cX9_wayItem 68 = .ok (.istore 4, 2) := dk_54_ (show cX9_wayItem.data.toList[68]? = some 0x36 from (LBX9_wayItemr_4 4).trans (by decide +kernel)) (show cX9_wayItem.data.toList[69]? = some 0x04 from (LBX9_wayItemr_4 5).trans (by decide +kernel)) (by decide)
theorem dX9_wayItem_70 : decode cX9_wayItem 70 = .ok (.aload_n 0, 1) := dk_42_ (show cX9_wayItem.data.toList[70]? = some 0x2a from (LBX9_wayItemr_4 6).trans (by decide +kernel))
theorem dX9_wayItem_71 : decode cX9_wayItem 71 = .ok (.bipush 116, 2) := dk_16_ (show cX9_wayItem.data.toList[71]? = some 0x10 from (LBX9_wayItemr_4 7).trans (by decide +kernel)) (show cX9_wayItem.data.toList[72]? = some 0x74 from (LBX9_wayItemr_4 8).trans (by decide +kernel)) (by decide)
theorem dX9_wayItem_73 : decode cX9_wayItem 73 = .ok (.bipush 111, 2) := dk_16_ (show cX9_wayItem.data.toList[73]? = some 0x10 from (LBX9_wayItemr_4 9).trans (by decide +kernel)) (show cX9_wayItem.data.toList[74]? = some 0x6f from (LBX9_wayItemr_4 10).trans (by decide +kernel)) (by decide)
theorem dX9_wayItem_75 : decode cX9_wayItem 75 = .ok (.iconst 0, 1) := dk_3_ (show cX9_wayItem.data.toList[75]? = some 0x03 from (LBX9_wayItemr_4 11).trans (by decide +kernel))
theorem dX9_wayItem_76 : decode cX9_wayItem 76 = .ok (.iconst 0, 1) := dk_3_ (show cX9_wayItem.data.toList[76]? = some 0x03 from (LBX9_wayItemr_4 12).trans (by decide +kernel))
theorem dX9_wayItem_77 : decode cX9_wayItem 77 = .ok (.iconst 0, 1) := dk_3_ (show cX9_wayItem.data.toList[77]? = some 0x03 from (LBX9_wayItemr_4 13).trans (by decide +kernel))
theorem dX9_wayItem_78 : decode cX9_wayItem 78 = .ok (.iconst 0, 1) := dk_3_ (show cX9_wayItem.data.toList[78]? = some 0x03 from (LBX9_wayItemr_4 14).trans (by decide +kernel))
theorem dX9_wayItem_79 : decode cX9_wayItem 79 = .ok (.iconst 0, 1) := dk_3_ (show cX9_wayItem.data.toList[79]? = some 0x03 from (LBX9_wayItemr_4 15).trans (by decide +kernel))
theorem dX9_wayItem_80 : decode cX9_wayItem 80 = .ok (.invokevirtual 290, 3) := dk_182_ (show cX9_wayItem.data.toList[80]? = some 0xb6 from (LBX9_wayItemr_5 0).trans (by decide +kernel)) (show cX9_wayItem.data.toList[81]? = some 0x01 from (LBX9_wayItemr_5 1).trans (by decide +kernel)) (show cX9_wayItem.data.toList[82]? = some 0x22 from (LBX9_wayItemr_5 2).trans (by decide +kernel)) (by decide)
theorem dX9_wayItem_83 : decode cX9_wayItem 83 = .ok (.ifCond .eq 22, 3) := dk_153_ (show cX9_wayItem.data.toList[83]? = some 0x99 from (LBX9_wayItemr_5 3).trans (by decide +kernel)) (show cX9_wayItem.data.toList[84]? = some 0x00 from (LBX9_wayItemr_5 4).trans (by decide +kernel)) (show cX9_wayItem.data.toList[85]? = some 0x16 from (LBX9_wayItemr_5 5).trans (by decide +kernel)) (by decide)
theorem dX9_wayItem_86 : decode cX9_wayItem 86 = .ok (.aload_n 0, 1) := dk_42_ (show cX9_wayItem.data.toList[86]? = some 0x2a from (LBX9_wayItemr_5 6).trans (by decide +kernel))
theorem dX9_wayItem_87 : decode cX9_wayItem 87 = .ok (.iconst 1, 1) := dk_4_ (show cX9_wayItem.data.toList[87]? = some 0x04 from (LBX9_wayItemr_5 7).trans (by decide +kernel))
theorem dX9_wayItem_88 : decode cX9_wayItem 88 = .ok (.invokevirtual 278, 3) := dk_182_ (show cX9_wayItem.data.toList[88]? = some 0xb6 from (LBX9_wayItemr_5 8).trans (by decide +kernel)) (show cX9_wayItem.data.toList[89]? = some 0x01 from (LBX9_wayItemr_5 9).trans (by decide +kernel)) (show cX9_wayItem.data.toList[90]? = some 0x16 from (LBX9_wayItemr_5 10).trans (by decide +kernel)) (by decide)
theorem dX9_wayItem_91 : decode cX9_wayItem 91 = .ok (.aload_n 0, 1) := dk_42_ (show cX9_wayItem.data.toList[91]? = some 0x2a from (LBX9_wayItemr_5 11).trans (by decide +kernel))
theorem dX9_wayItem_92 : decode cX9_wayItem 92 = .ok (.iload_n 3, 1) := dk_29_ (show cX9_wayItem.data.toList[92]? = some 0x1d from (LBX9_wayItemr_5 12).trans (by decide +kernel))
theorem dX9_wayItem_93 : decode cX9_wayItem 93 = .ok (.sipush 999, 3) := dk_17_ (show cX9_wayItem.data.toList[93]? = some 0x11 from (LBX9_wayItemr_5 13).trans (by decide +kernel)) (show cX9_wayItem.data.toList[94]? = some 0x03 from (LBX9_wayItemr_5 14).trans (by decide +kernel)) (show cX9_wayItem.data.toList[95]? = some 0xe7 from (LBX9_wayItemr_5 15).trans (by decide +kernel)) (by decide)
theorem dX9_wayItem_96 : decode cX9_wayItem 96 = .ok (.invokevirtual 287, 3) := dk_182_ (show cX9_wayItem.data.toList[96]? = some 0xb6 from (LBX9_wayItemr_6 0).trans (by decide +kernel)) (show cX9_wayItem.data.toList[97]? = some 0x01 from (LBX9_wayItemr_6 1).trans (by decide +kernel)) (show cX9_wayItem.data.toList[98]? = some 0x1f from (LBX9_wayItemr_6 2).trans (by decide +kernel)) (by decide)
theorem dX9_wayItem_99 : decode cX9_wayItem 99 = .ok (.aload_n 0, 1) := dk_42_ (show cX9_wayItem.data.toList[99]? = some 0x2a from (LBX9_wayItemr_6 3).trans (by decide +kernel))
theorem dX9_wayItem_100 : decode cX9_wayItem 100 = .ok (.getfield 275, 3) := dk_180_ (show cX9_wayItem.data.toList[100]? = some 0xb4 from (LBX9_wayItemr_6 4).trans (by decide +kernel)) (show cX9_wayItem.data.toList[101]? = some 0x01 from (LBX9_wayItemr_6 5).trans (by decide +kernel)) (show cX9_wayItem.data.toList[102]? = some 0x13 from (LBX9_wayItemr_6 6).trans (by decide +kernel)) (by decide)
theorem dX9_wayItem_103 : decode cX9_wayItem 103 = .ok (.istore 4, 2) := dk_54_ (show cX9_wayItem.data.toList[103]? = some 0x36 from (LBX9_wayItemr_6 7).trans (by decide +kernel)) (show cX9_wayItem.data.toList[104]? = some 0x04 from (LBX9_wayItemr_6 8).trans (by decide +kernel)) (by decide)
theorem dX9_wayItem_105 : decode cX9_wayItem 105 = .ok (.aload_n 0, 1) := dk_42_ (show cX9_wayItem.data.toList[105]? = some 0x2a from (LBX9_wayItemr_6 9).trans (by decide +kernel))
theorem dX9_wayItem_106 : decode cX9_wayItem 106 = .ok (.bipush 98, 2) := dk_16_ (show cX9_wayItem.data.toList[106]? = some 0x10 from (LBX9_wayItemr_6 10).trans (by decide +kernel)) (show cX9_wayItem.data.toList[107]? = some 0x62 from (LBX9_wayItemr_6 11).trans (by decide +kernel)) (by decide)
theorem dX9_wayItem_108 : decode cX9_wayItem 108 = .ok (.bipush 97, 2) := dk_16_ (show cX9_wayItem.data.toList[108]? = some 0x10 from (LBX9_wayItemr_6 12).trans (by decide +kernel)) (show cX9_wayItem.data.toList[109]? = some 0x61 from (LBX9_wayItemr_6 13).trans (by decide +kernel)) (by decide)
theorem dX9_wayItem_110 : decode cX9_wayItem 110 = .ok (.bipush 99, 2) := dk_16_ (show cX9_wayItem.data.toList[110]? = some 0x10 from (LBX9_wayItemr_6 14).trans (by decide +kernel)) (show cX9_wayItem.data.toList[111]? = some 0x63 from (LBX9_wayItemr_6 15).trans (by decide +kernel)) (by decide)
theorem dX9_wayItem_112 : decode cX9_wayItem 112 = .ok (.bipush 107, 2) := dk_16_ (show cX9_wayItem.data.toList[112]? = some 0x10 from (LBX9_wayItemr_7 0).trans (by decide +kernel)) (show cX9_wayItem.data.toList[113]? = some 0x6b from (LBX9_wayItemr_7 1).trans (by decide +kernel)) (by decide)
theorem dX9_wayItem_114 : decode cX9_wayItem 114 = .ok (.iconst 0, 1) := dk_3_ (show cX9_wayItem.data.toList[114]? = some 0x03 from (LBX9_wayItemr_7 2).trans (by decide +kernel))
theorem dX9_wayItem_115 : decode cX9_wayItem 115 = .ok (.iconst 0, 1) := dk_3_ (show cX9_wayItem.data.toList[115]? = some 0x03 from (LBX9_wayItemr_7 3).trans (by decide +kernel))
theorem dX9_wayItem_116 : decode cX9_wayItem 116 = .ok (.iconst 0, 1) := dk_3_ (show cX9_wayItem.data.toList[116]? = some 0x03 from (LBX9_wayItemr_7 4).trans (by decide +kernel))
theorem dX9_wayItem_117 : decode cX9_wayItem 117 = .ok (.invokevirtual 290, 3) := dk_182_ (show cX9_wayItem.data.toList[117]? = some 0xb6 from (LBX9_wayItemr_7 5).trans (by decide +kernel)) (show cX9_wayItem.data.toList[118]? = some 0x01 from (LBX9_wayItemr_7 6).trans (by decide +kernel)) (show cX9_wayItem.data.toList[119]? = some 0x22 from (LBX9_wayItemr_7 7).trans (by decide +kernel)) (by decide)
theorem dX9_wayItem_120 : decode cX9_wayItem 120 = .ok (.istore 5, 2) := dk_54_ (show cX9_wayItem.data.toList[120]? = some 0x36 from (LBX9_wayItemr_7 8).trans (by decide +kernel)) (show cX9_wayItem.data.toList[121]? = some 0x05 from (LBX9_wayItemr_7 9).trans (by decide +kernel)) (by decide)
theorem dX9_wayItem_122 : decode cX9_wayItem 122 = .ok (.iload 5, 2) := dk_21_ (show cX9_wayItem.data.toList[122]? = some 0x15 from (LBX9_wayItemr_7 10).trans (by decide +kernel)) (show cX9_wayItem.data.toList[123]? = some 0x05 from (LBX9_wayItemr_7 11).trans (by decide +kernel)) (by decide)
theorem dX9_wayItem_124 : decode cX9_wayItem 124 = .ok (.ifCond .eq 17, 3) := dk_153_ (show cX9_wayItem.data.toList[124]? = some 0x99 from (LBX9_wayItemr_7 12).trans (by decide +kernel)) (show cX9_wayItem.data.toList[125]? = some 0x00 from (LBX9_wayItemr_7 13).trans (by decide +kernel)) (show cX9_wayItem.data.toList[126]? = some 0x11 from (LBX9_wayItemr_7 14).trans (by decide +kernel)) (by decide)
theorem dX9_wayItem_127 : decode cX9_wayItem 127 = .ok (.aload_n 0, 1) := dk_42_ (show cX9_wayItem.data.toList[127]? = some 0x2a from (LBX9_wayItemr_7 15).trans (by decide +kernel))
theorem dX9_wayItem_128 : decode cX9_wayItem 128 = .ok (.iconst 1, 1) := dk_4_ (show cX9_wayItem.data.toList[128]? = some 0x04 from (LBX9_wayItemr_8 0).trans (by decide +kernel))
theorem dX9_wayItem_129 : decode cX9_wayItem 129 = .ok (.invokevirtual 278, 3) := dk_182_ (show cX9_wayItem.data.toList[129]? = some 0xb6 from (LBX9_wayItemr_8 1).trans (by decide +kernel)) (show cX9_wayItem.data.toList[130]? = some 0x01 from (LBX9_wayItemr_8 2).trans (by decide +kernel)) (show cX9_wayItem.data.toList[131]? = some 0x16 from (LBX9_wayItemr_8 3).trans (by decide +kernel)) (by decide)
theorem dX9_wayItem_132 : decode cX9_wayItem 132 = .ok (.aload_n 0, 1) := dk_42_ (show cX9_wayItem.data.toList[132]? = some 0x2a from (LBX9_wayItemr_8 4).trans (by decide +kernel))
theorem dX9_wayItem_133 : decode cX9_wayItem 133 = .ok (.bipush (-99), 2) := dk_16_ (show cX9_wayItem.data.toList[133]? = some 0x10 from (LBX9_wayItemr_8 5).trans (by decide +kernel)) (show cX9_wayItem.data.toList[134]? = some 0x9d from (LBX9_wayItemr_8 6).trans (by decide +kernel)) (by decide)
theorem dX9_wayItem_135 : decode cX9_wayItem 135 = .ok (.sipush 999, 3) := dk_17_ (show cX9_wayItem.data.toList[135]? = some 0x11 from (LBX9_wayItemr_8 7).trans (by decide +kernel)) (show cX9_wayItem.data.toList[136]? = some 0x03 from (LBX9_wayItemr_8 8).trans (by decide +kernel)) (show cX9_wayItem.data.toList[137]? = some 0xe7 from (LBX9_wayItemr_8 9).trans (by decide +kernel)) (by decide)
theorem dX9_wayItem_138 : decode cX9_wayItem 138 = .ok (.invokevirtual 287, 3) := dk_182_ (show cX9_wayItem.data.toList[138]? = some 0xb6 from (LBX9_wayItemr_8 10).trans (by decide +kernel)) (show cX9_wayItem.data.toList[139]? = some 0x01 from (LBX9_wayItemr_8 11).trans (by decide +kernel)) (show cX9_wayItem.data.toList[140]? = some 0x1f from (LBX9_wayItemr_8 12).trans (by decide +kernel)) (by decide)
theorem dX9_wayItem_141 : decode cX9_wayItem 141 = .ok (.aload_n 0, 1) := dk_42_ (show cX9_wayItem.data.toList[141]? = some 0x2a from (LBX9_wayItemr_8 13).trans (by decide +kernel))
theorem dX9_wayItem_142 : decode cX9_wayItem 142 = .ok (.getfield 266, 3) := dk_180_ (show cX9_wayItem.data.toList[142]? = some 0xb4 from (LBX9_wayItemr_8 14).trans (by decide +kernel)) (show cX9_wayItem.data.toList[143]? = some 0x01 from (LBX9_wayItemr_8 15).trans (by decide +kernel)) (show cX9_wayItem.data.toList[144]? = some 0x0a from (LBX9_wayItemr_9 0).trans (by decide +kernel)) (by decide)
theorem dX9_wayItem_145 : decode cX9_wayItem 145 = .ok (.ifCond .ne 42, 3) := dk_154_ (show cX9_wayItem.data.toList[145]? = some 0x9a from (LBX9_wayItemr_9 1).trans (by decide +kernel)) (show cX9_wayItem.data.toList[146]? = some 0x00 from (LBX9_wayItemr_9 2).trans (by decide +kernel)) (show cX9_wayItem.data.toList[147]? = some 0x2a from (LBX9_wayItemr_9 3).trans (by decide +kernel)) (by decide)
theorem dX9_wayItem_148 : decode cX9_wayItem 148 = .ok (.aload_n 0, 1) := dk_42_ (show cX9_wayItem.data.toList[148]? = some 0x2a from (LBX9_wayItemr_9 4).trans (by decide +kernel))
theorem dX9_wayItem_149 : decode cX9_wayItem 149 = .ok (.iload_n 1, 1) := dk_27_ (show cX9_wayItem.data.toList[149]? = some 0x1b from (LBX9_wayItemr_9 5).trans (by decide +kernel))
theorem dX9_wayItem_150 : decode cX9_wayItem 150 = .ok (.iload_n 2, 1) := dk_28_ (show cX9_wayItem.data.toList[150]? = some 0x1c from (LBX9_wayItemr_9 6).trans (by decide +kernel))
theorem dX9_wayItem_151 : decode cX9_wayItem 151 = .ok (.iload_n 3, 1) := dk_29_ (show cX9_wayItem.data.toList[151]? = some 0x1d from (LBX9_wayItemr_9 7).trans (by decide +kernel))
theorem dX9_wayItem_152 : decode cX9_wayItem 152 = .ok (.iload 4, 2) := dk_21_ (show cX9_wayItem.data.toList[152]? = some 0x15 from (LBX9_wayItemr_9 8).trans (by decide +kernel)) (show cX9_wayItem.data.toList[153]? = some 0x04 from (LBX9_wayItemr_9 9).trans (by decide +kernel)) (by decide)
theorem dX9_wayItem_154 : decode cX9_wayItem 154 = .ok (.invokevirtual 87, 3) := dk_182_ (show cX9_wayItem.data.toList[154]? = some 0xb6 from (LBX9_wayItemr_9 10).trans (by decide +kernel)) (show cX9_wayItem.data.toList[155]? = some 0x00 from (LBX9_wayItemr_9 11).trans (by decide +kernel)) (show cX9_wayItem.data.toList[156]? = some 0x57 from (LBX9_wayItemr_9 12).trans (by decide +kernel)) (by decide)
theorem dX9_wayItem_157 : decode cX9_wayItem 157 = .ok (.istore 6, 2) := dk_54_ (show cX9_wayItem.data.toList[157]? = some 0x36 from (LBX9_wayItemr_9 13).trans (by decide +kernel)) (show cX9_wayItem.data.toList[158]? = some 0x06 from (LBX9_wayItemr_9 14).trans (by decide +kernel)) (by decide)
theorem dX9_wayItem_159 : decode cX9_wayItem 159 = .ok (.iload 6, 2) := dk_21_ (show cX9_wayItem.data.toList[159]? = some 0x15 from (LBX9_wayItemr_9 15).trans (by decide +kernel)) (show cX9_wayItem.data.toList[160]? = some 0x06 from (LBX9_wayItemr_10 0).trans (by decide +kernel)) (by decide)
theorem dX9_wayItem_161 : decode cX9_wayItem 161 = .ok (.iload 5, 2) := dk_21_ (show cX9_wayItem.data.toList[161]? = some 0x15 from (LBX9_wayItemr_10 1).trans (by decide +kernel)) (show cX9_wayItem.data.toList[162]? = some 0x05 from (LBX9_wayItemr_10 2).trans (by decide +kernel)) (by decide)
theorem dX9_wayItem_163 : decode cX9_wayItem 163 = .ok (.ifCond .eq 20, 3) := dk_153_ (show cX9_wayItem.data.toList[163]? = some 0x99 from (LBX9_wayItemr_10 3).trans (by decide +kernel)) (show cX9_wayItem.data.toList[164]? = some 0x00 from (LBX9_wayItemr_10 4).trans (by decide +kernel)) (show cX9_wayItem.data.toList[165]? = some 0x14 from (LBX9_wayItemr_10 5).trans (by decide +kernel)) (by decide)
theorem dX9_wayItem_166 : decode cX9_wayItem 166 = .ok (.aload_n 0, 1) := dk_42_ (show cX9_wayItem.data.toList[166]? = some 0x2a from (LBX9_wayItemr_10 6).trans (by decide +kernel))
theorem dX9_wayItem_167 : decode cX9_wayItem 167 = .ok (.iload_n 2, 1) := dk_28_ (show cX9_wayItem.data.toList[167]? = some 0x1c from (LBX9_wayItemr_10 7).trans (by decide +kernel))
theorem dX9_wayItem_168 : decode cX9_wayItem 168 = .ok (.iload_n 1, 1) := dk_27_ (show cX9_wayItem.data.toList[168]? = some 0x1b from (LBX9_wayItemr_10 8).trans (by decide +kernel))
theorem dX9_wayItem_169 : decode cX9_wayItem 169 = .ok (.aload_n 0, 1) := dk_42_ (show cX9_wayItem.data.toList[169]? = some 0x2a from (LBX9_wayItemr_10 9).trans (by decide +kernel))
theorem dX9_wayItem_170 : decode cX9_wayItem 170 = .ok (.getfield 275, 3) := dk_180_ (show cX9_wayItem.data.toList[170]? = some 0xb4 from (LBX9_wayItemr_10 10).trans (by decide +kernel)) (show cX9_wayItem.data.toList[171]? = some 0x01 from (LBX9_wayItemr_10 11).trans (by decide +kernel)) (show cX9_wayItem.data.toList[172]? = some 0x13 from (LBX9_wayItemr_10 12).trans (by decide +kernel)) (by decide)
theorem dX9_wayItem_173 : decode cX9_wayItem 173 = .ok (.aload_n 0, 1) := dk_42_ (show cX9_wayItem.data.toList[173]? = some 0x2a from (LBX9_wayItemr_10 13).trans (by decide +kernel))
theorem dX9_wayItem_174 : decode cX9_wayItem 174 = .ok (.getfield 275, 3) := dk_180_ (show cX9_wayItem.data.toList[174]? = some 0xb4 from (LBX9_wayItemr_10 14).trans (by decide +kernel)) (show cX9_wayItem.data.toList[175]? = some 0x01 from (LBX9_wayItemr_10 15).trans (by decide +kernel)) (show cX9_wayItem.data.toList[176]? = some 0x13 from (LBX9_wayItemr_11 0).trans (by decide +kernel)) (by decide)
theorem dX9_wayItem_177 : decode cX9_wayItem 177 = .ok (.invokevirtual 87, 3) := dk_182_ (show cX9_wayItem.data.toList[177]? = some 0xb6 from (LBX9_wayItemr_11 1).trans (by decide +kernel)) (show cX9_wayItem.data.toList[178]? = some 0x00 from (LBX9_wayItemr_11 2).trans (by decide +kernel)) (show cX9_wayItem.data.toList[179]? = some 0x57 from (LBX9_wayItemr_11 3).trans (by decide +kernel)) (by decide)
theorem dX9_wayItem_180 : decode cX9_wayItem 180 = .ok (.goto 4, 3) := dk_167_ (show cX9_wayItem.data.toList[180]? = some 0xa7 from (LBX9_wayItemr_11 4).trans (by decide +kernel)) (show cX9_wayItem.data.toList[181]? = some 0x00 from (LBX9_wayItemr_11 5).trans (by decide +kernel)) (show cX9_wayItem.data.toList[182]? = some 0x04 from (LBX9_wayItemr_11 6).trans (by decide +kernel)) (by decide)
theorem dX9_wayItem_183 : decode cX9_wayItem 183 = .ok (.iconst 0, 1) := dk_3_ (show cX9_wayItem.data.toList[183]? = some 0x03 from (LBX9_wayItemr_11 7).trans (by decide +kernel))
theorem dX9_wayItem_184 : decode cX9_wayItem 184 = .ok (.iadd, 1) := dk_96_ (show cX9_wayItem.data.toList[184]? = some 0x60 from (LBX9_wayItemr_11 8).trans (by decide +kernel))
theorem dX9_wayItem_185 : decode cX9_wayItem 185 = .ok (.istore 6, 2) := dk_54_ (show cX9_wayItem.data.toList[185]? = some 0x36 from (LBX9_wayItemr_11 9).trans (by decide +kernel)) (show cX9_wayItem.data.toList[186]? = some 0x06 from (LBX9_wayItemr_11 10).trans (by decide +kernel)) (by decide)
theorem dX9_wayItem_187 : decode cX9_wayItem 187 = .ok (.return_, 1) := dk_177_ (show cX9_wayItem.data.toList[187]? = some 0xb1 from (LBX9_wayItemr_11 11).trans (by decide +kernel))
def LRX9_walkItem_16 : List UInt8 := []
def LBX9_walkItem_15 : List UInt8 := [0x00, 0x28, 0x15, 0x05, 0x2e, 0x4f, 0x84, 0x05, 0x01, 0xa7, 0xff, 0xe4, 0xb1]
def LRX9_walkItem_15 : List UInt8 := LBX9_walkItem_15 ++ LRX9_walkItem_16
def LBX9_walkItem_14 : List UInt8 := [0xa2, 0x00, 0x1c, 0x2a, 0xb4, 0x00, 0x07, 0x15, 0x04, 0x06, 0x60, 0x15, 0x05, 0x60, 0x2a, 0xb4]
def LRX9_walkItem_14 : List UInt8 := LBX9_walkItem_14 ++ LRX9_walkItem_15
def LBX9_walkItem_13 : List UInt8 := [0x36, 0x04, 0x2a, 0xb4, 0x00, 0x07, 0x15, 0x04, 0x1b, 0x4f, 0x05, 0x36, 0x05, 0x15, 0x05, 0x1b]
def LRX9_walkItem_13 : List UInt8 := LBX9_walkItem_13 ++ LRX9_walkItem_14
def LBX9_walkItem_12 : List UInt8 := [0x28, 0x03, 0x2e, 0x2a, 0xb4, 0x00, 0x28, 0x04, 0x2e, 0x1c, 0x1d, 0xb6, 0x00, 0xc4, 0x68, 0x60]
def LRX9_walkItem_12 : List UInt8 := LBX9_walkItem_12 ++ LRX9_walkItem_13
def LBX9_walkItem_11 : List UInt8 := [0x2a, 0xb4, 0x01, 0x0a, 0x9a, 0x00, 0x48, 0x11, 0x01, 0x79, 0x10, 0x09, 0x2a, 0x2a, 0xb4, 0x00]
def LRX9_walkItem_11 : List UInt8 := LBX9_walkItem_11 ++ LRX9_walkItem_12
def LBX9_walkItem_10 : List UInt8 := [0x04, 0xb6, 0x01, 0x16, 0x2a, 0x03, 0x10, 0x63, 0xb6, 0x01, 0x1a, 0x2a, 0xb4, 0x01, 0x13, 0x3e]
def LRX9_walkItem_10 : List UInt8 := LBX9_walkItem_10 ++ LRX9_walkItem_11
def LBX9_walkItem_9 : List UInt8 := [0x6c, 0x10, 0x61, 0x10, 0x63, 0x10, 0x6b, 0x03, 0x03, 0xb6, 0x01, 0x22, 0x99, 0x00, 0x14, 0x2a]
def LRX9_walkItem_9 : List UInt8 := LBX9_walkItem_9 ++ LRX9_walkItem_10
def LBX9_walkItem_8 : List UInt8 := [0x27, 0x0f, 0xb6, 0x01, 0x1f, 0x2a, 0xb4, 0x01, 0x13, 0x3d, 0x03, 0x3e, 0x2a, 0x10, 0x73, 0x10]
def LRX9_walkItem_8 : List UInt8 := LBX9_walkItem_8 ++ LRX9_walkItem_9
def LBX9_walkItem_7 : List UInt8 := [0x6c, 0x03, 0x03, 0x03, 0x03, 0xb6, 0x01, 0x22, 0xb6, 0x01, 0x16, 0x2a, 0x11, 0xd8, 0xf1, 0x11]
def LRX9_walkItem_7 : List UInt8 := LBX9_walkItem_7 ++ LRX9_walkItem_8
def LBX9_walkItem_6 : List UInt8 := [0x1b, 0x1c, 0x4f, 0x84, 0x01, 0x01, 0xa7, 0xff, 0xb0, 0x2a, 0x2a, 0x10, 0x61, 0x10, 0x6c, 0x10]
def LRX9_walkItem_6 : List UInt8 := LBX9_walkItem_6 ++ LRX9_walkItem_7
def LBX9_walkItem_5 : List UInt8 := [0x2e, 0x9f, 0x00, 0x07, 0x04, 0xa7, 0x00, 0x04, 0x03, 0xb6, 0x01, 0x16, 0x2a, 0xb4, 0x00, 0x28]
def LRX9_walkItem_5 : List UInt8 := LBX9_walkItem_5 ++ LRX9_walkItem_6
def LBX9_walkItem_4 : List UInt8 := [0x3d, 0x99, 0x00, 0x17, 0x1b, 0x99, 0x00, 0x0f, 0x1c, 0x2a, 0xb4, 0x00, 0x28, 0x1b, 0x04, 0x64]
def LRX9_walkItem_4 : List UInt8 := LBX9_walkItem_4 ++ LRX9_walkItem_5
def LBX9_walkItem_3 : List UInt8 := [0xb8, 0x01, 0x07, 0x99, 0x00, 0x36, 0x2a, 0xb6, 0x01, 0x1c, 0x3d, 0x2a, 0x2a, 0x1c, 0xb6, 0x00]
def LRX9_walkItem_3 : List UInt8 := LBX9_walkItem_3 ++ LRX9_walkItem_4
def LBX9_walkItem_2 : List UInt8 := [0xa2, 0x00, 0x49, 0x1b, 0x05, 0xa1, 0x00, 0x11, 0x2a, 0x2a, 0xb4, 0x00, 0xfe, 0xb6, 0x01, 0x01]
def LRX9_walkItem_2 : List UInt8 := LBX9_walkItem_2 ++ LRX9_walkItem_3
def LBX9_walkItem_1 : List UInt8 := [0x03, 0xb6, 0x01, 0x16, 0x03, 0x3c, 0x2a, 0xb4, 0x01, 0x0a, 0x9a, 0x00, 0x4f, 0x1b, 0x10, 0x06]
def LRX9_walkItem_1 : List UInt8 := LBX9_walkItem_1 ++ LRX9_walkItem_2
def LBX9_walkItem_0 : List UInt8 := [0x2a, 0x2a, 0xb4, 0x00, 0x07, 0x05, 0x2e, 0x10, 0x08, 0xa2, 0x00, 0x07, 0x04, 0xa7, 0x00, 0x04]
def LRX9_walkItem_0 : List UInt8 := LBX9_walkItem_0 ++ LRX9_walkItem_1
set_option maxRecDepth 100000 in
theorem LBX9_walkItem_eq : cX9_walkItem.data.toList = LRX9_walkItem_0 := by decide +kernel
theorem LBX9_walkItemr_0 (k : Nat) : cX9_walkItem.data.toList[0 + k]? = LRX9_walkItem_0[k]? := by rw [LBX9_walkItem_eq, Nat.zero_add]
theorem LBX9_walkItemr_1 (k : Nat) : cX9_walkItem.data.toList[16 + k]? = LRX9_walkItem_1[k]? := by
  have h := LBX9_walkItemr_0 (16 + k)
  rw [show 0 + (16 + k) = 16 + k by omega] at h
  rw [h]
  exact (List.getElem?_append_right (l₁ := LBX9_walkItem_0) (l₂ := LRX9_walkItem_1) (show 16 ≤ 16 + k by omega)).trans (congrArg (fun i => LRX9_walkItem_1[i]?) (show 16 + k - 16 = k by omega))
theorem LBX9_walkItemr_2 (k : Nat) : cX9_walkItem.data.toList[32 + k]? = LRX9_walkItem_2[k]? := by
  have h := LBX9_walkItemr_1 (16 + k)
  rw [show 16 + (16 + k) = 32 + k by omega] at h
  rw [h]
  exact (List.getElem?_append_right (l₁ := LBX9_walkItem_1) (l₂ := LRX9_walkItem_2) (show 16 ≤ 16 + k by omega)).trans (congrArg (fun i => LRX9_walkItem_2[i]?) (show 16 + k - 16 = k by omega))
theorem LBX9_walkItemr_3 (k : Nat) : cX9_walkItem.data.toList[48 + k]? = LRX9_walkItem_3[k]? := by
  have h := LBX9_walkItemr_2 (16 + k)
  rw [show 32 + (16 + k) = 48 + k by omega] at h
  rw [h]
  exact (List.getElem?_append_right (l₁ := LBX9_walkItem_2) (l₂ := LRX9_walkItem_3) (show 16 ≤ 16 + k by omega)).trans (congrArg (fun i => LRX9_walkItem_3[i]?) (show 16 + k - 16 = k by omega))
theorem LBX9_walkItemr_4 (k : Nat) : cX9_walkItem.data.toList[64 + k]? = LRX9_walkItem_4[k]? := by
  have h := LBX9_walkItemr_3 (16 + k)
  rw [show 48 + (16 + k) = 64 + k by omega] at h
  rw [h]
  exact (List.getElem?_append_right (l₁ := LBX9_walkItem_3) (l₂ := LRX9_walkItem_4) (show 16 ≤ 16 + k by omega)).trans (congrArg (fun i => LRX9_walkItem_4[i]?) (show 16 + k - 16 = k by omega))
theorem LBX9_walkItemr_5 (k : Nat) : cX9_walkItem.data.toList[80 + k]? = LRX9_walkItem_5[k]? := by
  have h := LBX9_walkItemr_4 (16 + k)
  rw [show 64 + (16 + k) = 80 + k by omega] at h
  rw [h]
  exact (List.getElem?_append_right (l₁ := LBX9_walkItem_4) (l₂ := LRX9_walkItem_5) (show 16 ≤ 16 + k by omega)).trans (congrArg (fun i => LRX9_walkItem_5[i]?) (show 16 + k - 16 = k by omega))
theorem LBX9_walkItemr_6 (k : Nat) : cX9_walkItem.data.toList[96 + k]? = LRX9_walkItem_6[k]? := by
  have h := LBX9_walkItemr_5 (16 + k)
  rw [show 80 + (16 + k) = 96 + k by omega] at h
  rw [h]
  exact (List.getElem?_append_right (l₁ := LBX9_walkItem_5) (l₂ := LRX9_walkItem_6) (show 16 ≤ 16 + k by omega)).trans (congrArg (fun i => LRX9_walkItem_6[i]?) (show 16 + k - 16 = k by omega))
theorem LBX9_walkItemr_7 (k : Nat) : cX9_walkItem.data.toList[112 + k]? = LRX9_walkItem_7[k]? := by
  have h := LBX9_walkItemr_6 (16 + k)
  rw [show 96 + (16 + k) = 112 + k by omega] at h
  rw [h]
  exact (List.getElem?_append_right (l₁ := LBX9_walkItem_6) (l₂ := LRX9_walkItem_7) (show 16 ≤ 16 + k by omega)).trans (congrArg (fun i => LRX9_walkItem_7[i]?) (show 16 + k - 16 = k by omega))
theorem LBX9_walkItemr_8 (k : Nat) : cX9_walkItem.data.toList[128 + k]? = LRX9_walkItem_8[k]? := by
  have h := LBX9_walkItemr_7 (16 + k)
  rw [show 112 + (16 + k) = 128 + k by omega] at h
  rw [h]
  exact (List.getElem?_append_right (l₁ := LBX9_walkItem_7) (l₂ := LRX9_walkItem_8) (show 16 ≤ 16 + k by omega)).trans (congrArg (fun i => LRX9_walkItem_8[i]?) (show 16 + k - 16 = k by omega))
theorem LBX9_walkItemr_9 (k : Nat) : cX9_walkItem.data.toList[144 + k]? = LRX9_walkItem_9[k]? := by
  have h := LBX9_walkItemr_8 (16 + k)
  rw [show 128 + (16 + k) = 144 + k by omega] at h
  rw [h]
  exact (List.getElem?_append_right (l₁ := LBX9_walkItem_8) (l₂ := LRX9_walkItem_9) (show 16 ≤ 16 + k by omega)).trans (congrArg (fun i => LRX9_walkItem_9[i]?) (show 16 + k - 16 = k by omega))
theorem LBX9_walkItemr_10 (k : Nat) : cX9_walkItem.data.toList[160 + k]? = LRX9_walkItem_10[k]? := by
  have h := LBX9_walkItemr_9 (16 + k)
  rw [show 144 + (16 + k) = 160 + k by omega] at h
  rw [h]
  exact (List.getElem?_append_right (l₁ := LBX9_walkItem_9) (l₂ := LRX9_walkItem_10) (show 16 ≤ 16 + k by omega)).trans (congrArg (fun i => LRX9_walkItem_10[i]?) (show 16 + k - 16 = k by omega))
theorem LBX9_walkItemr_11 (k : Nat) : cX9_walkItem.data.toList[176 + k]? = LRX9_walkItem_11[k]? := by
  have h := LBX9_walkItemr_10 (16 + k)
  rw [show 160 + (16 + k) = 176 + k by omega] at h
  rw [h]
  exact (List.getElem?_append_right (l₁ := LBX9_walkItem_10) (l₂ := LRX9_walkItem_11) (show 16 ≤ 16 + k by omega)).trans (congrArg (fun i => LRX9_walkItem_11[i]?) (show 16 + k - 16 = k by omega))
theorem LBX9_walkItemr_12 (k : Nat) : cX9_walkItem.data.toList[192 + k]? = LRX9_walkItem_12[k]? := by
  have h := LBX9_walkItemr_11 (16 + k)
  rw [show 176 + (16 + k) = 192 + k by omega] at h
  rw [h]
  exact (List.getElem?_append_right (l₁ := LBX9_walkItem_11) (l₂ := LRX9_walkItem_12) (show 16 ≤ 16 + k by omega)).trans (congrArg (fun i => LRX9_walkItem_12[i]?) (show 16 + k - 16 = k by omega))
theorem LBX9_walkItemr_13 (k : Nat) : cX9_walkItem.data.toList[208 + k]? = LRX9_walkItem_13[k]? := by
  have h := LBX9_walkItemr_12 (16 + k)
  rw [show 192 + (16 + k) = 208 + k by omega] at h
  rw [h]
  exact (List.getElem?_append_right (l₁ := LBX9_walkItem_12) (l₂ := LRX9_walkItem_13) (show 16 ≤ 16 + k by omega)).trans (congrArg (fun i => LRX9_walkItem_13[i]?) (show 16 + k - 16 = k by omega))
theorem LBX9_walkItemr_14 (k : Nat) : cX9_walkItem.data.toList[224 + k]? = LRX9_walkItem_14[k]? := by
  have h := LBX9_walkItemr_13 (16 + k)
  rw [show 208 + (16 + k) = 224 + k by omega] at h
  rw [h]
  exact (List.getElem?_append_right (l₁ := LBX9_walkItem_13) (l₂ := LRX9_walkItem_14) (show 16 ≤ 16 + k by omega)).trans (congrArg (fun i => LRX9_walkItem_14[i]?) (show 16 + k - 16 = k by omega))
theorem LBX9_walkItemr_15 (k : Nat) : cX9_walkItem.data.toList[240 + k]? = LRX9_walkItem_15[k]? := by
  have h := LBX9_walkItemr_14 (16 + k)
  rw [show 224 + (16 + k) = 240 + k by omega] at h
  rw [h]
  exact (List.getElem?_append_right (l₁ := LBX9_walkItem_14) (l₂ := LRX9_walkItem_15) (show 16 ≤ 16 + k by omega)).trans (congrArg (fun i => LRX9_walkItem_15[i]?) (show 16 + k - 16 = k by omega))
theorem dX9_walkItem_0 : decode cX9_walkItem 0 = .ok (.aload_n 0, 1) := dk_42_ (show cX9_walkItem.data.toList[0]? = some 0x2a from (LBX9_walkItemr_0 0).trans (by decide +kernel))
theorem dX9_walkItem_1 : decode cX9_walkItem 1 = .ok (.aload_n 0, 1) := dk_42_ (show cX9_walkItem.data.toList[1]? = some 0x2a from (LBX9_walkItemr_0 1).trans (by decide +kernel))
theorem dX9_walkItem_2 : decode cX9_walkItem 2 = .ok (.getfield 7, 3) := dk_180_ (show cX9_walkItem.data.toList[2]? = some 0xb4 from (LBX9_walkItemr_0 2).trans (by decide +kernel)) (show cX9_walkItem.data.toList[3]? = some 0x00 from (LBX9_walkItemr_0 3).trans (by decide +kernel)) (show cX9_walkItem.data.toList[4]? = some 0x07 from (LBX9_walkItemr_0 4).trans (by decide +kernel)) (by decide)
theorem dX9_walkItem_5 : decode cX9_walkItem 5 = .ok (.iconst 2, 1) := dk_5_ (show cX9_walkItem.data.toList[5]? = some 0x05 from (LBX9_walkItemr_0 5).trans (by decide +kernel))
theorem dX9_walkItem_6 : decode cX9_walkItem 6 = .ok (.iaload, 1) := dk_46_ (show cX9_walkItem.data.toList[6]? = some 0x2e from (LBX9_walkItemr_0 6).trans (by decide +kernel))
theorem dX9_walkItem_7 : decode cX9_walkItem 7 = .ok (.bipush 8, 2) := dk_16_ (show cX9_walkItem.data.toList[7]? = some 0x10 from (LBX9_walkItemr_0 7).trans (by decide +kernel)) (show cX9_walkItem.data.toList[8]? = some 0x08 from (LBX9_walkItemr_0 8).trans (by decide +kernel)) (by decide)
theorem dX9_walkItem_9 : decode cX9_walkItem 9 = .ok (.if_icmp .ge 7, 3) := dk_162_ (show cX9_walkItem.data.toList[9]? = some 0xa2 from (LBX9_walkItemr_0 9).trans (by decide +kernel)) (show cX9_walkItem.data.toList[10]? = some 0x00 from (LBX9_walkItemr_0 10).trans (by decide +kernel)) (show cX9_walkItem.data.toList[11]? = some 0x07 from (LBX9_walkItemr_0 11).trans (by decide +kernel)) (by decide)
theorem dX9_walkItem_12 : decode cX9_walkItem 12 = .ok (.iconst 1, 1) := dk_4_ (show cX9_walkItem.data.toList[12]? = some 0x04 from (LBX9_walkItemr_0 12).trans (by decide +kernel))
theorem dX9_walkItem_13 : decode cX9_walkItem 13 = .ok (.goto 4, 3) := dk_167_ (show cX9_walkItem.data.toList[13]? = some 0xa7 from (LBX9_walkItemr_0 13).trans (by decide +kernel)) (show cX9_walkItem.data.toList[14]? = some 0x00 from (LBX9_walkItemr_0 14).trans (by decide +kernel)) (show cX9_walkItem.data.toList[15]? = some 0x04 from (LBX9_walkItemr_0 15).trans (by decide +kernel)) (by decide)
theorem dX9_walkItem_16 : decode cX9_walkItem 16 = .ok (.iconst 0, 1) := dk_3_ (show cX9_walkItem.data.toList[16]? = some 0x03 from (LBX9_walkItemr_1 0).trans (by decide +kernel))
theorem dX9_walkItem_17 : decode cX9_walkItem 17 = .ok (.invokevirtual 278, 3) := dk_182_ (show cX9_walkItem.data.toList[17]? = some 0xb6 from (LBX9_walkItemr_1 1).trans (by decide +kernel)) (show cX9_walkItem.data.toList[18]? = some 0x01 from (LBX9_walkItemr_1 2).trans (by decide +kernel)) (show cX9_walkItem.data.toList[19]? = some 0x16 from (LBX9_walkItemr_1 3).trans (by decide +kernel)) (by decide)
theorem dX9_walkItem_20 : decode cX9_walkItem 20 = .ok (.iconst 0, 1) := dk_3_ (show cX9_walkItem.data.toList[20]? = some 0x03 from (LBX9_walkItemr_1 4).trans (by decide +kernel))
theorem dX9_walkItem_21 : decode cX9_walkItem 21 = .ok (.istore_n 1, 1) := dk_60_ (show cX9_walkItem.data.toList[21]? = some 0x3c from (LBX9_walkItemr_1 5).trans (by decide +kernel))
theorem dX9_walkItem_22 : decode cX9_walkItem 22 = .ok (.aload_n 0, 1) := dk_42_ (show cX9_walkItem.data.toList[22]? = some 0x2a from (LBX9_walkItemr_1 6).trans (by decide +kernel))
theorem dX9_walkItem_23 : decode cX9_walkItem 23 = .ok (.getfield 266, 3) := dk_180_ (show cX9_walkItem.data.toList[23]? = some 0xb4 from (LBX9_walkItemr_1 7).trans (by decide +kernel)) (show cX9_walkItem.data.toList[24]? = some 0x01 from (LBX9_walkItemr_1 8).trans (by decide +kernel)) (show cX9_walkItem.data.toList[25]? = some 0x0a from (LBX9_walkItemr_1 9).trans (by decide +kernel)) (by decide)
theorem dX9_walkItem_26 : decode cX9_walkItem 26 = .ok (.ifCond .ne 79, 3) := dk_154_ (show cX9_walkItem.data.toList[26]? = some 0x9a from (LBX9_walkItemr_1 10).trans (by decide +kernel)) (show cX9_walkItem.data.toList[27]? = some 0x00 from (LBX9_walkItemr_1 11).trans (by decide +kernel)) (show cX9_walkItem.data.toList[28]? = some 0x4f from (LBX9_walkItemr_1 12).trans (by decide +kernel)) (by decide)
theorem dX9_walkItem_29 : decode cX9_walkItem 29 = .ok (.iload_n 1, 1) := dk_27_ (show cX9_walkItem.data.toList[29]? = some 0x1b from (LBX9_walkItemr_1 13).trans (by decide +kernel))
theorem dX9_walkItem_30 : decode cX9_walkItem 30 = .ok (.bipush 6, 2) := dk_16_ (show cX9_walkItem.data.toList[30]? = some 0x10 from (LBX9_walkItemr_1 14).trans (by decide +kernel)) (show cX9_walkItem.data.toList[31]? = some 0x06 from (LBX9_walkItemr_1 15).trans (by decide +kernel)) (by decide)
theorem dX9_walkItem_32 : decode cX9_walkItem 32 = .ok (.if_icmp .ge 73, 3) := dk_162_ (show cX9_walkItem.data.toList[32]? = some 0xa2 from (LBX9_walkItemr_2 0).trans (by decide +kernel)) (show cX9_walkItem.data.toList[33]? = some 0x00 from (LBX9_walkItemr_2 1).trans (by decide +kernel)) (show cX9_walkItem.data.toList[34]? = some 0x49 from (LBX9_walkItemr_2 2).trans (by decide +kernel)) (by decide)
theorem dX9_walkItem_35 : decode cX9_walkItem 35 = .ok (.iload_n 1, 1) := dk_27_ (show cX9_walkItem.data.toList[35]? = some 0x1b from (LBX9_walkItemr_2 3).trans (by decide +kernel))
theorem dX9_walkItem_36 : decode cX9_walkItem 36 = .ok (.iconst 2, 1) := dk_5_ (show cX9_walkItem.data.toList[36]? = some 0x05 from (LBX9_walkItemr_2 4).trans (by decide +kernel))
theorem dX9_walkItem_37 : decode cX9_walkItem 37 = .ok (.if_icmp .lt 17, 3) := dk_161_ (show cX9_walkItem.data.toList[37]? = some 0xa1 from (LBX9_walkItemr_2 5).trans (by decide +kernel)) (show cX9_walkItem.data.toList[38]? = some 0x00 from (LBX9_walkItemr_2 6).trans (by decide +kernel)) (show cX9_walkItem.data.toList[39]? = some 0x11 from (LBX9_walkItemr_2 7).trans (by decide +kernel)) (by decide)
theorem dX9_walkItem_40 : decode cX9_walkItem 40 = .ok (.aload_n 0, 1) := dk_42_ (show cX9_walkItem.data.toList[40]? = some 0x2a from (LBX9_walkItemr_2 8).trans (by decide +kernel))
theorem dX9_walkItem_41 : decode cX9_walkItem 41 = .ok (.aload_n 0, 1) := dk_42_ (show cX9_walkItem.data.toList[41]? = some 0x2a from (LBX9_walkItemr_2 9).trans (by decide +kernel))
theorem dX9_walkItem_42 : decode cX9_walkItem 42 = .ok (.getfield 254, 3) := dk_180_ (show cX9_walkItem.data.toList[42]? = some 0xb4 from (LBX9_walkItemr_2 10).trans (by decide +kernel)) (show cX9_walkItem.data.toList[43]? = some 0x00 from (LBX9_walkItemr_2 11).trans (by decide +kernel)) (show cX9_walkItem.data.toList[44]? = some 0xfe from (LBX9_walkItemr_2 12).trans (by decide +kernel)) (by decide)
theorem dX9_walkItem_45 : decode cX9_walkItem 45 = .ok (.invokevirtual 257, 3) := dk_182_ (show cX9_walkItem.data.toList[45]? = some 0xb6 from (LBX9_walkItemr_2 13).trans (by decide +kernel)) (show cX9_walkItem.data.toList[46]? = some 0x01 from (LBX9_walkItemr_2 14).trans (by decide +kernel)) (show cX9_walkItem.data.toList[47]? = some 0x01 from (LBX9_walkItemr_2 15).trans (by decide +kernel)) (by decide)
theorem dX9_walkItem_48 : decode cX9_walkItem 48 = .ok (.invokestatic 263, 3) := dk_184_ (show cX9_walkItem.data.toList[48]? = some 0xb8 from (LBX9_walkItemr_3 0).trans (by decide +kernel)) (show cX9_walkItem.data.toList[49]? = some 0x01 from (LBX9_walkItemr_3 1).trans (by decide +kernel)) (show cX9_walkItem.data.toList[50]? = some 0x07 from (LBX9_walkItemr_3 2).trans (by decide +kernel)) (by decide)
theorem dX9_walkItem_51 : decode cX9_walkItem 51 = .ok (.ifCond .eq 54, 3) := dk_153_ (show cX9_walkItem.data.toList[51]? = some 0x99 from (LBX9_walkItemr_3 3).trans (by decide +kernel)) (show cX9_walkItem.data.toList[52]? = some 0x00 from (LBX9_walkItemr_3 4).trans (by decide +kernel)) (show cX9_walkItem.data.toList[53]? = some 0x36 from (LBX9_walkItemr_3 5).trans (by decide +kernel)) (by decide)
theorem dX9_walkItem_54 : decode cX9_walkItem 54 = .ok (.aload_n 0, 1) := dk_42_ (show cX9_walkItem.data.toList[54]? = some 0x2a from (LBX9_walkItemr_3 6).trans (by decide +kernel))
theorem dX9_walkItem_55 : decode cX9_walkItem 55 = .ok (.invokevirtual 284, 3) := dk_182_ (show cX9_walkItem.data.toList[55]? = some 0xb6 from (LBX9_walkItemr_3 7).trans (by decide +kernel)) (show cX9_walkItem.data.toList[56]? = some 0x01 from (LBX9_walkItemr_3 8).trans (by decide +kernel)) (show cX9_walkItem.data.toList[57]? = some 0x1c from (LBX9_walkItemr_3 9).trans (by decide +kernel)) (by decide)
theorem dX9_walkItem_58 : decode cX9_walkItem 58 = .ok (.istore_n 2, 1) := dk_61_ (show cX9_walkItem.data.toList[58]? = some 0x3d from (LBX9_walkItemr_3 10).trans (by decide +kernel))
theorem dX9_walkItem_59 : decode cX9_walkItem 59 = .ok (.aload_n 0, 1) := dk_42_ (show cX9_walkItem.data.toList[59]? = some 0x2a from (LBX9_walkItemr_3 11).trans (by decide +kernel))
theorem dX9_walkItem_60 : decode cX9_walkItem 60 = .ok (.aload_n 0, 1) := dk_42_ (show cX9_walkItem.data.toList[60]? = some 0x2a from (LBX9_walkItemr_3 12).trans (by decide +kernel))
theorem dX9_walkItem_61 : decode cX9_walkItem 61 = .ok (.iload_n 2, 1) := dk_28_ (show cX9_walkItem.data.toList[61]? = some 0x1c from (LBX9_walkItemr_3 13).trans (by decide +kernel))
theorem dX9_walkItem_62 : decode cX9_walkItem 62 = .ok (.invokevirtual 61, 3) := dk_182_ (show cX9_walkItem.data.toList[62]? = some 0xb6 from (LBX9_walkItemr_3 14).trans (by decide +kernel)) (show cX9_walkItem.data.toList[63]? = some 0x00 from (LBX9_walkItemr_3 15).trans (by decide +kernel)) (show cX9_walkItem.data.toList[64]? = some 0x3d from (LBX9_walkItemr_4 0).trans (by decide +kernel)) (by decide)
theorem dX9_walkItem_65 : decode cX9_walkItem 65 = .ok (.ifCond .eq 23, 3) := dk_153_ (show cX9_walkItem.data.toList[65]? = some 0x99 from (LBX9_walkItemr_4 1).trans (by decide +kernel)) (show cX9_walkItem.data.toList[66]? = some 0x00 from (LBX9_walkItemr_4 2).trans (by decide +kernel)) (show cX9_walkItem.data.toList[67]? = some 0x17 from (LBX9_walkItemr_4 3).trans (by decide +kernel)) (by decide)
theorem dX9_walkItem_68 : decode cX9_walkItem 68 = .ok (.iload_n 1, 1) := dk_27_ (show cX9_walkItem.data.toList[68]? = some 0x1b from (LBX9_walkItemr_4 4).trans (by decide +kernel))
theorem dX9_walkItem_69 : decode cX9_walkItem 69 = .ok (.ifCond .eq 15, 3) := dk_153_ (show cX9_walkItem.data.toList[69]? = some 0x99 from (LBX9_walkItemr_4 5).trans (by decide +kernel)) (show cX9_walkItem.data.toList[70]? = some 0x00 from (LBX9_walkItemr_4 6).trans (by decide +kernel)) (show cX9_walkItem.data.toList[71]? = some 0x0f from (LBX9_walkItemr_4 7).trans (by decide +kernel)) (by decide)
theorem dX9_walkItem_72 : decode cX9_walkItem 72 = .ok (.iload_n 2, 1) := dk_28_ (show cX9_walkItem.data.toList[72]? = some 0x1c from (LBX9_walkItemr_4 8).trans (by decide +kernel))
theorem dX9_walkItem_73 : decode cX9_walkItem 73 = .ok (.aload_n 0, 1) := dk_42_ (show cX9_walkItem.data.toList[73]? = some 0x2a from (LBX9_walkItemr_4 9).trans (by decide +kernel))
theorem dX9_walkItem_74 : decode cX9_walkItem 74 = .ok (.getfield 40, 3) := dk_180_ (show cX9_walkItem.data.toList[74]? = some 0xb4 from (LBX9_walkItemr_4 10).trans (by decide +kernel)) (show cX9_walkItem.data.toList[75]? = some 0x00 from (LBX9_walkItemr_4 11).trans (by decide +kernel)) (show cX9_walkItem.data.toList[76]? = some 0x28 from (LBX9_walkItemr_4 12).trans (by decide +kernel)) (by decide)
theorem dX9_walkItem_77 : decode cX9_walkItem 77 = .ok (.iload_n 1, 1) := dk_27_ (show cX9_walkItem.data.toList[77]? = some 0x1b from (LBX9_walkItemr_4 13).trans (by decide +kernel))
theorem dX9_walkItem_78 : decode cX9_walkItem 78 = .ok (.iconst 1, 1) := dk_4_ (show cX9_walkItem.data.toList[78]? = some 0x04 from (LBX9_walkItemr_4 14).trans (by decide +kernel))
theorem dX9_walkItem_79 : decode cX9_walkItem 79 = .ok (.isub, 1) := dk_100_ (show cX9_walkItem.data.toList[79]? = some 0x64 from (LBX9_walkItemr_4 15).trans (by decide +kernel))
theorem dX9_walkItem_80 : decode cX9_walkItem 80 = .ok (.iaload, 1) := dk_46_ (show cX9_walkItem.data.toList[80]? = some 0x2e from (LBX9_walkItemr_5 0).trans (by decide +kernel))
theorem dX9_walkItem_81 : decode cX9_walkItem 81 = .ok (.if_icmp .eq 7, 3) := dk_159_ (show cX9_walkItem.data.toList[81]? = some 0x9f from (LBX9_walkItemr_5 1).trans (by decide +kernel)) (show cX9_walkItem.data.toList[82]? = some 0x00 from (LBX9_walkItemr_5 2).trans (by decide +kernel)) (show cX9_walkItem.data.toList[83]? = some 0x07 from (LBX9_walkItemr_5 3).trans (by decide +kernel)) (by decide)
theorem dX9_walkItem_84 : decode cX9_walkItem 84 = .ok (.iconst 1, 1) := dk_4_ (show cX9_walkItem.data.toList[84]? = some 0x04 from (LBX9_walkItemr_5 4).trans (by decide +kernel))
theorem dX9_walkItem_85 : decode cX9_walkItem 85 = .ok (.goto 4, 3) := dk_167_ (show cX9_walkItem.data.toList[85]? = some 0xa7 from (LBX9_walkItemr_5 5).trans (by decide +kernel)) (show cX9_walkItem.data.toList[86]? = some 0x00 from (LBX9_walkItemr_5 6).trans (by decide +kernel)) (show cX9_walkItem.data.toList[87]? = some 0x04 from (LBX9_walkItemr_5 7).trans (by decide +kernel)) (by decide)
theorem dX9_walkItem_88 : decode cX9_walkItem 88 = .ok (.iconst 0, 1) := dk_3_ (show cX9_walkItem.data.toList[88]? = some 0x03 from (LBX9_walkItemr_5 8).trans (by decide +kernel))
theorem dX9_walkItem_89 : decode cX9_walkItem 89 = .ok (.invokevirtual 278, 3) := dk_182_ (show cX9_walkItem.data.toList[89]? = some 0xb6 from (LBX9_walkItemr_5 9).trans (by decide +kernel)) (show cX9_walkItem.data.toList[90]? = some 0x01 from (LBX9_walkItemr_5 10).trans (by decide +kernel)) (show cX9_walkItem.data.toList[91]? = some 0x16 from (LBX9_walkItemr_5 11).trans (by decide +kernel)) (by decide)
theorem dX9_walkItem_92 : decode cX9_walkItem 92 = .ok (.aload_n 0, 1) := dk_42_ (show cX9_walkItem.data.toList[92]? = some 0x2a from (LBX9_walkItemr_5 12).trans (by decide +kernel))
theorem dX9_walkItem_93 : decode cX9_walkItem 93 = .ok (.getfield 40, 3) := dk_180_ (show cX9_walkItem.data.toList[93]? = some 0xb4 from (LBX9_walkItemr_5 13).trans (by decide +kernel)) (show cX9_walkItem.data.toList[94]? = some 0x00 from (LBX9_walkItemr_5 14).trans (by decide +kernel)) (show cX9_walkItem.data.toList[95]? = some 0x28 from (LBX9_walkItemr_5 15).trans (by decide +kernel)) (by decide)
theorem dX9_walkItem_96 : decode cX9_walkItem 96 = .ok (.iload_n 1, 1) := dk_27_ (show cX9_walkItem.data.toList[96]? = some 0x1b from (LBX9_walkItemr_6 0).trans (by decide +kernel))
theorem dX9_walkItem_97 : decode cX9_walkItem 97 = .ok (.iload_n 2, 1) := dk_28_ (show cX9_walkItem.data.toList[97]? = some 0x1c from (LBX9_walkItemr_6 1).trans (by decide +kernel))
theorem dX9_walkItem_98 : decode cX9_walkItem 98 = .ok (.iastore, 1) := dk_79_ (show cX9_walkItem.data.toList[98]? = some 0x4f from (LBX9_walkItemr_6 2).trans (by decide +kernel))
theorem dX9_walkItem_99 : decode cX9_walkItem 99 = .ok (.iinc 1 1, 3) := dk_132_ (show cX9_walkItem.data.toList[99]? = some 0x84 from (LBX9_walkItemr_6 3).trans (by decide +kernel)) (show cX9_walkItem.data.toList[100]? = some 0x01 from (LBX9_walkItemr_6 4).trans (by decide +kernel)) (show cX9_walkItem.data.toList[101]? = some 0x01 from (LBX9_walkItemr_6 5).trans (by decide +kernel)) (by decide) (by decide)
theorem dX9_walkItem_102 : decode cX9_walkItem 102 = .ok (.goto (-80), 3) := dk_167_ (show cX9_walkItem.data.toList[102]? = some 0xa7 from (LBX9_walkItemr_6 6).trans (by decide +kernel)) (show cX9_walkItem.data.toList[103]? = some 0xff from (LBX9_walkItemr_6 7).trans (by decide +kernel)) (show cX9_walkItem.data.toList[104]? = some 0xb0 from (LBX9_walkItemr_6 8).trans (by decide +kernel)) (by decide)
theorem dX9_walkItem_105 : decode cX9_walkItem 105 = .ok (.aload_n 0, 1) := dk_42_ (show cX9_walkItem.data.toList[105]? = some 0x2a from (LBX9_walkItemr_6 9).trans (by decide +kernel))
theorem dX9_walkItem_106 : decode cX9_walkItem 106 = .ok (.aload_n 0, 1) := dk_42_ (show cX9_walkItem.data.toList[106]? = some 0x2a from (LBX9_walkItemr_6 10).trans (by decide +kernel))
theorem dX9_walkItem_107 : decode cX9_walkItem 107 = .ok (.bipush 97, 2) := dk_16_ (show cX9_walkItem.data.toList[107]? = some 0x10 from (LBX9_walkItemr_6 11).trans (by decide +kernel)) (show cX9_walkItem.data.toList[108]? = some 0x61 from (LBX9_walkItemr_6 12).trans (by decide +kernel)) (by decide)
theorem dX9_walkItem_109 : decode cX9_walkItem 109 = .ok (.bipush 108, 2) := dk_16_ (show cX9_walkItem.data.toList[109]? = some 0x10 from (LBX9_walkItemr_6 13).trans (by decide +kernel)) (show cX9_walkItem.data.toList[110]? = some 0x6c from (LBX9_walkItemr_6 14).trans (by decide +kernel)) (by decide)
theorem dX9_walkItem_111 : decode cX9_walkItem 111 = .ok (.bipush 108, 2) := dk_16_ (show cX9_walkItem.data.toList[111]? = some 0x10 from (LBX9_walkItemr_6 15).trans (by decide +kernel)) (show cX9_walkItem.data.toList[112]? = some 0x6c from (LBX9_walkItemr_7 0).trans (by decide +kernel)) (by decide)
theorem dX9_walkItem_113 : decode cX9_walkItem 113 = .ok (.iconst 0, 1) := dk_3_ (show cX9_walkItem.data.toList[113]? = some 0x03 from (LBX9_walkItemr_7 1).trans (by decide +kernel))
theorem dX9_walkItem_114 : decode cX9_walkItem 114 = .ok (.iconst 0, 1) := dk_3_ (show cX9_walkItem.data.toList[114]? = some 0x03 from (LBX9_walkItemr_7 2).trans (by decide +kernel))
theorem dX9_walkItem_115 : decode cX9_walkItem 115 = .ok (.iconst 0, 1) := dk_3_ (show cX9_walkItem.data.toList[115]? = some 0x03 from (LBX9_walkItemr_7 3).trans (by decide +kernel))
theorem dX9_walkItem_116 : decode cX9_walkItem 116 = .ok (.iconst 0, 1) := dk_3_ (show cX9_walkItem.data.toList[116]? = some 0x03 from (LBX9_walkItemr_7 4).trans (by decide +kernel))
theorem dX9_walkItem_117 : decode cX9_walkItem 117 = .ok (.invokevirtual 290, 3) := dk_182_ (show cX9_walkItem.data.toList[117]? = some 0xb6 from (LBX9_walkItemr_7 5).trans (by decide +kernel)) (show cX9_walkItem.data.toList[118]? = some 0x01 from (LBX9_walkItemr_7 6).trans (by decide +kernel)) (show cX9_walkItem.data.toList[119]? = some 0x22 from (LBX9_walkItemr_7 7).trans (by decide +kernel)) (by decide)
theorem dX9_walkItem_120 : decode cX9_walkItem 120 = .ok (.invokevirtual 278, 3) := dk_182_ (show cX9_walkItem.data.toList[120]? = some 0xb6 from (LBX9_walkItemr_7 8).trans (by decide +kernel)) (show cX9_walkItem.data.toList[121]? = some 0x01 from (LBX9_walkItemr_7 9).trans (by decide +kernel)) (show cX9_walkItem.data.toList[122]? = some 0x16 from (LBX9_walkItemr_7 10).trans (by decide +kernel)) (by decide)
theorem dX9_walkItem_123 : decode cX9_walkItem 123 = .ok (.aload_n 0, 1) := dk_42_ (show cX9_walkItem.data.toList[123]? = some 0x2a from (LBX9_walkItemr_7 11).trans (by decide +kernel))
theorem dX9_walkItem_124 : decode cX9_walkItem 124 = .ok (.sipush (-9999), 3) := dk_17_ (show cX9_walkItem.data.toList[124]? = some 0x11 from (LBX9_walkItemr_7 12).trans (by decide +kernel)) (show cX9_walkItem.data.toList[125]? = some 0xd8 from (LBX9_walkItemr_7 13).trans (by decide +kernel)) (show cX9_walkItem.data.toList[126]? = some 0xf1 from (LBX9_walkItemr_7 14).trans (by decide +kernel)) (by decide)
theorem dX9_walkItem_127 : decode cX9_walkItem 127 = .ok (.sipush 9999, 3) := dk_17_ (show cX9_walkItem.data.toList[127]? = some 0x11 from (LBX9_walkItemr_7 15).trans (by decide +kernel)) (show cX9_walkItem.data.toList[128]? = some 0x27 from (LBX9_walkItemr_8 0).trans (by decide +kernel)) (show cX9_walkItem.data.toList[129]? = some 0x0f from (LBX9_walkItemr_8 1).trans (by decide +kernel)) (by decide)
theorem dX9_walkItem_130 : decode cX9_walkItem 130 = .ok (.invokevirtual 287, 3) := dk_182_ (show cX9_walkItem.data.toList[130]? = some 0xb6 from (LBX9_walkItemr_8 2).trans (by decide +kernel)) (show cX9_walkItem.data.toList[131]? = some 0x01 from (LBX9_walkItemr_8 3).trans (by decide +kernel)) (show cX9_walkItem.data.toList[132]? = some 0x1f from (LBX9_walkItemr_8 4).trans (by decide +kernel)) (by decide)
theorem dX9_walkItem_133 : decode cX9_walkItem 133 = .ok (.aload_n 0, 1) := dk_42_ (show cX9_walkItem.data.toList[133]? = some 0x2a from (LBX9_walkItemr_8 5).trans (by decide +kernel))
theorem dX9_walkItem_134 : decode cX9_walkItem 134 = .ok (.getfield 275, 3) := dk_180_ (show cX9_walkItem.data.toList[134]? = some 0xb4 from (LBX9_walkItemr_8 6).trans (by decide +kernel)) (show cX9_walkItem.data.toList[135]? = some 0x01 from (LBX9_walkItemr_8 7).trans (by decide +kernel)) (show cX9_walkItem.data.toList[136]? = some 0x13 from (LBX9_walkItemr_8 8).trans (by decide +kernel)) (by decide)
theorem dX9_walkItem_137 : decode cX9_walkItem 137 = .ok (.istore_n 2, 1) := dk_61_ (show cX9_walkItem.data.toList[137]? = some 0x3d from (LBX9_walkItemr_8 9).trans (by decide +kernel))
theorem dX9_walkItem_138 : decode cX9_walkItem 138 = .ok (.iconst 0, 1) := dk_3_ (show cX9_walkItem.data.toList[138]? = some 0x03 from (LBX9_walkItemr_8 10).trans (by decide +kernel))
theorem dX9_walkItem_139 : decode cX9_walkItem 139 = .ok (.istore_n 3, 1) := dk_62_ (show cX9_walkItem.data.toList[139]? = some 0x3e from (LBX9_walkItemr_8 11).trans (by decide +kernel))
theorem dX9_walkItem_140 : decode cX9_walkItem 140 = .ok (.aload_n 0, 1) := dk_42_ (show cX9_walkItem.data.toList[140]? = some 0x2a from (LBX9_walkItemr_8 12).trans (by decide +kernel))
theorem dX9_walkItem_141 : decode cX9_walkItem 141 = .ok (.bipush 115, 2) := dk_16_ (show cX9_walkItem.data.toList[141]? = some 0x10 from (LBX9_walkItemr_8 13).trans (by decide +kernel)) (show cX9_walkItem.data.toList[142]? = some 0x73 from (LBX9_walkItemr_8 14).trans (by decide +kernel)) (by decide)
theorem dX9_walkItem_143 : decode cX9_walkItem 143 = .ok (.bipush 108, 2) := dk_16_ (show cX9_walkItem.data.toList[143]? = some 0x10 from (LBX9_walkItemr_8 15).trans (by decide +kernel)) (show cX9_walkItem.data.toList[144]? = some 0x6c from (LBX9_walkItemr_9 0).trans (by decide +kernel)) (by decide)
theorem dX9_walkItem_145 : decode cX9_walkItem 145 = .ok (.bipush 97, 2) := dk_16_ (show cX9_walkItem.data.toList[145]? = some 0x10 from (LBX9_walkItemr_9 1).trans (by decide +kernel)) (show cX9_walkItem.data.toList[146]? = some 0x61 from (LBX9_walkItemr_9 2).trans (by decide +kernel)) (by decide)
theorem dX9_walkItem_147 : decode cX9_walkItem 147 = .ok (.bipush 99, 2) := dk_16_ (show cX9_walkItem.data.toList[147]? = some 0x10 from (LBX9_walkItemr_9 3).trans (by decide +kernel)) (show cX9_walkItem.data.toList[148]? = some 0x63 from (LBX9_walkItemr_9 4).trans (by decide +kernel)) (by decide)
theorem dX9_walkItem_149 : decode cX9_walkItem 149 = .ok (.bipush 107, 2) := dk_16_ (show cX9_walkItem.data.toList[149]? = some 0x10 from (LBX9_walkItemr_9 5).trans (by decide +kernel)) (show cX9_walkItem.data.toList[150]? = some 0x6b from (LBX9_walkItemr_9 6).trans (by decide +kernel)) (by decide)
theorem dX9_walkItem_151 : decode cX9_walkItem 151 = .ok (.iconst 0, 1) := dk_3_ (show cX9_walkItem.data.toList[151]? = some 0x03 from (LBX9_walkItemr_9 7).trans (by decide +kernel))
theorem dX9_walkItem_152 : decode cX9_walkItem 152 = .ok (.iconst 0, 1) := dk_3_ (show cX9_walkItem.data.toList[152]? = some 0x03 from (LBX9_walkItemr_9 8).trans (by decide +kernel))
theorem dX9_walkItem_153 : decode cX9_walkItem 153 = .ok (.invokevirtual 290, 3) := dk_182_ (show cX9_walkItem.data.toList[153]? = some 0xb6 from (LBX9_walkItemr_9 9).trans (by decide +kernel)) (show cX9_walkItem.data.toList[154]? = some 0x01 from (LBX9_walkItemr_9 10).trans (by decide +kernel)) (show cX9_walkItem.data.toList[155]? = some 0x22 from (LBX9_walkItemr_9 11).trans (by decide +kernel)) (by decide)
theorem dX9_walkItem_156 : decode cX9_walkItem 156 = .ok (.ifCond .eq 20, 3) := dk_153_ (show cX9_walkItem.data.toList[156]? = some 0x99 from (LBX9_walkItemr_9 12).trans (by decide +kernel)) (show cX9_walkItem.data.toList[157]? = some 0x00 from (LBX9_walkItemr_9 13).trans (by decide +kernel)) (show cX9_walkItem.data.toList[158]? = some 0x14 from (LBX9_walkItemr_9 14).trans (by decide +kernel)) (by decide)
theorem dX9_walkItem_159 : decode cX9_walkItem 159 = .ok (.aload_n 0, 1) := dk_42_ (show cX9_walkItem.data.toList[159]? = some 0x2a from (LBX9_walkItemr_9 15).trans (by decide +kernel))
theorem dX9_walkItem_160 : decode cX9_walkItem 160 = .ok (.iconst 1, 1) := dk_4_ (show cX9_walkItem.data.toList[160]? = some 0x04 from (LBX9_walkItemr_10 0).trans (by decide +kernel))
theorem dX9_walkItem_161 : decode cX9_walkItem 161 = .ok (.invokevirtual 278, 3) := dk_182_ (show cX9_walkItem.data.toList[161]? = some 0xb6 from (LBX9_walkItemr_10 1).trans (by decide +kernel)) (show cX9_walkItem.data.toList[162]? = some 0x01 from (LBX9_walkItemr_10 2).trans (by decide +kernel)) (show cX9_walkItem.data.toList[163]? = some 0x16 from (LBX9_walkItemr_10 3).trans (by decide +kernel)) (by decide)
theorem dX9_walkItem_164 : decode cX9_walkItem 164 = .ok (.aload_n 0, 1) := dk_42_ (show cX9_walkItem.data.toList[164]? = some 0x2a from (LBX9_walkItemr_10 4).trans (by decide +kernel))
theorem dX9_walkItem_165 : decode cX9_walkItem 165 = .ok (.iconst 0, 1) := dk_3_ (show cX9_walkItem.data.toList[165]? = some 0x03 from (LBX9_walkItemr_10 5).trans (by decide +kernel))
theorem dX9_walkItem_166 : decode cX9_walkItem 166 = .ok (.bipush 99, 2) := dk_16_ (show cX9_walkItem.data.toList[166]? = some 0x10 from (LBX9_walkItemr_10 6).trans (by decide +kernel)) (show cX9_walkItem.data.toList[167]? = some 0x63 from (LBX9_walkItemr_10 7).trans (by decide +kernel)) (by decide)
theorem dX9_walkItem_168 : decode cX9_walkItem 168 = .ok (.invokevirtual 282, 3) := dk_182_ (show cX9_walkItem.data.toList[168]? = some 0xb6 from (LBX9_walkItemr_10 8).trans (by decide +kernel)) (show cX9_walkItem.data.toList[169]? = some 0x01 from (LBX9_walkItemr_10 9).trans (by decide +kernel)) (show cX9_walkItem.data.toList[170]? = some 0x1a from (LBX9_walkItemr_10 10).trans (by decide +kernel)) (by decide)
theorem dX9_walkItem_171 : decode cX9_walkItem 171 = .ok (.aload_n 0, 1) := dk_42_ (show cX9_walkItem.data.toList[171]? = some 0x2a from (LBX9_walkItemr_10 11).trans (by decide +kernel))
theorem dX9_walkItem_172 : decode cX9_walkItem 172 = .ok (.getfield 275, 3) := dk_180_ (show cX9_walkItem.data.toList[172]? = some 0xb4 from (LBX9_walkItemr_10 12).trans (by decide +kernel)) (show cX9_walkItem.data.toList[173]? = some 0x01 from (LBX9_walkItemr_10 13).trans (by decide +kernel)) (show cX9_walkItem.data.toList[174]? = some 0x13 from (LBX9_walkItemr_10 14).trans (by decide +kernel)) (by decide)
theorem dX9_walkItem_175 : decode cX9_walkItem 175 = .ok (.istore_n 3, 1) := dk_62_ (show cX9_walkItem.data.toList[175]? = some 0x3e from (LBX9_walkItemr_10 15).trans (by decide +kernel))
theorem dX9_walkItem_176 : decode cX9_walkItem 176 = .ok (.aload_n 0, 1) := dk_42_ (show cX9_walkItem.data.toList[176]? = some 0x2a from (LBX9_walkItemr_11 0).trans (by decide +kernel))
theorem dX9_walkItem_177 : decode cX9_walkItem 177 = .ok (.getfield 266, 3) := dk_180_ (show cX9_walkItem.data.toList[177]? = some 0xb4 from (LBX9_walkItemr_11 1).trans (by decide +kernel)) (show cX9_walkItem.data.toList[178]? = some 0x01 from (LBX9_walkItemr_11 2).trans (by decide +kernel)) (show cX9_walkItem.data.toList[179]? = some 0x0a from (LBX9_walkItemr_11 3).trans (by decide +kernel)) (by decide)
theorem dX9_walkItem_180 : decode cX9_walkItem 180 = .ok (.ifCond .ne 72, 3) := dk_154_ (show cX9_walkItem.data.toList[180]? = some 0x9a from (LBX9_walkItemr_11 4).trans (by decide +kernel)) (show cX9_walkItem.data.toList[181]? = some 0x00 from (LBX9_walkItemr_11 5).trans (by decide +kernel)) (show cX9_walkItem.data.toList[182]? = some 0x48 from (LBX9_walkItemr_11 6).trans (by decide +kernel)) (by decide)
theorem dX9_walkItem_183 : decode cX9_walkItem 183 = .ok (.sipush 377, 3) := dk_17_ (show cX9_walkItem.data.toList[183]? = some 0x11 from (LBX9_walkItemr_11 7).trans (by decide +kernel)) (show cX9_walkItem.data.toList[184]? = some 0x01 from (LBX9_walkItemr_11 8).trans (by decide +kernel)) (show cX9_walkItem.data.toList[185]? = some 0x79 from (LBX9_walkItemr_11 9).trans (by decide +kernel)) (by decide)
theorem dX9_walkItem_186 : decode cX9_walkItem 186 = .ok (.bipush 9, 2) := dk_16_ (show cX9_walkItem.data.toList[186]? = some 0x10 from (LBX9_walkItemr_11 10).trans (by decide +kernel)) (show cX9_walkItem.data.toList[187]? = some 0x09 from (LBX9_walkItemr_11 11).trans (by decide +kernel)) (by decide)
theorem dX9_walkItem_188 : decode cX9_walkItem 188 = .ok (.aload_n 0, 1) := dk_42_ (show cX9_walkItem.data.toList[188]? = some 0x2a from (LBX9_walkItemr_11 12).trans (by decide +kernel))
theorem dX9_walkItem_189 : decode cX9_walkItem 189 = .ok (.aload_n 0, 1) := dk_42_ (show cX9_walkItem.data.toList[189]? = some 0x2a from (LBX9_walkItemr_11 13).trans (by decide +kernel))
theorem dX9_walkItem_190 : decode cX9_walkItem 190 = .ok (.getfield 40, 3) := dk_180_ (show cX9_walkItem.data.toList[190]? = some 0xb4 from (LBX9_walkItemr_11 14).trans (by decide +kernel)) (show cX9_walkItem.data.toList[191]? = some 0x00 from (LBX9_walkItemr_11 15).trans (by decide +kernel)) (show cX9_walkItem.data.toList[192]? = some 0x28 from (LBX9_walkItemr_12 0).trans (by decide +kernel)) (by decide)
theorem dX9_walkItem_193 : decode cX9_walkItem 193 = .ok (.iconst 0, 1) := dk_3_ (show cX9_walkItem.data.toList[193]? = some 0x03 from (LBX9_walkItemr_12 1).trans (by decide +kernel))
theorem dX9_walkItem_194 : decode cX9_walkItem 194 = .ok (.iaload, 1) := dk_46_ (show cX9_walkItem.data.toList[194]? = some 0x2e from (LBX9_walkItemr_12 2).trans (by decide +kernel))
theorem dX9_walkItem_195 : decode cX9_walkItem 195 = .ok (.aload_n 0, 1) := dk_42_ (show cX9_walkItem.data.toList[195]? = some 0x2a from (LBX9_walkItemr_12 3).trans (by decide +kernel))
theorem dX9_walkItem_196 : decode cX9_walkItem 196 = .ok (.getfield 40, 3) := dk_180_ (show cX9_walkItem.data.toList[196]? = some 0xb4 from (LBX9_walkItemr_12 4).trans (by decide +kernel)) (show cX9_walkItem.data.toList[197]? = some 0x00 from (LBX9_walkItemr_12 5).trans (by decide +kernel)) (show cX9_walkItem.data.toList[198]? = some 0x28 from (LBX9_walkItemr_12 6).trans (by decide +kernel)) (by decide)
theorem dX9_walkItem_199 : decode cX9_walkItem 199 = .ok (.iconst 1, 1) := dk_4_ (show cX9_walkItem.data.toList[199]? = some 0x04 from (LBX9_walkItemr_12 7).trans (by decide +kernel))
theorem dX9_walkItem_200 : decode cX9_walkItem 200 = .ok (.iaload, 1) := dk_46_ (show cX9_walkItem.data.toList[200]? = some 0x2e from (LBX9_walkItemr_12 8).trans (by decide +kernel))
theorem dX9_walkItem_201 : decode cX9_walkItem 201 = .ok (.iload_n 2, 1) := dk_28_ (show cX9_walkItem.data.toList[201]? = some 0x1c from (LBX9_walkItemr_12 9).trans (by decide +kernel))
theorem dX9_walkItem_202 : decode cX9_walkItem 202 = .ok (.iload_n 3, 1) := dk_29_ (show cX9_walkItem.data.toList[202]? = some 0x1d from (LBX9_walkItemr_12 10).trans (by decide +kernel))
theorem dX9_walkItem_203 : decode cX9_walkItem 203 = .ok (.invokevirtual 196, 3) := dk_182_ (show cX9_walkItem.data.toList[203]? = some 0xb6 from (LBX9_walkItemr_12 11).trans (by decide +kernel)) (show cX9_walkItem.data.toList[204]? = some 0x00 from (LBX9_walkItemr_12 12).trans (by decide +kernel)) (show cX9_walkItem.data.toList[205]? = some 0xc4 from (LBX9_walkItemr_12 13).trans (by decide +kernel)) (by decide)
theorem dX9_walkItem_206 : decode cX9_walkItem 206 = .ok (.imul, 1) := dk_104_ (show cX9_walkItem.data.toList[206]? = some 0x68 from (LBX9_walkItemr_12 14).trans (by decide +kernel))
theorem dX9_walkItem_207 : decode cX9_walkItem 207 = .ok (.iadd, 1) := dk_96_ (show cX9_walkItem.data.toList[207]? = some 0x60 from (LBX9_walkItemr_12 15).trans (by decide +kernel))
theorem dX9_walkItem_208 : decode cX9_walkItem 208 = .ok (.istore 4, 2) := dk_54_ (show cX9_walkItem.data.toList[208]? = some 0x36 from (LBX9_walkItemr_13 0).trans (by decide +kernel)) (show cX9_walkItem.data.toList[209]? = some 0x04 from (LBX9_walkItemr_13 1).trans (by decide +kernel)) (by decide)
theorem dX9_walkItem_210 : decode cX9_walkItem 210 = .ok (.aload_n 0, 1) := dk_42_ (show cX9_walkItem.data.toList[210]? = some 0x2a from (LBX9_walkItemr_13 2).trans (by decide +kernel))
theorem dX9_walkItem_211 : decode cX9_walkItem 211 = .ok (.getfield 7, 3) := dk_180_ (show cX9_walkItem.data.toList[211]? = some 0xb4 from (LBX9_walkItemr_13 3).trans (by decide +kernel)) (show cX9_walkItem.data.toList[212]? = some 0x00 from (LBX9_walkItemr_13 4).trans (by decide +kernel)) (show cX9_walkItem.data.toList[213]? = some 0x07 from (LBX9_walkItemr_13 5).trans (by decide +kernel)) (by decide)
theorem dX9_walkItem_214 : decode cX9_walkItem 214 = .ok (.iload 4, 2) := dk_21_ (show cX9_walkItem.data.toList[214]? = some 0x15 from (LBX9_walkItemr_13 6).trans (by decide +kernel)) (show cX9_walkItem.data.toList[215]? = some 0x04 from (LBX9_walkItemr_13 7).trans (by decide +kernel)) (by decide)
theorem dX9_walkItem_216 : decode cX9_walkItem 216 = .ok (.iload_n 1, 1) := dk_27_ (show cX9_walkItem.data.toList[216]? = some 0x1b from (LBX9_walkItemr_13 8).trans (by decide +kernel))
theorem dX9_walkItem_217 : decode cX9_walkItem 217 = .ok (.iastore, 1) := dk_79_ (show cX9_walkItem.data.toList[217]? = some 0x4f from (LBX9_walkItemr_13 9).trans (by decide +kernel))
theorem dX9_walkItem_218 : decode cX9_walkItem 218 = .ok (.iconst 2, 1) := dk_5_ (show cX9_walkItem.data.toList[218]? = some 0x05 from (LBX9_walkItemr_13 10).trans (by decide +kernel))
theorem dX9_walkItem_219 : decode cX9_walkItem 219 = .ok (.istore 5, 2) := dk_54_ (show cX9_walkItem.data.toList[219]? = some 0x36 from (LBX9_walkItemr_13 11).trans (by decide +kernel)) (show cX9_walkItem.data.toList[220]? = some 0x05 from (LBX9_walkItemr_13 12).trans (by decide +kernel)) (by decide)
theorem dX9_walkItem_221 : decode cX9_walkItem 221 = .ok (.iload 5, 2) := dk_21_ (show cX9_walkItem.data.toList[221]? = some 0x15 from (LBX9_walkItemr_13 13).trans (by decide +kernel)) (show cX9_walkItem.data.toList[222]? = some 0x05 from (LBX9_walkItemr_13 14).trans (by decide +kernel)) (by decide)
theorem dX9_walkItem_223 : decode cX9_walkItem 223 = .ok (.iload_n 1, 1) := dk_27_ (show cX9_walkItem.data.toList[223]? = some 0x1b from (LBX9_walkItemr_13 15).trans (by decide +kernel))
theorem dX9_walkItem_224 : decode cX9_walkItem 224 = .ok (.if_icmp .ge 28, 3) := dk_162_ (show cX9_walkItem.data.toList[224]? = some 0xa2 from (LBX9_walkItemr_14 0).trans (by decide +kernel)) (show cX9_walkItem.data.toList[225]? = some 0x00 from (LBX9_walkItemr_14 1).trans (by decide +kernel)) (show cX9_walkItem.data.toList[226]? = some 0x1c from (LBX9_walkItemr_14 2).trans (by decide +kernel)) (by decide)
theorem dX9_walkItem_227 : decode cX9_walkItem 227 = .ok (.aload_n 0, 1) := dk_42_ (show cX9_walkItem.data.toList[227]? = some 0x2a from (LBX9_walkItemr_14 3).trans (by decide +kernel))
theorem dX9_walkItem_228 : decode cX9_walkItem 228 = .ok (.getfield 7, 3) := dk_180_ (show cX9_walkItem.data.toList[228]? = some 0xb4 from (LBX9_walkItemr_14 4).trans (by decide +kernel)) (show cX9_walkItem.data.toList[229]? = some 0x00 from (LBX9_walkItemr_14 5).trans (by decide +kernel)) (show cX9_walkItem.data.toList[230]? = some 0x07 from (LBX9_walkItemr_14 6).trans (by decide +kernel)) (by decide)
theorem dX9_walkItem_231 : decode cX9_walkItem 231 = .ok (.iload 4, 2) := dk_21_ (show cX9_walkItem.data.toList[231]? = some 0x15 from (LBX9_walkItemr_14 7).trans (by decide +kernel)) (show cX9_walkItem.data.toList[232]? = some 0x04 from (LBX9_walkItemr_14 8).trans (by decide +kernel)) (by decide)
theorem dX9_walkItem_233 : decode cX9_walkItem 233 = .ok (.iconst 3, 1) := dk_6_ (show cX9_walkItem.data.toList[233]? = some 0x06 from (LBX9_walkItemr_14 9).trans (by decide +kernel))
theorem dX9_walkItem_234 : decode cX9_walkItem 234 = .ok (.iadd, 1) := dk_96_ (show cX9_walkItem.data.toList[234]? = some 0x60 from (LBX9_walkItemr_14 10).trans (by decide +kernel))
theorem dX9_walkItem_235 : decode cX9_walkItem 235 = .ok (.iload 5, 2) := dk_21_ (show cX9_walkItem.data.toList[235]? = some 0x15 from (LBX9_walkItemr_14 11).trans (by decide +kernel)) (show cX9_walkItem.data.toList[236]? = some 0x05 from (LBX9_walkItemr_14 12).trans (by decide +kernel)) (by decide)
theorem dX9_walkItem_237 : decode cX9_walkItem 237 = .ok (.iadd, 1) := dk_96_ (show cX9_walkItem.data.toList[237]? = some 0x60 from (LBX9_walkItemr_14 13).trans (by decide +kernel))
theorem dX9_walkItem_238 : decode cX9_walkItem 238 = .ok (.aload_n 0, 1) := dk_42_ (show cX9_walkItem.data.toList[238]? = some 0x2a from (LBX9_walkItemr_14 14).trans (by decide +kernel))
theorem dX9_walkItem_239 : decode cX9_walkItem 239 = .ok (.getfield 40, 3) := dk_180_ (show cX9_walkItem.data.toList[239]? = some 0xb4 from (LBX9_walkItemr_14 15).trans (by decide +kernel)) (show cX9_walkItem.data.toList[240]? = some 0x00 from (LBX9_walkItemr_15 0).trans (by decide +kernel)) (show cX9_walkItem.data.toList[241]? = some 0x28 from (LBX9_walkItemr_15 1).trans (by decide +kernel)) (by decide)
theorem dX9_walkItem_242 : decode cX9_walkItem 242 = .ok (.iload 5, 2) := dk_21_ (show cX9_walkItem.data.toList[242]? = some 0x15 from (LBX9_walkItemr_15 2).trans (by decide +kernel)) (show cX9_walkItem.data.toList[243]? = some 0x05 from (LBX9_walkItemr_15 3).trans (by decide +kernel)) (by decide)
theorem dX9_walkItem_244 : decode cX9_walkItem 244 = .ok (.iaload, 1) := dk_46_ (show cX9_walkItem.data.toList[244]? = some 0x2e from (LBX9_walkItemr_15 4).trans (by decide +kernel))
theorem dX9_walkItem_245 : decode cX9_walkItem 245 = .ok (.iastore, 1) := dk_79_ (show cX9_walkItem.data.toList[245]? = some 0x4f from (LBX9_walkItemr_15 5).trans (by decide +kernel))
theorem dX9_walkItem_246 : decode cX9_walkItem 246 = .ok (.iinc 5 1, 3) := dk_132_ (show cX9_walkItem.data.toList[246]? = some 0x84 from (LBX9_walkItemr_15 6).trans (by decide +kernel)) (show cX9_walkItem.data.toList[247]? = some 0x05 from (LBX9_walkItemr_15 7).trans (by decide +kernel)) (show cX9_walkItem.data.toList[248]? = some 0x01 from (LBX9_walkItemr_15 8).trans (by decide +kernel)) (by decide) (by decide)
theorem dX9_walkItem_249 : decode cX9_walkItem 249 = .ok (.goto (-28), 3) := dk_167_ (show cX9_walkItem.data.toList[249]? = some 0xa7 from (LBX9_walkItemr_15 9).trans (by decide +kernel)) (show cX9_walkItem.data.toList[250]? = some 0xff from (LBX9_walkItemr_15 10).trans (by decide +kernel)) (show cX9_walkItem.data.toList[251]? = some 0xe4 from (LBX9_walkItemr_15 11).trans (by decide +kernel)) (by decide)
theorem dX9_walkItem_252 : decode cX9_walkItem 252 = .ok (.return_, 1) := dk_177_ (show cX9_walkItem.data.toList[252]? = some 0xb1 from (LBX9_walkItemr_15 12).trans (by decide +kernel))
def LRX9_item_10 : List UInt8 := []
def LBX9_item_9 : List UInt8 := [0x2a, 0xb4, 0x00, 0x07, 0x06, 0x1b, 0x60, 0x2a, 0xb4, 0x01, 0x13, 0x4f, 0xb1]
def LRX9_item_9 : List UInt8 := LBX9_item_9 ++ LRX9_item_10
def LBX9_item_8 : List UInt8 := [0x01, 0x16, 0x2a, 0x03, 0x10, 0x63, 0xb6, 0x01, 0x1a, 0x2a, 0xb4, 0x01, 0x0a, 0x9a, 0x00, 0x0f]
def LRX9_item_8 : List UInt8 := LBX9_item_8 ++ LRX9_item_9
def LBX9_item_7 : List UInt8 := [0x61, 0x10, 0x6e, 0x10, 0x64, 0x10, 0x73, 0xb6, 0x01, 0x22, 0x99, 0x00, 0x22, 0x2a, 0x04, 0xb6]
def LRX9_item_7 : List UInt8 := LBX9_item_7 ++ LRX9_item_8
def LBX9_item_6 : List UInt8 := [0xa7, 0x00, 0x07, 0x2a, 0xb6, 0x00, 0x4a, 0x3c, 0x2a, 0x10, 0x65, 0x10, 0x72, 0x10, 0x72, 0x10]
def LRX9_item_6 : List UInt8 := LBX9_item_6 ++ LRX9_item_7
def LBX9_item_5 : List UInt8 := [0x04, 0xa7, 0x00, 0x04, 0x03, 0xb6, 0x01, 0x16, 0x2a, 0xb4, 0x01, 0x0a, 0x99, 0x00, 0x07, 0x03]
def LRX9_item_5 : List UInt8 := LBX9_item_5 ++ LRX9_item_6
def LBX9_item_4 : List UInt8 := [0x01, 0x22, 0x99, 0x00, 0x12, 0x2a, 0xb4, 0x00, 0x07, 0x03, 0x2e, 0x10, 0x0a, 0xa2, 0x00, 0x07]
def LRX9_item_4 : List UInt8 := LBX9_item_4 ++ LRX9_item_5
def LBX9_item_3 : List UInt8 := [0x6e, 0x2a, 0x2a, 0x10, 0x70, 0x10, 0x6c, 0x10, 0x61, 0x10, 0x63, 0x10, 0x65, 0x03, 0x03, 0xb6]
def LRX9_item_3 : List UInt8 := LBX9_item_3 ++ LRX9_item_4
def LBX9_item_2 : List UInt8 := [0x6b, 0x03, 0x03, 0x03, 0xb6, 0x01, 0x22, 0x99, 0x00, 0x0a, 0x2a, 0xb6, 0x01, 0x29, 0xa7, 0x00]
def LRX9_item_2 : List UInt8 := LBX9_item_2 ++ LRX9_item_3
def LBX9_item_1 : List UInt8 := [0x0a, 0x2a, 0xb6, 0x01, 0x26, 0xa7, 0x00, 0x87, 0x2a, 0x10, 0x77, 0x10, 0x61, 0x10, 0x6c, 0x10]
def LRX9_item_1 : List UInt8 := LBX9_item_1 ++ LRX9_item_2
def LBX9_item_0 : List UInt8 := [0x2a, 0x10, 0x77, 0x10, 0x61, 0x10, 0x79, 0x03, 0x03, 0x03, 0x03, 0xb6, 0x01, 0x22, 0x99, 0x00]
def LRX9_item_0 : List UInt8 := LBX9_item_0 ++ LRX9_item_1
set_option maxRecDepth 100000 in
theorem LBX9_item_eq : cX9_item.data.toList = LRX9_item_0 := by decide +kernel
theorem LBX9_itemr_0 (k : Nat) : cX9_item.data.toList[0 + k]? = LRX9_item_0[k]? := by rw [LBX9_item_eq, Nat.zero_add]
theorem LBX9_itemr_1 (k : Nat) : cX9_item.data.toList[16 + k]? = LRX9_item_1[k]? := by
  have h := LBX9_itemr_0 (16 + k)
  rw [show 0 + (16 + k) = 16 + k by omega] at h
  rw [h]
  exact (List.getElem?_append_right (l₁ := LBX9_item_0) (l₂ := LRX9_item_1) (show 16 ≤ 16 + k by omega)).trans (congrArg (fun i => LRX9_item_1[i]?) (show 16 + k - 16 = k by omega))
theorem LBX9_itemr_2 (k : Nat) : cX9_item.data.toList[32 + k]? = LRX9_item_2[k]? := by
  have h := LBX9_itemr_1 (16 + k)
  rw [show 16 + (16 + k) = 32 + k by omega] at h
  rw [h]
  exact (List.getElem?_append_right (l₁ := LBX9_item_1) (l₂ := LRX9_item_2) (show 16 ≤ 16 + k by omega)).trans (congrArg (fun i => LRX9_item_2[i]?) (show 16 + k - 16 = k by omega))
theorem LBX9_itemr_3 (k : Nat) : cX9_item.data.toList[48 + k]? = LRX9_item_3[k]? := by
  have h := LBX9_itemr_2 (16 + k)
  rw [show 32 + (16 + k) = 48 + k by omega] at h
  rw [h]
  exact (List.getElem?_append_right (l₁ := LBX9_item_2) (l₂ := LRX9_item_3) (show 16 ≤ 16 + k by omega)).trans (congrArg (fun i => LRX9_item_3[i]?) (show 16 + k - 16 = k by omega))
theorem LBX9_itemr_4 (k : Nat) : cX9_item.data.toList[64 + k]? = LRX9_item_4[k]? := by
  have h := LBX9_itemr_3 (16 + k)
  rw [show 48 + (16 + k) = 64 + k by omega] at h
  rw [h]
  exact (List.getElem?_append_right (l₁ := LBX9_item_3) (l₂ := LRX9_item_4) (show 16 ≤ 16 + k by omega)).trans (congrArg (fun i => LRX9_item_4[i]?) (show 16 + k - 16 = k by omega))
theorem LBX9_itemr_5 (k : Nat) : cX9_item.data.toList[80 + k]? = LRX9_item_5[k]? := by
  have h := LBX9_itemr_4 (16 + k)
  rw [show 64 + (16 + k) = 80 + k by omega] at h
  rw [h]
  exact (List.getElem?_append_right (l₁ := LBX9_item_4) (l₂ := LRX9_item_5) (show 16 ≤ 16 + k by omega)).trans (congrArg (fun i => LRX9_item_5[i]?) (show 16 + k - 16 = k by omega))
theorem LBX9_itemr_6 (k : Nat) : cX9_item.data.toList[96 + k]? = LRX9_item_6[k]? := by
  have h := LBX9_itemr_5 (16 + k)
  rw [show 80 + (16 + k) = 96 + k by omega] at h
  rw [h]
  exact (List.getElem?_append_right (l₁ := LBX9_item_5) (l₂ := LRX9_item_6) (show 16 ≤ 16 + k by omega)).trans (congrArg (fun i => LRX9_item_6[i]?) (show 16 + k - 16 = k by omega))
theorem LBX9_itemr_7 (k : Nat) : cX9_item.data.toList[112 + k]? = LRX9_item_7[k]? := by
  have h := LBX9_itemr_6 (16 + k)
  rw [show 96 + (16 + k) = 112 + k by omega] at h
  rw [h]
  exact (List.getElem?_append_right (l₁ := LBX9_item_6) (l₂ := LRX9_item_7) (show 16 ≤ 16 + k by omega)).trans (congrArg (fun i => LRX9_item_7[i]?) (show 16 + k - 16 = k by omega))
theorem LBX9_itemr_8 (k : Nat) : cX9_item.data.toList[128 + k]? = LRX9_item_8[k]? := by
  have h := LBX9_itemr_7 (16 + k)
  rw [show 112 + (16 + k) = 128 + k by omega] at h
  rw [h]
  exact (List.getElem?_append_right (l₁ := LBX9_item_7) (l₂ := LRX9_item_8) (show 16 ≤ 16 + k by omega)).trans (congrArg (fun i => LRX9_item_8[i]?) (show 16 + k - 16 = k by omega))
theorem LBX9_itemr_9 (k : Nat) : cX9_item.data.toList[144 + k]? = LRX9_item_9[k]? := by
  have h := LBX9_itemr_8 (16 + k)
  rw [show 128 + (16 + k) = 144 + k by omega] at h
  rw [h]
  exact (List.getElem?_append_right (l₁ := LBX9_item_8) (l₂ := LRX9_item_9) (show 16 ≤ 16 + k by omega)).trans (congrArg (fun i => LRX9_item_9[i]?) (show 16 + k - 16 = k by omega))
theorem dX9_item_0 : decode cX9_item 0 = .ok (.aload_n 0, 1) := dk_42_ (show cX9_item.data.toList[0]? = some 0x2a from (LBX9_itemr_0 0).trans (by decide +kernel))
theorem dX9_item_1 : decode cX9_item 1 = .ok (.bipush 119, 2) := dk_16_ (show cX9_item.data.toList[1]? = some 0x10 from (LBX9_itemr_0 1).trans (by decide +kernel)) (show cX9_item.data.toList[2]? = some 0x77 from (LBX9_itemr_0 2).trans (by decide +kernel)) (by decide)
theorem dX9_item_3 : decode cX9_item 3 = .ok (.bipush 97, 2) := dk_16_ (show cX9_item.data.toList[3]? = some 0x10 from (LBX9_itemr_0 3).trans (by decide +kernel)) (show cX9_item.data.toList[4]? = some 0x61 from (LBX9_itemr_0 4).trans (by decide +kernel)) (by decide)
theorem dX9_item_5 : decode cX9_item 5 = .ok (.bipush 121, 2) := dk_16_ (show cX9_item.data.toList[5]? = some 0x10 from (LBX9_itemr_0 5).trans (by decide +kernel)) (show cX9_item.data.toList[6]? = some 0x79 from (LBX9_itemr_0 6).trans (by decide +kernel)) (by decide)
theorem dX9_item_7 : decode cX9_item 7 = .ok (.iconst 0, 1) := dk_3_ (show cX9_item.data.toList[7]? = some 0x03 from (LBX9_itemr_0 7).trans (by decide +kernel))
theorem dX9_item_8 : decode cX9_item 8 = .ok (.iconst 0, 1) := dk_3_ (show cX9_item.data.toList[8]? = some 0x03 from (LBX9_itemr_0 8).trans (by decide +kernel))
theorem dX9_item_9 : decode cX9_item 9 = .ok (.iconst 0, 1) := dk_3_ (show cX9_item.data.toList[9]? = some 0x03 from (LBX9_itemr_0 9).trans (by decide +kernel))
theorem dX9_item_10 : decode cX9_item 10 = .ok (.iconst 0, 1) := dk_3_ (show cX9_item.data.toList[10]? = some 0x03 from (LBX9_itemr_0 10).trans (by decide +kernel))
theorem dX9_item_11 : decode cX9_item 11 = .ok (.invokevirtual 290, 3) := dk_182_ (show cX9_item.data.toList[11]? = some 0xb6 from (LBX9_itemr_0 11).trans (by decide +kernel)) (show cX9_item.data.toList[12]? = some 0x01 from (LBX9_itemr_0 12).trans (by decide +kernel)) (show cX9_item.data.toList[13]? = some 0x22 from (LBX9_itemr_0 13).trans (by decide +kernel)) (by decide)
theorem dX9_item_14 : decode cX9_item 14 = .ok (.ifCond .eq 10, 3) := dk_153_ (show cX9_item.data.toList[14]? = some 0x99 from (LBX9_itemr_0 14).trans (by decide +kernel)) (show cX9_item.data.toList[15]? = some 0x00 from (LBX9_itemr_0 15).trans (by decide +kernel)) (show cX9_item.data.toList[16]? = some 0x0a from (LBX9_itemr_1 0).trans (by decide +kernel)) (by decide)
theorem dX9_item_24 : decode cX9_item 24 = .ok (.aload_n 0, 1) := dk_42_ (show cX9_item.data.toList[24]? = some 0x2a from (LBX9_itemr_1 8).trans (by decide +kernel))
theorem dX9_item_25 : decode cX9_item 25 = .ok (.bipush 119, 2) := dk_16_ (show cX9_item.data.toList[25]? = some 0x10 from (LBX9_itemr_1 9).trans (by decide +kernel)) (show cX9_item.data.toList[26]? = some 0x77 from (LBX9_itemr_1 10).trans (by decide +kernel)) (by decide)
theorem dX9_item_27 : decode cX9_item 27 = .ok (.bipush 97, 2) := dk_16_ (show cX9_item.data.toList[27]? = some 0x10 from (LBX9_itemr_1 11).trans (by decide +kernel)) (show cX9_item.data.toList[28]? = some 0x61 from (LBX9_itemr_1 12).trans (by decide +kernel)) (by decide)
theorem dX9_item_29 : decode cX9_item 29 = .ok (.bipush 108, 2) := dk_16_ (show cX9_item.data.toList[29]? = some 0x10 from (LBX9_itemr_1 13).trans (by decide +kernel)) (show cX9_item.data.toList[30]? = some 0x6c from (LBX9_itemr_1 14).trans (by decide +kernel)) (by decide)
theorem dX9_item_31 : decode cX9_item 31 = .ok (.bipush 107, 2) := dk_16_ (show cX9_item.data.toList[31]? = some 0x10 from (LBX9_itemr_1 15).trans (by decide +kernel)) (show cX9_item.data.toList[32]? = some 0x6b from (LBX9_itemr_2 0).trans (by decide +kernel)) (by decide)
theorem dX9_item_33 : decode cX9_item 33 = .ok (.iconst 0, 1) := dk_3_ (show cX9_item.data.toList[33]? = some 0x03 from (LBX9_itemr_2 1).trans (by decide +kernel))
theorem dX9_item_34 : decode cX9_item 34 = .ok (.iconst 0, 1) := dk_3_ (show cX9_item.data.toList[34]? = some 0x03 from (LBX9_itemr_2 2).trans (by decide +kernel))
theorem dX9_item_35 : decode cX9_item 35 = .ok (.iconst 0, 1) := dk_3_ (show cX9_item.data.toList[35]? = some 0x03 from (LBX9_itemr_2 3).trans (by decide +kernel))
theorem dX9_item_36 : decode cX9_item 36 = .ok (.invokevirtual 290, 3) := dk_182_ (show cX9_item.data.toList[36]? = some 0xb6 from (LBX9_itemr_2 4).trans (by decide +kernel)) (show cX9_item.data.toList[37]? = some 0x01 from (LBX9_itemr_2 5).trans (by decide +kernel)) (show cX9_item.data.toList[38]? = some 0x22 from (LBX9_itemr_2 6).trans (by decide +kernel)) (by decide)
theorem dX9_item_39 : decode cX9_item 39 = .ok (.ifCond .eq 10, 3) := dk_153_ (show cX9_item.data.toList[39]? = some 0x99 from (LBX9_itemr_2 7).trans (by decide +kernel)) (show cX9_item.data.toList[40]? = some 0x00 from (LBX9_itemr_2 8).trans (by decide +kernel)) (show cX9_item.data.toList[41]? = some 0x0a from (LBX9_itemr_2 9).trans (by decide +kernel)) (by decide)
theorem dX9_item_49 : decode cX9_item 49 = .ok (.aload_n 0, 1) := dk_42_ (show cX9_item.data.toList[49]? = some 0x2a from (LBX9_itemr_3 1).trans (by decide +kernel))
theorem dX9_item_50 : decode cX9_item 50 = .ok (.aload_n 0, 1) := dk_42_ (show cX9_item.data.toList[50]? = some 0x2a from (LBX9_itemr_3 2).trans (by decide +kernel))
theorem dX9_item_51 : decode cX9_item 51 = .ok (.bipush 112, 2) := dk_16_ (show cX9_item.data.toList[51]? = some 0x10 from (LBX9_itemr_3 3).trans (by decide +kernel)) (show cX9_item.data.toList[52]? = some 0x70 from (LBX9_itemr_3 4).trans (by decide +kernel)) (by decide)
theorem dX9_item_53 : decode cX9_item 53 = .ok (.bipush 108, 2) := dk_16_ (show cX9_item.data.toList[53]? = some 0x10 from (LBX9_itemr_3 5).trans (by decide +kernel)) (show cX9_item.data.toList[54]? = some 0x6c from (LBX9_itemr_3 6).trans (by decide +kernel)) (by decide)
theorem dX9_item_55 : decode cX9_item 55 = .ok (.bipush 97, 2) := dk_16_ (show cX9_item.data.toList[55]? = some 0x10 from (LBX9_itemr_3 7).trans (by decide +kernel)) (show cX9_item.data.toList[56]? = some 0x61 from (LBX9_itemr_3 8).trans (by decide +kernel)) (by decide)
theorem dX9_item_57 : decode cX9_item 57 = .ok (.bipush 99, 2) := dk_16_ (show cX9_item.data.toList[57]? = some 0x10 from (LBX9_itemr_3 9).trans (by decide +kernel)) (show cX9_item.data.toList[58]? = some 0x63 from (LBX9_itemr_3 10).trans (by decide +kernel)) (by decide)
theorem dX9_item_59 : decode cX9_item 59 = .ok (.bipush 101, 2) := dk_16_ (show cX9_item.data.toList[59]? = some 0x10 from (LBX9_itemr_3 11).trans (by decide +kernel)) (show cX9_item.data.toList[60]? = some 0x65 from (LBX9_itemr_3 12).trans (by decide +kernel)) (by decide)
theorem dX9_item_61 : decode cX9_item 61 = .ok (.iconst 0, 1) := dk_3_ (show cX9_item.data.toList[61]? = some 0x03 from (LBX9_itemr_3 13).trans (by decide +kernel))
theorem dX9_item_62 : decode cX9_item 62 = .ok (.iconst 0, 1) := dk_3_ (show cX9_item.data.toList[62]? = some 0x03 from (LBX9_itemr_3 14).trans (by decide +kernel))
theorem dX9_item_63 : decode cX9_item 63 = .ok (.invokevirtual 290, 3) := dk_182_ (show cX9_item.data.toList[63]? = some 0xb6 from (LBX9_itemr_3 15).trans (by decide +kernel)) (show cX9_item.data.toList[64]? = some 0x01 from (LBX9_itemr_4 0).trans (by decide +kernel)) (show cX9_item.data.toList[65]? = some 0x22 from (LBX9_itemr_4 1).trans (by decide +kernel)) (by decide)
theorem dX9_item_66 : decode cX9_item 66 = .ok (.ifCond .eq 18, 3) := dk_153_ (show cX9_item.data.toList[66]? = some 0x99 from (LBX9_itemr_4 2).trans (by decide +kernel)) (show cX9_item.data.toList[67]? = some 0x00 from (LBX9_itemr_4 3).trans (by decide +kernel)) (show cX9_item.data.toList[68]? = some 0x12 from (LBX9_itemr_4 4).trans (by decide +kernel)) (by decide)
theorem dX9_item_84 : decode cX9_item 84 = .ok (.iconst 0, 1) := dk_3_ (show cX9_item.data.toList[84]? = some 0x03 from (LBX9_itemr_5 4).trans (by decide +kernel))
theorem dX9_item_85 : decode cX9_item 85 = .ok (.invokevirtual 278, 3) := dk_182_ (show cX9_item.data.toList[85]? = some 0xb6 from (LBX9_itemr_5 5).trans (by decide +kernel)) (show cX9_item.data.toList[86]? = some 0x01 from (LBX9_itemr_5 6).trans (by decide +kernel)) (show cX9_item.data.toList[87]? = some 0x16 from (LBX9_itemr_5 7).trans (by decide +kernel)) (by decide)
theorem dX9_item_88 : decode cX9_item 88 = .ok (.aload_n 0, 1) := dk_42_ (show cX9_item.data.toList[88]? = some 0x2a from (LBX9_itemr_5 8).trans (by decide +kernel))
theorem dX9_item_89 : decode cX9_item 89 = .ok (.getfield 266, 3) := dk_180_ (show cX9_item.data.toList[89]? = some 0xb4 from (LBX9_itemr_5 9).trans (by decide +kernel)) (show cX9_item.data.toList[90]? = some 0x01 from (LBX9_itemr_5 10).trans (by decide +kernel)) (show cX9_item.data.toList[91]? = some 0x0a from (LBX9_itemr_5 11).trans (by decide +kernel)) (by decide)
theorem dX9_item_92 : decode cX9_item 92 = .ok (.ifCond .eq 7, 3) := dk_153_ (show cX9_item.data.toList[92]? = some 0x99 from (LBX9_itemr_5 12).trans (by decide +kernel)) (show cX9_item.data.toList[93]? = some 0x00 from (LBX9_itemr_5 13).trans (by decide +kernel)) (show cX9_item.data.toList[94]? = some 0x07 from (LBX9_itemr_5 14).trans (by decide +kernel)) (by decide)
theorem dX9_item_95 : decode cX9_item 95 = .ok (.iconst 0, 1) := dk_3_ (show cX9_item.data.toList[95]? = some 0x03 from (LBX9_itemr_5 15).trans (by decide +kernel))
theorem dX9_item_96 : decode cX9_item 96 = .ok (.goto 7, 3) := dk_167_ (show cX9_item.data.toList[96]? = some 0xa7 from (LBX9_itemr_6 0).trans (by decide +kernel)) (show cX9_item.data.toList[97]? = some 0x00 from (LBX9_itemr_6 1).trans (by decide +kernel)) (show cX9_item.data.toList[98]? = some 0x07 from (LBX9_itemr_6 2).trans (by decide +kernel)) (by decide)
theorem dX9_item_103 : decode cX9_item 103 = .ok (.istore_n 1, 1) := dk_60_ (show cX9_item.data.toList[103]? = some 0x3c from (LBX9_itemr_6 7).trans (by decide +kernel))
theorem dX9_item_104 : decode cX9_item 104 = .ok (.aload_n 0, 1) := dk_42_ (show cX9_item.data.toList[104]? = some 0x2a from (LBX9_itemr_6 8).trans (by decide +kernel))
theorem dX9_item_105 : decode cX9_item 105 = .ok (.bipush 101, 2) := dk_16_ (show cX9_item.data.toList[105]? = some 0x10 from (LBX9_itemr_6 9).trans (by decide +kernel)) (show cX9_item.data.toList[106]? = some 0x65 from (LBX9_itemr_6 10).trans (by decide +kernel)) (by decide)
theorem dX9_item_107 : decode cX9_item 107 = .ok (.bipush 114, 2) := dk_16_ (show cX9_item.data.toList[107]? = some 0x10 from (LBX9_itemr_6 11).trans (by decide +kernel)) (show cX9_item.data.toList[108]? = some 0x72 from (LBX9_itemr_6 12).trans (by decide +kernel)) (by decide)
theorem dX9_item_109 : decode cX9_item 109 = .ok (.bipush 114, 2) := dk_16_ (show cX9_item.data.toList[109]? = some 0x10 from (LBX9_itemr_6 13).trans (by decide +kernel)) (show cX9_item.data.toList[110]? = some 0x72 from (LBX9_itemr_6 14).trans (by decide +kernel)) (by decide)
theorem dX9_item_111 : decode cX9_item 111 = .ok (.bipush 97, 2) := dk_16_ (show cX9_item.data.toList[111]? = some 0x10 from (LBX9_itemr_6 15).trans (by decide +kernel)) (show cX9_item.data.toList[112]? = some 0x61 from (LBX9_itemr_7 0).trans (by decide +kernel)) (by decide)
theorem dX9_item_113 : decode cX9_item 113 = .ok (.bipush 110, 2) := dk_16_ (show cX9_item.data.toList[113]? = some 0x10 from (LBX9_itemr_7 1).trans (by decide +kernel)) (show cX9_item.data.toList[114]? = some 0x6e from (LBX9_itemr_7 2).trans (by decide +kernel)) (by decide)
theorem dX9_item_115 : decode cX9_item 115 = .ok (.bipush 100, 2) := dk_16_ (show cX9_item.data.toList[115]? = some 0x10 from (LBX9_itemr_7 3).trans (by decide +kernel)) (show cX9_item.data.toList[116]? = some 0x64 from (LBX9_itemr_7 4).trans (by decide +kernel)) (by decide)
theorem dX9_item_117 : decode cX9_item 117 = .ok (.bipush 115, 2) := dk_16_ (show cX9_item.data.toList[117]? = some 0x10 from (LBX9_itemr_7 5).trans (by decide +kernel)) (show cX9_item.data.toList[118]? = some 0x73 from (LBX9_itemr_7 6).trans (by decide +kernel)) (by decide)
theorem dX9_item_119 : decode cX9_item 119 = .ok (.invokevirtual 290, 3) := dk_182_ (show cX9_item.data.toList[119]? = some 0xb6 from (LBX9_itemr_7 7).trans (by decide +kernel)) (show cX9_item.data.toList[120]? = some 0x01 from (LBX9_itemr_7 8).trans (by decide +kernel)) (show cX9_item.data.toList[121]? = some 0x22 from (LBX9_itemr_7 9).trans (by decide +kernel)) (by decide)
theorem dX9_item_122 : decode cX9_item 122 = .ok (.ifCond .eq 34, 3) := dk_153_ (show cX9_item.data.toList[122]? = some 0x99 from (LBX9_itemr_7 10).trans (by decide +kernel)) (show cX9_item.data.toList[123]? = some 0x00 from (LBX9_itemr_7 11).trans (by decide +kernel)) (show cX9_item.data.toList[124]? = some 0x22 from (LBX9_itemr_7 12).trans (by decide +kernel)) (by decide)
theorem dX9_item_156 : decode cX9_item 156 = .ok (.return_, 1) := dk_177_ (show cX9_item.data.toList[156]? = some 0xb1 from (LBX9_itemr_9 12).trans (by decide +kernel))
theorem dX9_item_17 : decode cX9_item 17 = .ok (.aload_n 0, 1) := dk_42_ (show cX9_item.data.toList[17]? = some 0x2a from (LBX9_itemr_1 1).trans (by decide +kernel))
theorem dX9_item_18 : decode cX9_item 18 = .ok (.invokevirtual 294, 3) := dk_182_ (show cX9_item.data.toList[18]? = some 0xb6 from (LBX9_itemr_1 2).trans (by decide +kernel)) (show cX9_item.data.toList[19]? = some 0x01 from (LBX9_itemr_1 3).trans (by decide +kernel)) (show cX9_item.data.toList[20]? = some 0x26 from (LBX9_itemr_1 4).trans (by decide +kernel)) (by decide)
theorem dX9_item_21 : decode cX9_item 21 = .ok (.goto 135, 3) := dk_167_ (show cX9_item.data.toList[21]? = some 0xa7 from (LBX9_itemr_1 5).trans (by decide +kernel)) (show cX9_item.data.toList[22]? = some 0x00 from (LBX9_itemr_1 6).trans (by decide +kernel)) (show cX9_item.data.toList[23]? = some 0x87 from (LBX9_itemr_1 7).trans (by decide +kernel)) (by decide)
theorem dX9_item_42 : decode cX9_item 42 = .ok (.aload_n 0, 1) := dk_42_ (show cX9_item.data.toList[42]? = some 0x2a from (LBX9_itemr_2 10).trans (by decide +kernel))
theorem dX9_item_43 : decode cX9_item 43 = .ok (.invokevirtual 297, 3) := dk_182_ (show cX9_item.data.toList[43]? = some 0xb6 from (LBX9_itemr_2 11).trans (by decide +kernel)) (show cX9_item.data.toList[44]? = some 0x01 from (LBX9_itemr_2 12).trans (by decide +kernel)) (show cX9_item.data.toList[45]? = some 0x29 from (LBX9_itemr_2 13).trans (by decide +kernel)) (by decide)
theorem dX9_item_46 : decode cX9_item 46 = .ok (.goto 110, 3) := dk_167_ (show cX9_item.data.toList[46]? = some 0xa7 from (LBX9_itemr_2 14).trans (by decide +kernel)) (show cX9_item.data.toList[47]? = some 0x00 from (LBX9_itemr_2 15).trans (by decide +kernel)) (show cX9_item.data.toList[48]? = some 0x6e from (LBX9_itemr_3 0).trans (by decide +kernel)) (by decide)
theorem dX9_item_69 : decode cX9_item 69 = .ok (.aload_n 0, 1) := dk_42_ (show cX9_item.data.toList[69]? = some 0x2a from (LBX9_itemr_4 5).trans (by decide +kernel))
theorem dX9_item_70 : decode cX9_item 70 = .ok (.getfield 7, 3) := dk_180_ (show cX9_item.data.toList[70]? = some 0xb4 from (LBX9_itemr_4 6).trans (by decide +kernel)) (show cX9_item.data.toList[71]? = some 0x00 from (LBX9_itemr_4 7).trans (by decide +kernel)) (show cX9_item.data.toList[72]? = some 0x07 from (LBX9_itemr_4 8).trans (by decide +kernel)) (by decide)
theorem dX9_item_73 : decode cX9_item 73 = .ok (.iconst 0, 1) := dk_3_ (show cX9_item.data.toList[73]? = some 0x03 from (LBX9_itemr_4 9).trans (by decide +kernel))
theorem dX9_item_74 : decode cX9_item 74 = .ok (.iaload, 1) := dk_46_ (show cX9_item.data.toList[74]? = some 0x2e from (LBX9_itemr_4 10).trans (by decide +kernel))
theorem dX9_item_75 : decode cX9_item 75 = .ok (.bipush 10, 2) := dk_16_ (show cX9_item.data.toList[75]? = some 0x10 from (LBX9_itemr_4 11).trans (by decide +kernel)) (show cX9_item.data.toList[76]? = some 0x0a from (LBX9_itemr_4 12).trans (by decide +kernel)) (by decide)
theorem dX9_item_77 : decode cX9_item 77 = .ok (.if_icmp .ge 7, 3) := dk_162_ (show cX9_item.data.toList[77]? = some 0xa2 from (LBX9_itemr_4 13).trans (by decide +kernel)) (show cX9_item.data.toList[78]? = some 0x00 from (LBX9_itemr_4 14).trans (by decide +kernel)) (show cX9_item.data.toList[79]? = some 0x07 from (LBX9_itemr_4 15).trans (by decide +kernel)) (by decide)
theorem dX9_item_80 : decode cX9_item 80 = .ok (.iconst 1, 1) := dk_4_ (show cX9_item.data.toList[80]? = some 0x04 from (LBX9_itemr_5 0).trans (by decide +kernel))
theorem dX9_item_81 : decode cX9_item 81 = .ok (.goto 4, 3) := dk_167_ (show cX9_item.data.toList[81]? = some 0xa7 from (LBX9_itemr_5 1).trans (by decide +kernel)) (show cX9_item.data.toList[82]? = some 0x00 from (LBX9_itemr_5 2).trans (by decide +kernel)) (show cX9_item.data.toList[83]? = some 0x04 from (LBX9_itemr_5 3).trans (by decide +kernel)) (by decide)
theorem dX9_item_99 : decode cX9_item 99 = .ok (.aload_n 0, 1) := dk_42_ (show cX9_item.data.toList[99]? = some 0x2a from (LBX9_itemr_6 3).trans (by decide +kernel))
theorem dX9_item_100 : decode cX9_item 100 = .ok (.invokevirtual 74, 3) := dk_182_ (show cX9_item.data.toList[100]? = some 0xb6 from (LBX9_itemr_6 4).trans (by decide +kernel)) (show cX9_item.data.toList[101]? = some 0x00 from (LBX9_itemr_6 5).trans (by decide +kernel)) (show cX9_item.data.toList[102]? = some 0x4a from (LBX9_itemr_6 6).trans (by decide +kernel)) (by decide)
theorem dX9_item_125 : decode cX9_item 125 = .ok (.aload_n 0, 1) := dk_42_ (show cX9_item.data.toList[125]? = some 0x2a from (LBX9_itemr_7 13).trans (by decide +kernel))
theorem dX9_item_126 : decode cX9_item 126 = .ok (.iconst 1, 1) := dk_4_ (show cX9_item.data.toList[126]? = some 0x04 from (LBX9_itemr_7 14).trans (by decide +kernel))
theorem dX9_item_127 : decode cX9_item 127 = .ok (.invokevirtual 278, 3) := dk_182_ (show cX9_item.data.toList[127]? = some 0xb6 from (LBX9_itemr_7 15).trans (by decide +kernel)) (show cX9_item.data.toList[128]? = some 0x01 from (LBX9_itemr_8 0).trans (by decide +kernel)) (show cX9_item.data.toList[129]? = some 0x16 from (LBX9_itemr_8 1).trans (by decide +kernel)) (by decide)
theorem dX9_item_130 : decode cX9_item 130 = .ok (.aload_n 0, 1) := dk_42_ (show cX9_item.data.toList[130]? = some 0x2a from (LBX9_itemr_8 2).trans (by decide +kernel))
theorem dX9_item_131 : decode cX9_item 131 = .ok (.iconst 0, 1) := dk_3_ (show cX9_item.data.toList[131]? = some 0x03 from (LBX9_itemr_8 3).trans (by decide +kernel))
theorem dX9_item_132 : decode cX9_item 132 = .ok (.bipush 99, 2) := dk_16_ (show cX9_item.data.toList[132]? = some 0x10 from (LBX9_itemr_8 4).trans (by decide +kernel)) (show cX9_item.data.toList[133]? = some 0x63 from (LBX9_itemr_8 5).trans (by decide +kernel)) (by decide)
theorem dX9_item_134 : decode cX9_item 134 = .ok (.invokevirtual 282, 3) := dk_182_ (show cX9_item.data.toList[134]? = some 0xb6 from (LBX9_itemr_8 6).trans (by decide +kernel)) (show cX9_item.data.toList[135]? = some 0x01 from (LBX9_itemr_8 7).trans (by decide +kernel)) (show cX9_item.data.toList[136]? = some 0x1a from (LBX9_itemr_8 8).trans (by decide +kernel)) (by decide)
theorem dX9_item_137 : decode cX9_item 137 = .ok (.aload_n 0, 1) := dk_42_ (show cX9_item.data.toList[137]? = some 0x2a from (LBX9_itemr_8 9).trans (by decide +kernel))
theorem dX9_item_138 : decode cX9_item 138 = .ok (.getfield 266, 3) := dk_180_ (show cX9_item.data.toList[138]? = some 0xb4 from (LBX9_itemr_8 10).trans (by decide +kernel)) (show cX9_item.data.toList[139]? = some 0x01 from (LBX9_itemr_8 11).trans (by decide +kernel)) (show cX9_item.data.toList[140]? = some 0x0a from (LBX9_itemr_8 12).trans (by decide +kernel)) (by decide)
theorem dX9_item_141 : decode cX9_item 141 = .ok (.ifCond .ne 15, 3) := dk_154_ (show cX9_item.data.toList[141]? = some 0x9a from (LBX9_itemr_8 13).trans (by decide +kernel)) (show cX9_item.data.toList[142]? = some 0x00 from (LBX9_itemr_8 14).trans (by decide +kernel)) (show cX9_item.data.toList[143]? = some 0x0f from (LBX9_itemr_8 15).trans (by decide +kernel)) (by decide)
theorem dX9_item_144 : decode cX9_item 144 = .ok (.aload_n 0, 1) := dk_42_ (show cX9_item.data.toList[144]? = some 0x2a from (LBX9_itemr_9 0).trans (by decide +kernel))
theorem dX9_item_145 : decode cX9_item 145 = .ok (.getfield 7, 3) := dk_180_ (show cX9_item.data.toList[145]? = some 0xb4 from (LBX9_itemr_9 1).trans (by decide +kernel)) (show cX9_item.data.toList[146]? = some 0x00 from (LBX9_itemr_9 2).trans (by decide +kernel)) (show cX9_item.data.toList[147]? = some 0x07 from (LBX9_itemr_9 3).trans (by decide +kernel)) (by decide)
theorem dX9_item_148 : decode cX9_item 148 = .ok (.iconst 3, 1) := dk_6_ (show cX9_item.data.toList[148]? = some 0x06 from (LBX9_itemr_9 4).trans (by decide +kernel))
theorem dX9_item_149 : decode cX9_item 149 = .ok (.iload_n 1, 1) := dk_27_ (show cX9_item.data.toList[149]? = some 0x1b from (LBX9_itemr_9 5).trans (by decide +kernel))
theorem dX9_item_150 : decode cX9_item 150 = .ok (.iadd, 1) := dk_96_ (show cX9_item.data.toList[150]? = some 0x60 from (LBX9_itemr_9 6).trans (by decide +kernel))
theorem dX9_item_151 : decode cX9_item 151 = .ok (.aload_n 0, 1) := dk_42_ (show cX9_item.data.toList[151]? = some 0x2a from (LBX9_itemr_9 7).trans (by decide +kernel))
theorem dX9_item_152 : decode cX9_item 152 = .ok (.getfield 275, 3) := dk_180_ (show cX9_item.data.toList[152]? = some 0xb4 from (LBX9_itemr_9 8).trans (by decide +kernel)) (show cX9_item.data.toList[153]? = some 0x01 from (LBX9_itemr_9 9).trans (by decide +kernel)) (show cX9_item.data.toList[154]? = some 0x13 from (LBX9_itemr_9 10).trans (by decide +kernel)) (by decide)
theorem dX9_item_155 : decode cX9_item 155 = .ok (.iastore, 1) := dk_79_ (show cX9_item.data.toList[155]? = some 0x4f from (LBX9_itemr_9 11).trans (by decide +kernel))
def LRX9_land_7 : List UInt8 := []
def LBX9_land_6 : List UInt8 := [0xac, 0x1b, 0xac]
def LRX9_land_6 : List UInt8 := LBX9_land_6 ++ LRX9_land_7
def LBX9_land_5 : List UInt8 := [0xb4, 0x01, 0x0a, 0x99, 0x00, 0x0e, 0x2a, 0xb6, 0x00, 0xdc, 0x02, 0x2a, 0xb4, 0x00, 0xfe, 0x64]
def LRX9_land_5 : List UInt8 := LBX9_land_5 ++ LRX9_land_6
def LBX9_land_4 : List UInt8 := [0x2a, 0xb6, 0x01, 0x2c, 0x84, 0x01, 0x01, 0xa7, 0xff, 0xd1, 0x2a, 0x03, 0xb5, 0x00, 0xf0, 0x2a]
def LRX9_land_4 : List UInt8 := LBX9_land_4 ++ LRX9_land_5
def LBX9_land_3 : List UInt8 := [0xb6, 0x01, 0x01, 0x10, 0x3b, 0xa0, 0x00, 0x07, 0x04, 0xa7, 0x00, 0x04, 0x03, 0xb6, 0x01, 0x16]
def LRX9_land_3 : List UInt8 := LBX9_land_3 ++ LRX9_land_4
def LBX9_land_2 : List UInt8 := [0xb4, 0x00, 0xfe, 0x2a, 0xb4, 0x00, 0xf0, 0xa2, 0x00, 0x23, 0x2a, 0x2a, 0x2a, 0xb4, 0x00, 0xfe]
def LRX9_land_2 : List UInt8 := LBX9_land_2 ++ LRX9_land_3
def LBX9_land_1 : List UInt8 := [0x01, 0x0d, 0x04, 0x3c, 0x2a, 0xb6, 0x01, 0x2c, 0x2a, 0xb4, 0x01, 0x0a, 0x9a, 0x00, 0x2e, 0x2a]
def LRX9_land_1 : List UInt8 := LBX9_land_1 ++ LRX9_land_2
def LBX9_land_0 : List UInt8 := [0x2a, 0xb6, 0x00, 0xd9, 0x2a, 0x03, 0xb5, 0x00, 0xfb, 0x2a, 0x03, 0xb5, 0x01, 0x0a, 0x2a, 0xb6]
def LRX9_land_0 : List UInt8 := LBX9_land_0 ++ LRX9_land_1
set_option maxRecDepth 100000 in
theorem LBX9_land_eq : cX9_land.data.toList = LRX9_land_0 := by decide +kernel
theorem LBX9_landr_0 (k : Nat) : cX9_land.data.toList[0 + k]? = LRX9_land_0[k]? := by rw [LBX9_land_eq, Nat.zero_add]
theorem LBX9_landr_1 (k : Nat) : cX9_land.data.toList[16 + k]? = LRX9_land_1[k]? := by
  have h := LBX9_landr_0 (16 + k)
  rw [show 0 + (16 + k) = 16 + k by omega] at h
  rw [h]
  exact (List.getElem?_append_right (l₁ := LBX9_land_0) (l₂ := LRX9_land_1) (show 16 ≤ 16 + k by omega)).trans (congrArg (fun i => LRX9_land_1[i]?) (show 16 + k - 16 = k by omega))
theorem LBX9_landr_2 (k : Nat) : cX9_land.data.toList[32 + k]? = LRX9_land_2[k]? := by
  have h := LBX9_landr_1 (16 + k)
  rw [show 16 + (16 + k) = 32 + k by omega] at h
  rw [h]
  exact (List.getElem?_append_right (l₁ := LBX9_land_1) (l₂ := LRX9_land_2) (show 16 ≤ 16 + k by omega)).trans (congrArg (fun i => LRX9_land_2[i]?) (show 16 + k - 16 = k by omega))
theorem LBX9_landr_3 (k : Nat) : cX9_land.data.toList[48 + k]? = LRX9_land_3[k]? := by
  have h := LBX9_landr_2 (16 + k)
  rw [show 32 + (16 + k) = 48 + k by omega] at h
  rw [h]
  exact (List.getElem?_append_right (l₁ := LBX9_land_2) (l₂ := LRX9_land_3) (show 16 ≤ 16 + k by omega)).trans (congrArg (fun i => LRX9_land_3[i]?) (show 16 + k - 16 = k by omega))
theorem LBX9_landr_4 (k : Nat) : cX9_land.data.toList[64 + k]? = LRX9_land_4[k]? := by
  have h := LBX9_landr_3 (16 + k)
  rw [show 48 + (16 + k) = 64 + k by omega] at h
  rw [h]
  exact (List.getElem?_append_right (l₁ := LBX9_land_3) (l₂ := LRX9_land_4) (show 16 ≤ 16 + k by omega)).trans (congrArg (fun i => LRX9_land_4[i]?) (show 16 + k - 16 = k by omega))
theorem LBX9_landr_5 (k : Nat) : cX9_land.data.toList[80 + k]? = LRX9_land_5[k]? := by
  have h := LBX9_landr_4 (16 + k)
  rw [show 64 + (16 + k) = 80 + k by omega] at h
  rw [h]
  exact (List.getElem?_append_right (l₁ := LBX9_land_4) (l₂ := LRX9_land_5) (show 16 ≤ 16 + k by omega)).trans (congrArg (fun i => LRX9_land_5[i]?) (show 16 + k - 16 = k by omega))
theorem LBX9_landr_6 (k : Nat) : cX9_land.data.toList[96 + k]? = LRX9_land_6[k]? := by
  have h := LBX9_landr_5 (16 + k)
  rw [show 80 + (16 + k) = 96 + k by omega] at h
  rw [h]
  exact (List.getElem?_append_right (l₁ := LBX9_land_5) (l₂ := LRX9_land_6) (show 16 ≤ 16 + k by omega)).trans (congrArg (fun i => LRX9_land_6[i]?) (show 16 + k - 16 = k by omega))
theorem dX9_land_0 : decode cX9_land 0 = .ok (.aload_n 0, 1) := dk_42_ (show cX9_land.data.toList[0]? = some 0x2a from (LBX9_landr_0 0).trans (by decide +kernel))
theorem dX9_land_1 : decode cX9_land 1 = .ok (.invokevirtual 217, 3) := dk_182_ (show cX9_land.data.toList[1]? = some 0xb6 from (LBX9_landr_0 1).trans (by decide +kernel)) (show cX9_land.data.toList[2]? = some 0x00 from (LBX9_landr_0 2).trans (by decide +kernel)) (show cX9_land.data.toList[3]? = some 0xd9 from (LBX9_landr_0 3).trans (by decide +kernel)) (by decide)
theorem dX9_land_4 : decode cX9_land 4 = .ok (.aload_n 0, 1) := dk_42_ (show cX9_land.data.toList[4]? = some 0x2a from (LBX9_landr_0 4).trans (by decide +kernel))
theorem dX9_land_5 : decode cX9_land 5 = .ok (.iconst 0, 1) := dk_3_ (show cX9_land.data.toList[5]? = some 0x03 from (LBX9_landr_0 5).trans (by decide +kernel))
theorem dX9_land_6 : decode cX9_land 6 = .ok (.putfield 251, 3) := dk_181_ (show cX9_land.data.toList[6]? = some 0xb5 from (LBX9_landr_0 6).trans (by decide +kernel)) (show cX9_land.data.toList[7]? = some 0x00 from (LBX9_landr_0 7).trans (by decide +kernel)) (show cX9_land.data.toList[8]? = some 0xfb from (LBX9_landr_0 8).trans (by decide +kernel)) (by decide)
theorem dX9_land_9 : decode cX9_land 9 = .ok (.aload_n 0, 1) := dk_42_ (show cX9_land.data.toList[9]? = some 0x2a from (LBX9_landr_0 9).trans (by decide +kernel))
theorem dX9_land_10 : decode cX9_land 10 = .ok (.iconst 0, 1) := dk_3_ (show cX9_land.data.toList[10]? = some 0x03 from (LBX9_landr_0 10).trans (by decide +kernel))
theorem dX9_land_11 : decode cX9_land 11 = .ok (.putfield 266, 3) := dk_181_ (show cX9_land.data.toList[11]? = some 0xb5 from (LBX9_landr_0 11).trans (by decide +kernel)) (show cX9_land.data.toList[12]? = some 0x01 from (LBX9_landr_0 12).trans (by decide +kernel)) (show cX9_land.data.toList[13]? = some 0x0a from (LBX9_landr_0 13).trans (by decide +kernel)) (by decide)
theorem dX9_land_14 : decode cX9_land 14 = .ok (.aload_n 0, 1) := dk_42_ (show cX9_land.data.toList[14]? = some 0x2a from (LBX9_landr_0 14).trans (by decide +kernel))
theorem dX9_land_15 : decode cX9_land 15 = .ok (.invokevirtual 269, 3) := dk_182_ (show cX9_land.data.toList[15]? = some 0xb6 from (LBX9_landr_0 15).trans (by decide +kernel)) (show cX9_land.data.toList[16]? = some 0x01 from (LBX9_landr_1 0).trans (by decide +kernel)) (show cX9_land.data.toList[17]? = some 0x0d from (LBX9_landr_1 1).trans (by decide +kernel)) (by decide)
theorem dX9_land_18 : decode cX9_land 18 = .ok (.iconst 1, 1) := dk_4_ (show cX9_land.data.toList[18]? = some 0x04 from (LBX9_landr_1 2).trans (by decide +kernel))
theorem dX9_land_19 : decode cX9_land 19 = .ok (.istore_n 1, 1) := dk_60_ (show cX9_land.data.toList[19]? = some 0x3c from (LBX9_landr_1 3).trans (by decide +kernel))
theorem dX9_land_20 : decode cX9_land 20 = .ok (.aload_n 0, 1) := dk_42_ (show cX9_land.data.toList[20]? = some 0x2a from (LBX9_landr_1 4).trans (by decide +kernel))
theorem dX9_land_21 : decode cX9_land 21 = .ok (.invokevirtual 300, 3) := dk_182_ (show cX9_land.data.toList[21]? = some 0xb6 from (LBX9_landr_1 5).trans (by decide +kernel)) (show cX9_land.data.toList[22]? = some 0x01 from (LBX9_landr_1 6).trans (by decide +kernel)) (show cX9_land.data.toList[23]? = some 0x2c from (LBX9_landr_1 7).trans (by decide +kernel)) (by decide)
theorem dX9_land_24 : decode cX9_land 24 = .ok (.aload_n 0, 1) := dk_42_ (show cX9_land.data.toList[24]? = some 0x2a from (LBX9_landr_1 8).trans (by decide +kernel))
theorem dX9_land_25 : decode cX9_land 25 = .ok (.getfield 266, 3) := dk_180_ (show cX9_land.data.toList[25]? = some 0xb4 from (LBX9_landr_1 9).trans (by decide +kernel)) (show cX9_land.data.toList[26]? = some 0x01 from (LBX9_landr_1 10).trans (by decide +kernel)) (show cX9_land.data.toList[27]? = some 0x0a from (LBX9_landr_1 11).trans (by decide +kernel)) (by decide)
theorem dX9_land_28 : decode cX9_land 28 = .ok (.ifCond .ne 46, 3) := dk_154_ (show cX9_land.data.toList[28]? = some 0x9a from (LBX9_landr_1 12).trans (by decide +kernel)) (show cX9_land.data.toList[29]? = some 0x00 from (LBX9_landr_1 13).trans (by decide +kernel)) (show cX9_land.data.toList[30]? = some 0x2e from (LBX9_landr_1 14).trans (by decide +kernel)) (by decide)
theorem dX9_land_31 : decode cX9_land 31 = .ok (.aload_n 0, 1) := dk_42_ (show cX9_land.data.toList[31]? = some 0x2a from (LBX9_landr_1 15).trans (by decide +kernel))
theorem dX9_land_32 : decode cX9_land 32 = .ok (.getfield 254, 3) := dk_180_ (show cX9_land.data.toList[32]? = some 0xb4 from (LBX9_landr_2 0).trans (by decide +kernel)) (show cX9_land.data.toList[33]? = some 0x00 from (LBX9_landr_2 1).trans (by decide +kernel)) (show cX9_land.data.toList[34]? = some 0xfe from (LBX9_landr_2 2).trans (by decide +kernel)) (by decide)
theorem dX9_land_35 : decode cX9_land 35 = .ok (.aload_n 0, 1) := dk_42_ (show cX9_land.data.toList[35]? = some 0x2a from (LBX9_landr_2 3).trans (by decide +kernel))
theorem dX9_land_36 : decode cX9_land 36 = .ok (.getfield 240, 3) := dk_180_ (show cX9_land.data.toList[36]? = some 0xb4 from (LBX9_landr_2 4).trans (by decide +kernel)) (show cX9_land.data.toList[37]? = some 0x00 from (LBX9_landr_2 5).trans (by decide +kernel)) (show cX9_land.data.toList[38]? = some 0xf0 from (LBX9_landr_2 6).trans (by decide +kernel)) (by decide)
theorem dX9_land_39 : decode cX9_land 39 = .ok (.if_icmp .ge 35, 3) := dk_162_ (show cX9_land.data.toList[39]? = some 0xa2 from (LBX9_landr_2 7).trans (by decide +kernel)) (show cX9_land.data.toList[40]? = some 0x00 from (LBX9_landr_2 8).trans (by decide +kernel)) (show cX9_land.data.toList[41]? = some 0x23 from (LBX9_landr_2 9).trans (by decide +kernel)) (by decide)
theorem dX9_land_42 : decode cX9_land 42 = .ok (.aload_n 0, 1) := dk_42_ (show cX9_land.data.toList[42]? = some 0x2a from (LBX9_landr_2 10).trans (by decide +kernel))
theorem dX9_land_43 : decode cX9_land 43 = .ok (.aload_n 0, 1) := dk_42_ (show cX9_land.data.toList[43]? = some 0x2a from (LBX9_landr_2 11).trans (by decide +kernel))
theorem dX9_land_44 : decode cX9_land 44 = .ok (.aload_n 0, 1) := dk_42_ (show cX9_land.data.toList[44]? = some 0x2a from (LBX9_landr_2 12).trans (by decide +kernel))
theorem dX9_land_45 : decode cX9_land 45 = .ok (.getfield 254, 3) := dk_180_ (show cX9_land.data.toList[45]? = some 0xb4 from (LBX9_landr_2 13).trans (by decide +kernel)) (show cX9_land.data.toList[46]? = some 0x00 from (LBX9_landr_2 14).trans (by decide +kernel)) (show cX9_land.data.toList[47]? = some 0xfe from (LBX9_landr_2 15).trans (by decide +kernel)) (by decide)
theorem dX9_land_48 : decode cX9_land 48 = .ok (.invokevirtual 257, 3) := dk_182_ (show cX9_land.data.toList[48]? = some 0xb6 from (LBX9_landr_3 0).trans (by decide +kernel)) (show cX9_land.data.toList[49]? = some 0x01 from (LBX9_landr_3 1).trans (by decide +kernel)) (show cX9_land.data.toList[50]? = some 0x01 from (LBX9_landr_3 2).trans (by decide +kernel)) (by decide)
theorem dX9_land_51 : decode cX9_land 51 = .ok (.bipush 59, 2) := dk_16_ (show cX9_land.data.toList[51]? = some 0x10 from (LBX9_landr_3 3).trans (by decide +kernel)) (show cX9_land.data.toList[52]? = some 0x3b from (LBX9_landr_3 4).trans (by decide +kernel)) (by decide)
theorem dX9_land_53 : decode cX9_land 53 = .ok (.if_icmp .ne 7, 3) := dk_160_ (show cX9_land.data.toList[53]? = some 0xa0 from (LBX9_landr_3 5).trans (by decide +kernel)) (show cX9_land.data.toList[54]? = some 0x00 from (LBX9_landr_3 6).trans (by decide +kernel)) (show cX9_land.data.toList[55]? = some 0x07 from (LBX9_landr_3 7).trans (by decide +kernel)) (by decide)
theorem dX9_land_56 : decode cX9_land 56 = .ok (.iconst 1, 1) := dk_4_ (show cX9_land.data.toList[56]? = some 0x04 from (LBX9_landr_3 8).trans (by decide +kernel))
theorem dX9_land_57 : decode cX9_land 57 = .ok (.goto 4, 3) := dk_167_ (show cX9_land.data.toList[57]? = some 0xa7 from (LBX9_landr_3 9).trans (by decide +kernel)) (show cX9_land.data.toList[58]? = some 0x00 from (LBX9_landr_3 10).trans (by decide +kernel)) (show cX9_land.data.toList[59]? = some 0x04 from (LBX9_landr_3 11).trans (by decide +kernel)) (by decide)
theorem dX9_land_60 : decode cX9_land 60 = .ok (.iconst 0, 1) := dk_3_ (show cX9_land.data.toList[60]? = some 0x03 from (LBX9_landr_3 12).trans (by decide +kernel))
theorem dX9_land_61 : decode cX9_land 61 = .ok (.invokevirtual 278, 3) := dk_182_ (show cX9_land.data.toList[61]? = some 0xb6 from (LBX9_landr_3 13).trans (by decide +kernel)) (show cX9_land.data.toList[62]? = some 0x01 from (LBX9_landr_3 14).trans (by decide +kernel)) (show cX9_land.data.toList[63]? = some 0x16 from (LBX9_landr_3 15).trans (by decide +kernel)) (by decide)
theorem dX9_land_64 : decode cX9_land 64 = .ok (.aload_n 0, 1) := dk_42_ (show cX9_land.data.toList[64]? = some 0x2a from (LBX9_landr_4 0).trans (by decide +kernel))
theorem dX9_land_65 : decode cX9_land 65 = .ok (.invokevirtual 300, 3) := dk_182_ (show cX9_land.data.toList[65]? = some 0xb6 from (LBX9_landr_4 1).trans (by decide +kernel)) (show cX9_land.data.toList[66]? = some 0x01 from (LBX9_landr_4 2).trans (by decide +kernel)) (show cX9_land.data.toList[67]? = some 0x2c from (LBX9_landr_4 3).trans (by decide +kernel)) (by decide)
theorem dX9_land_68 : decode cX9_land 68 = .ok (.iinc 1 1, 3) := dk_132_ (show cX9_land.data.toList[68]? = some 0x84 from (LBX9_landr_4 4).trans (by decide +kernel)) (show cX9_land.data.toList[69]? = some 0x01 from (LBX9_landr_4 5).trans (by decide +kernel)) (show cX9_land.data.toList[70]? = some 0x01 from (LBX9_landr_4 6).trans (by decide +kernel)) (by decide) (by decide)
theorem dX9_land_71 : decode cX9_land 71 = .ok (.goto (-47), 3) := dk_167_ (show cX9_land.data.toList[71]? = some 0xa7 from (LBX9_landr_4 7).trans (by decide +kernel)) (show cX9_land.data.toList[72]? = some 0xff from (LBX9_landr_4 8).trans (by decide +kernel)) (show cX9_land.data.toList[73]? = some 0xd1 from (LBX9_landr_4 9).trans (by decide +kernel)) (by decide)
theorem dX9_land_74 : decode cX9_land 74 = .ok (.aload_n 0, 1) := dk_42_ (show cX9_land.data.toList[74]? = some 0x2a from (LBX9_landr_4 10).trans (by decide +kernel))
theorem dX9_land_75 : decode cX9_land 75 = .ok (.iconst 0, 1) := dk_3_ (show cX9_land.data.toList[75]? = some 0x03 from (LBX9_landr_4 11).trans (by decide +kernel))
theorem dX9_land_76 : decode cX9_land 76 = .ok (.putfield 240, 3) := dk_181_ (show cX9_land.data.toList[76]? = some 0xb5 from (LBX9_landr_4 12).trans (by decide +kernel)) (show cX9_land.data.toList[77]? = some 0x00 from (LBX9_landr_4 13).trans (by decide +kernel)) (show cX9_land.data.toList[78]? = some 0xf0 from (LBX9_landr_4 14).trans (by decide +kernel)) (by decide)
theorem dX9_land_79 : decode cX9_land 79 = .ok (.aload_n 0, 1) := dk_42_ (show cX9_land.data.toList[79]? = some 0x2a from (LBX9_landr_4 15).trans (by decide +kernel))
theorem dX9_land_80 : decode cX9_land 80 = .ok (.getfield 266, 3) := dk_180_ (show cX9_land.data.toList[80]? = some 0xb4 from (LBX9_landr_5 0).trans (by decide +kernel)) (show cX9_land.data.toList[81]? = some 0x01 from (LBX9_landr_5 1).trans (by decide +kernel)) (show cX9_land.data.toList[82]? = some 0x0a from (LBX9_landr_5 2).trans (by decide +kernel)) (by decide)
theorem dX9_land_83 : decode cX9_land 83 = .ok (.ifCond .eq 14, 3) := dk_153_ (show cX9_land.data.toList[83]? = some 0x99 from (LBX9_landr_5 3).trans (by decide +kernel)) (show cX9_land.data.toList[84]? = some 0x00 from (LBX9_landr_5 4).trans (by decide +kernel)) (show cX9_land.data.toList[85]? = some 0x0e from (LBX9_landr_5 5).trans (by decide +kernel)) (by decide)
theorem dX9_land_86 : decode cX9_land 86 = .ok (.aload_n 0, 1) := dk_42_ (show cX9_land.data.toList[86]? = some 0x2a from (LBX9_landr_5 6).trans (by decide +kernel))
theorem dX9_land_87 : decode cX9_land 87 = .ok (.invokevirtual 220, 3) := dk_182_ (show cX9_land.data.toList[87]? = some 0xb6 from (LBX9_landr_5 7).trans (by decide +kernel)) (show cX9_land.data.toList[88]? = some 0x00 from (LBX9_landr_5 8).trans (by decide +kernel)) (show cX9_land.data.toList[89]? = some 0xdc from (LBX9_landr_5 9).trans (by decide +kernel)) (by decide)
theorem dX9_land_90 : decode cX9_land 90 = .ok (.iconst (-1), 1) := dk_2_ (show cX9_land.data.toList[90]? = some 0x02 from (LBX9_landr_5 10).trans (by decide +kernel))
theorem dX9_land_91 : decode cX9_land 91 = .ok (.aload_n 0, 1) := dk_42_ (show cX9_land.data.toList[91]? = some 0x2a from (LBX9_landr_5 11).trans (by decide +kernel))
theorem dX9_land_92 : decode cX9_land 92 = .ok (.getfield 254, 3) := dk_180_ (show cX9_land.data.toList[92]? = some 0xb4 from (LBX9_landr_5 12).trans (by decide +kernel)) (show cX9_land.data.toList[93]? = some 0x00 from (LBX9_landr_5 13).trans (by decide +kernel)) (show cX9_land.data.toList[94]? = some 0xfe from (LBX9_landr_5 14).trans (by decide +kernel)) (by decide)
theorem dX9_land_95 : decode cX9_land 95 = .ok (.isub, 1) := dk_100_ (show cX9_land.data.toList[95]? = some 0x64 from (LBX9_landr_5 15).trans (by decide +kernel))
theorem dX9_land_96 : decode cX9_land 96 = .ok (.ireturn, 1) := dk_172_ (show cX9_land.data.toList[96]? = some 0xac from (LBX9_landr_6 0).trans (by decide +kernel))
theorem dX9_land_97 : decode cX9_land 97 = .ok (.iload_n 1, 1) := dk_27_ (show cX9_land.data.toList[97]? = some 0x1b from (LBX9_landr_6 1).trans (by decide +kernel))
theorem dX9_land_98 : decode cX9_land 98 = .ok (.ireturn, 1) := dk_172_ (show cX9_land.data.toList[98]? = some 0xac from (LBX9_landr_6 2).trans (by decide +kernel))
theorem uw880 : Cond.methodLink RX9 284 yX9_numberHere ∈ wsU := ut6 (List.mem_of_getElem? (i := 164) rfl) rfl
theorem uw881 : Cond.instanceMethod yX9_numberHere ∈ wsU := ut6 (List.mem_of_getElem? (i := 166) rfl) rfl
theorem uw882 : Cond.selects RX9 yX9_numberHere yX9_numberHere ∈ wsU := us_sel (q := (yX9_numberHere, 27)) (List.mem_of_getElem? (i := 74) (by decide +kernel)) rfl
theorem uw883 : Cond.code yX9_numberHere cX9_numberHere 3 (some .int) ∈ wsU := ut6 (List.mem_of_getElem? (i := 167) rfl) rfl
theorem uw884 : Cond.methodLink RX9 287 yX9_mile ∈ wsU := ut6 (List.mem_of_getElem? (i := 168) rfl) rfl
theorem uw885 : Cond.instanceMethod yX9_mile ∈ wsU := ut6 (List.mem_of_getElem? (i := 170) rfl) rfl
theorem uw886 : Cond.selects RX9 yX9_mile yX9_mile ∈ wsU := us_sel (q := (yX9_mile, 27)) (List.mem_of_getElem? (i := 75) (by decide +kernel)) rfl
theorem uw887 : Cond.code yX9_mile cX9_mile 4 none ∈ wsU := ut6 (List.mem_of_getElem? (i := 171) rfl) rfl
theorem uw888 : Cond.methodLink RX9 290 yX9_isWord ∈ wsU := ut6 (List.mem_of_getElem? (i := 144) rfl) rfl
theorem uw889 : Cond.instanceMethod yX9_isWord ∈ wsU := ut6 (List.mem_of_getElem? (i := 146) rfl) rfl
theorem uw890 : Cond.selects RX9 yX9_isWord yX9_isWord ∈ wsU := us_sel (q := (yX9_isWord, 27)) (List.mem_of_getElem? (i := 69) (by decide +kernel)) rfl
theorem uw891 : Cond.code yX9_isWord cX9_isWord 9 (some .boolean) ∈ wsU := ut6 (List.mem_of_getElem? (i := 147) rfl) rfl
theorem uw892 : Cond.fieldLink RX9 40 "LongerBackModel" "walked" "[I" ∈ wsU := ut4 (List.mem_of_getElem? (i := 230) rfl) rfl
theorem uw893 : Cond.methodLink RX9 294 yX9_wayItem ∈ wsU := ut6 (List.mem_of_getElem? (i := 152) rfl) rfl
theorem uw894 : Cond.instanceMethod yX9_wayItem ∈ wsU := ut6 (List.mem_of_getElem? (i := 154) rfl) rfl
theorem uw895 : Cond.selects RX9 yX9_wayItem yX9_wayItem ∈ wsU := us_sel (q := (yX9_wayItem, 27)) (List.mem_of_getElem? (i := 71) (by decide +kernel)) rfl
theorem uw896 : Cond.code yX9_wayItem cX9_wayItem 7 none ∈ wsU := ut6 (List.mem_of_getElem? (i := 155) rfl) rfl
theorem uw897 : Cond.methodLink RX9 297 yX9_walkItem ∈ wsU := ut6 (List.mem_of_getElem? (i := 172) rfl) rfl
theorem uw898 : Cond.instanceMethod yX9_walkItem ∈ wsU := ut6 (List.mem_of_getElem? (i := 174) rfl) rfl
theorem uw899 : Cond.selects RX9 yX9_walkItem yX9_walkItem ∈ wsU := us_sel (q := (yX9_walkItem, 27)) (List.mem_of_getElem? (i := 76) (by decide +kernel)) rfl
theorem uw900 : Cond.code yX9_walkItem cX9_walkItem 6 none ∈ wsU := ut6 (List.mem_of_getElem? (i := 175) rfl) rfl
theorem uw901 : Cond.methodLink RX9 300 yX9_item ∈ wsU := ut6 (List.mem_of_getElem? (i := 140) rfl) rfl
theorem uw902 : Cond.instanceMethod yX9_item ∈ wsU := ut6 (List.mem_of_getElem? (i := 142) rfl) rfl
theorem uw903 : Cond.selects RX9 yX9_item yX9_item ∈ wsU := us_sel (q := (yX9_item, 27)) (List.mem_of_getElem? (i := 68) (by decide +kernel)) rfl
theorem uw904 : Cond.code yX9_item cX9_item 2 none ∈ wsU := ut6 (List.mem_of_getElem? (i := 143) rfl) rfl
theorem kv_X9_284 : xWV RX9 284 RX9 yX9_numberHere cX9_numberHere 3 (some .int) 0 := ⟨⟨uw880, uw881, uw882, uw657, uw883⟩, by decide +kernel⟩
theorem kv_X9_287 : xWV RX9 287 RX9 yX9_mile cX9_mile 4 none 2 := ⟨⟨uw884, uw885, uw886, uw657, uw887⟩, by decide +kernel⟩
theorem kv_X9_290 : xWV RX9 290 RX9 yX9_isWord cX9_isWord 9 (some .boolean) 7 := ⟨⟨uw888, uw889, uw890, uw657, uw891⟩, by decide +kernel⟩
theorem kf_X9_40 : xWF RX9 40 9 22 RX9 TX9 27 := ⟨inUX9, rfl, by decide, uw892⟩
theorem kv_X9_294 : xWV RX9 294 RX9 yX9_wayItem cX9_wayItem 7 none 0 := ⟨⟨uw893, uw894, uw895, uw657, uw896⟩, by decide +kernel⟩
theorem kv_X9_297 : xWV RX9 297 RX9 yX9_walkItem cX9_walkItem 6 none 0 := ⟨⟨uw897, uw898, uw899, uw657, uw900⟩, by decide +kernel⟩
theorem kv_X9_300 : xWV RX9 300 RX9 yX9_item cX9_item 2 none 0 := ⟨⟨uw901, uw902, uw903, uw657, uw904⟩, by decide +kernel⟩
set_option maxHeartbeats 4000000 in
set_option maxRecDepth 100000 in
theorem c_X9_wayItem (l : Launch) (D : va_G) (cI cJ cZ cS : ClassId) (ta : Nat) (sa sv : Nat → Nat) (sz : Nat) (h0 : Nat) (ys : Nat) (yk : Nat) (yo : Nat) (yt : Nat) (mk0 : Int32) (yfa : Nat) (yfe : Nat) (mL : Int32) (mS : Int32) (mM : Int32) (yro : Nat) (yhe : Nat) (ygr : Nat) (mF : Int32) (mC : Int32) (mY : Int32) (yta : Nat) (mz : Nat) (mv : Int32) (ywa : Nat) (ybi : Nat) (ysi : Nat) (ynu : Nat) (ymo : Nat) (ms : Nat → Int32) (tp : Nat → Int32) (P : Nat) (Rn : Nat) (Wn : Nat) (fae : Nat → Int32) (fal : Nat → Int32) (fau : Nat → Int32) (fao : Nat → Int32) (farn : Nat → Int32) (farp : Nat → Int32) (fak : Nat → Int32) (fawn : Nat → Int32) (fawp : Nat → Int32) (fat : Nat → Int32) (fas : Nat → Int32) (u9 : Nat) (bb : Nat → Int32) (hz : mz ≤ 120) (hbb : bA tp mz = bb) (hu9 : u9 ≤ mz) (hs0 : ms 0 = nI P) (hs1 : ms 1 = nI Rn) (hs2 : ms 2 = nI Wn) (hsS : SI ms) (hsM : MI ms) (hsp : P ≤ 10) (hsr : Rn ≤ 8) (hsw : Wn ≤ 8) (hsR : RI Rn ms) (hsG : FR P ms fae fal fau fao farn farp fak fawn fawp fat fas) : Met l yX9_wayItem (Cond.code yX9_wayItem cX9_wayItem 7 none :: wsU) ({ frames := 6, cells := 0, slots := 0, locals := 136 }) (va_Pc [.ref h0] (XW D (xT cI cJ cZ cS) ta sa sv [(h0, .inr (9, [.ref ys, .ref yk, .ref yo, .ref yt, .int mk0, .ref yfa, .ref yfe, .int mL, .int mS, .int mM, .ref yro, .ref yhe, .ref ygr, .int mF, .int mC, .int mY, .ref yta, .int (nI (mz)), .int (nI (nf bb mz u9)), .int (nI (nx bb mz u9)), .int mv, .int 0, .ref ywa, .ref ybi, .ref ysi, .ref ynu, .ref ymo])), (ys, .inl (cI, 449, .inl ms)), (yta, .inl (cI, 120, .inl tp))] sz)) (XQv (fun (u : Nat × Int32 × Int32 × (Nat → Int32) × (Nat → Int32) × (Nat → Int32) × (Nat → Int32)) => match u with | (u2, w2, v2, ms2, gl, gu, go) => (((spWay bb mz u9 P = Sum.inr u2) ∧ (w2 = 0) ∧ (nx bb mz u9 ≤ u2) ∧ (gl = wy2 bb mz u9 (mV bb mz (wyM1 bb mz u9)) (wyBk bb mz u9) fal) ∧ (gu = wy2 bb mz u9 (wyHi bb mz u9) (wyBk bb mz u9) fau) ∧ (go = wy2 bb mz u9 1 1 fao)) ∨ ((spWay bb mz u9 P = Sum.inl u2) ∧ (w2 = 1))) ∧ (u2 ≤ mz) ∧ (ms2 0 = nI P) ∧ (ms2 1 = nI Rn) ∧ (ms2 2 = nI Wn) ∧ (SI ms2) ∧ (MI ms2) ∧ (P ≤ 10) ∧ (Rn ≤ 8) ∧ (Wn ≤ 8) ∧ (RI Rn ms2) ∧ (FR P ms2 fae gl gu go farn farp fak fawn fawp fat fas)) D (fun (u : Nat × Int32 × Int32 × (Nat → Int32) × (Nat → Int32) × (Nat → Int32) × (Nat → Int32)) => match u with | (u2, w2, v2, ms2, gl, gu, go) => [(h0, .inr (9, [.ref ys, .ref yk, .ref yo, .ref yt, .int mk0, .ref yfa, .ref yfe, .int mL, .int mS, .int mM, .ref yro, .ref yhe, .ref ygr, .int mF, .int mC, .int mY, .ref yta, .int (nI (mz)), .int (nI (nf bb mz u2)), .int (nI (nx bb mz u2)), .int v2, .int w2, .ref ywa, .ref ybi, .ref ysi, .ref ynu, .ref ymo])), (ys, .inl (cI, 449, .inl ms2)), (yta, .inl (cI, 120, .inl tp))]) (va_A [(h0, .inr (9, [.ref ys, .ref yk, .ref yo, .ref yt, .int mk0, .ref yfa, .ref yfe, .int mL, .int mS, .int mM, .ref yro, .ref yhe, .ref ygr, .int mF, .int mC, .int mY, .ref yta, .int (nI (mz)), .int (nI (nf bb mz u9)), .int (nI (nx bb mz u9)), .int mv, .int 0, .ref ywa, .ref ybi, .ref ysi, .ref ynu, .ref ymo])), (ys, .inl (cI, 449, .inl ms)), (yta, .inl (cI, 120, .inl tp))] sz)) 0 0 (va_A [(h0, .inr (9, [.ref ys, .ref yk, .ref yo, .ref yt, .int mk0, .ref yfa, .ref yfe, .int mL, .int mS, .int mM, .ref yro, .ref yhe, .ref ygr, .int mF, .int mC, .int mY, .ref yta, .int (nI (mz)), .int (nI (nf bb mz u9)), .int (nI (nx bb mz u9)), .int mv, .int 0, .ref ywa, .ref ybi, .ref ysi, .ref ynu, .ref ymo])), (ys, .inl (cI, 449, .inl ms)), (yta, .inl (cI, 120, .inl tp))] sz) := by
  refine xh (QA := fun A => XQv (fun (u : Nat × Int32 × Int32 × (Nat → Int32) × (Nat → Int32) × (Nat → Int32) × (Nat → Int32)) => match u with | (u2, w2, v2, ms2, gl, gu, go) => (((spWay bb mz u9 P = Sum.inr u2) ∧ (w2 = 0) ∧ (nx bb mz u9 ≤ u2) ∧ (gl = wy2 bb mz u9 (mV bb mz (wyM1 bb mz u9)) (wyBk bb mz u9) fal) ∧ (gu = wy2 bb mz u9 (wyHi bb mz u9) (wyBk bb mz u9) fau) ∧ (go = wy2 bb mz u9 1 1 fao)) ∨ ((spWay bb mz u9 P = Sum.inl u2) ∧ (w2 = 1))) ∧ (u2 ≤ mz) ∧ (ms2 0 = nI P) ∧ (ms2 1 = nI Rn) ∧ (ms2 2 = nI Wn) ∧ (SI ms2) ∧ (MI ms2) ∧ (P ≤ 10) ∧ (Rn ≤ 8) ∧ (Wn ≤ 8) ∧ (RI Rn ms2) ∧ (FR P ms2 fae gl gu go farn farp fak fawn fawp fat fas)) D (fun (u : Nat × Int32 × Int32 × (Nat → Int32) × (Nat → Int32) × (Nat → Int32) × (Nat → Int32)) => match u with | (u2, w2, v2, ms2, gl, gu, go) => [(h0, .inr (9, [.ref ys, .ref yk, .ref yo, .ref yt, .int mk0, .ref yfa, .ref yfe, .int mL, .int mS, .int mM, .ref yro, .ref yhe, .ref ygr, .int mF, .int mC, .int mY, .ref yta, .int (nI (mz)), .int (nI (nf bb mz u2)), .int (nI (nx bb mz u2)), .int v2, .int w2, .ref ywa, .ref ybi, .ref ysi, .ref ynu, .ref ymo])), (ys, .inl (cI, 449, .inl ms2)), (yta, .inl (cI, 120, .inl tp))]) A) (fr := fun A => A) (by decide) (Nat.le_of_ble_eq_true rfl) ?_
  intro p e s m below meth c ls A hF hr hlk hin hsz hP hK hD hN hZ hA hS hl
  have hF : CallFix p m c cX9_wayItem 7 s _ _ RX9 := hF
  have hx := hF.1
  have hb := hF.2.1
  have hml := hF.2.2.1
  have hown := hF.2.2.2.1
  have hu : ∀ w ∈ wsU, w.before _ s = true := fun w h => hF.2.2.2.2 w (List.mem_cons_of_mem _ h)
  have hl : lv_has ls 7 [(0, .ref h0)] := hl
  have htk := tk_le (b := bb) hu9
  refine lv_aload_n hx hb dX9_wayItem_0 rfl (lv_at hl 0 rfl) ?_
  refine lv_iconst (v := 1) hx hb dX9_wayItem_1 (by decide) ?_
  refine xc_Vv (wr := [(ys, .inl (cI, 449, .inl ms))]) hF (c_X9_needs1 l D cI cJ cZ cS ta sa sv s.heap.size h0 ys yk yo yt mk0 yfa yfe mL mS mM yro yhe ygr mF mC mY yta mz mv ywa ybi ysi ynu ymo tp u9 bb (by omega) hbb (by omega)) kv_X9_278 ⟨rfl, rfl, Nat.le_of_ble_eq_true rfl, Nat.le_of_ble_eq_true rfl⟩ ⟨Nat.le_of_ble_eq_true rfl, Nat.le_of_ble_eq_true rfl⟩ hK hN hZ hP hD hS hA [0, 2] [1] rfl rfl rfl rfl (by decide) 0 rfl rfl rfl rfl hl.1 rfl (Nat.le_of_ble_eq_true rfl) dX9_wayItem_2 (fun u_r_1 H locs hw_r_1 hP hD hS => ?_)
  obtain ⟨i_2, i_3⟩ := hw_r_1
  have hP : va_P D vwCl [(ys, .inl (cI, 449, .inl ms)), (h0, .inr (9, [.ref ys, .ref yk, .ref yo, .ref yt, .int mk0, .ref yfa, .ref yfe, .int mL, .int mS, .int mM, .ref yro, .ref yhe, .ref ygr, .int mF, .int mC, .int mY, .ref yta, .int (nI (mz)), .int (nI (nf bb mz (nx bb mz u9))), .int (nI (nx bb mz (nx bb mz u9))), .int mv, .int 0, .ref ywa, .ref ybi, .ref ysi, .ref ynu, .ref ymo])), (yta, .inl (cI, 120, .inl tp))] H := hP
  have hD : va_D A [(ys, .inl (cI, 449, .inl ms)), (h0, .inr (9, [.ref ys, .ref yk, .ref yo, .ref yt, .int mk0, .ref yfa, .ref yfe, .int mL, .int mS, .int mM, .ref yro, .ref yhe, .ref ygr, .int mF, .int mC, .int mY, .ref yta, .int (nI (mz)), .int (nI (nf bb mz (nx bb mz u9))), .int (nI (nx bb mz (nx bb mz u9))), .int mv, .int 0, .ref ywa, .ref ybi, .ref ysi, .ref ynu, .ref ymo])), (yta, .inl (cI, 120, .inl tp))] := hD
  refine lv_aload_n hx hb dX9_wayItem_5 rfl (lv_at hl 0 rfl) ?_
  refine lv_iconst (v := 0) hx hb dX9_wayItem_6 (by decide) ?_
  refine lv_aload_n hx hb dX9_wayItem_7 rfl (lv_at hl 0 rfl) ?_
  refine xg hF kf_X9_7 hK hP 1 rfl rfl dX9_wayItem_8 ?_
  refine lv_iconst (v := 0) hx hb dX9_wayItem_11 (by decide) ?_
  refine va_iald hx hb hK hP 0 0 rfl rfl (xin 0 449 (by decide) (by decide)) dX9_wayItem_12 ?_
  refine xl_i (y := nI (P)) hs0 ?_
  refine lv_iconst (v := 1) hx hb dX9_wayItem_13 (by decide) ?_
  refine lv_isub hx hb dX9_wayItem_14 ?_
  refine xc_Vv (wr := [(ys, .inl (cI, 449, .inl ms))]) hF (c_X9_number0 l D cI cJ cZ cS ta sa sv H.size h0 ys yk yo yt mk0 yfa yfe mL mS mM yro yhe ygr mF mC mY yta mz mv ywa ybi ysi ynu ymo tp 0 ((nI (P)) - 1) (nx bb mz u9) bb (by omega) hbb (by omega)) kv_X9_282 ⟨rfl, rfl, Nat.le_of_ble_eq_true rfl, Nat.le_of_ble_eq_true rfl⟩ ⟨Nat.le_of_ble_eq_true rfl, Nat.le_of_ble_eq_true rfl⟩ hK hN hZ hP hD hS hA [1, 2] [0] rfl rfl rfl rfl (by decide) 0 rfl rfl rfl rfl hl.1 rfl (Nat.le_of_ble_eq_true rfl) dX9_wayItem_15 (fun u_r_4 H locs hw_r_4 hP hD hS => ?_)
  obtain ⟨u2_5, w2_6, v2_7⟩ := u_r_4
  try dsimp only at hw_r_4
  obtain ⟨hw_r_4, i_8, i_9⟩ := hw_r_4
  have hP : va_P D vwCl [(ys, .inl (cI, 449, .inl ms)), (h0, .inr (9, [.ref ys, .ref yk, .ref yo, .ref yt, .int mk0, .ref yfa, .ref yfe, .int mL, .int mS, .int mM, .ref yro, .ref yhe, .ref ygr, .int mF, .int mC, .int mY, .ref yta, .int (nI (mz)), .int (nI (nf bb mz u2_5)), .int (nI (nx bb mz u2_5)), .int v2_7, .int w2_6, .ref ywa, .ref ybi, .ref ysi, .ref ynu, .ref ymo])), (yta, .inl (cI, 120, .inl tp))] H := hP
  have hD : va_D A [(ys, .inl (cI, 449, .inl ms)), (h0, .inr (9, [.ref ys, .ref yk, .ref yo, .ref yt, .int mk0, .ref yfa, .ref yfe, .int mL, .int mS, .int mM, .ref yro, .ref yhe, .ref ygr, .int mF, .int mC, .int mY, .ref yta, .int (nI (mz)), .int (nI (nf bb mz u2_5)), .int (nI (nx bb mz u2_5)), .int v2_7, .int w2_6, .ref ywa, .ref ybi, .ref ysi, .ref ynu, .ref ymo])), (yta, .inl (cI, 120, .inl tp))] := hD
  rcases hw_r_4 with ⟨h_10, h_11, h_12, h_13⟩ | ⟨h_14, h_15, h_16⟩
  · skip
    subst h_11
    subst h_12
    subst h_13
    refine lv_aload_n hx hb dX9_wayItem_18 rfl (lv_at hl 0 rfl) ?_
    refine xg hF kf_X9_275 hK hP 1 rfl rfl dX9_wayItem_19 ?_
    refine lv_istore_n (lv' := [(1, .int (nI (num bb (nf bb mz (nx bb mz u9)) (nx bb mz (nx bb mz u9))))), (0, .ref h0)]) hx hb dX9_wayItem_22 rfl hl (by decide) rfl (fun ls hl => ?_)
    refine lv_aload_n hx hb dX9_wayItem_23 rfl (lv_at hl 1 rfl) ?_
    refine xc_Vr hF (c_X9_numberHere0 l D cI cJ cZ cS ta sa sv H.size h0 ys yk yo yt mk0 yfa yfe mL mS mM yro yhe ygr mF mC mY yta mz (nI (num bb (nf bb mz (nx bb mz u9)) (nx bb mz (nx bb mz u9)))) ywa ybi ysi ynu ymo tp (nx bb mz (nx bb mz u9)) bb (by omega) hbb (by omega)) kv_X9_284 ⟨rfl, rfl, Nat.le_of_ble_eq_true rfl, Nat.le_of_ble_eq_true rfl⟩ ⟨Nat.le_of_ble_eq_true rfl, Nat.le_of_ble_eq_true rfl⟩ hK hN hZ hP hD hS hA [1, 2] rfl rfl 0 rfl rfl rfl rfl hl.1 rfl (Nat.le_of_ble_eq_true rfl) dX9_wayItem_24 (fun r_17 hw_r_17 => ?_)
    rcases hw_r_17 with ⟨rfl, h_18⟩ | ⟨rfl, h_19⟩
    · skip
      refine lv_istore_n (lv' := [(2, .int (nI (num bb (nf bb mz (nx bb mz (nx bb mz u9))) (nx bb mz (nx bb mz (nx bb mz u9)))))), (1, .int (nI (num bb (nf bb mz (nx bb mz u9)) (nx bb mz (nx bb mz u9))))), (0, .ref h0)]) hx hb dX9_wayItem_27 rfl hl (by decide) rfl (fun ls hl => ?_)
      refine lv_aload_n hx hb dX9_wayItem_28 rfl (lv_at hl 2 rfl) ?_
      refine lv_aload_n hx hb dX9_wayItem_29 rfl (lv_at hl 2 rfl) ?_
      refine lv_iload_n hx hb dX9_wayItem_30 rfl (lv_at hl 0 rfl) ?_
      refine xc_Vr hF (c_X9_isPlace l D cI cJ cZ cS ta sa sv H.size h0 ys yk yo yt mk0 yfa yfe mL mS mM yro yhe ygr mF mC mY yta mz (nf bb mz (nx bb mz (nx bb mz u9))) (nx bb mz (nx bb mz (nx bb mz u9))) (nI (num bb (nf bb mz (nx bb mz u9)) (nx bb mz (nx bb mz u9)))) 0 ywa ybi ysi ynu ymo ms P Rn Wn fae fal fau fao farn farp fak fawn fawp fat fas (nI (num bb (nf bb mz (nx bb mz (nx bb mz u9))) (nx bb mz (nx bb mz (nx bb mz u9))))) hs0 hs1 hs2 hsS hsM hsp hsr hsw hsR hsG) kv_X9_61 ⟨rfl, rfl, Nat.le_of_ble_eq_true rfl, Nat.le_of_ble_eq_true rfl⟩ ⟨Nat.le_of_ble_eq_true rfl, Nat.le_of_ble_eq_true rfl⟩ hK hN hZ hP hD hS hA [1, 0] rfl rfl 0 rfl rfl rfl rfl hl.1 rfl (Nat.le_of_ble_eq_true rfl) dX9_wayItem_31 (fun r_20 hw_r_20 => ?_)
      rcases hw_r_20 with ⟨k_21, rfl, h_22, h_23⟩ | ⟨rfl, h_24⟩
      · skip
        refine lv_if_eq (tgt := 46) hx hb dX9_wayItem_34 (by decide) (fun c_25 => absurd c_25 (by decide)) (fun c_25 => ?_)
        refine lv_iload_n hx hb dX9_wayItem_37 rfl (lv_at hl 0 rfl) ?_
        refine lv_iload_n hx hb dX9_wayItem_38 rfl (lv_at hl 1 rfl) ?_
        have hnb1 : num bb (nf bb mz (nx bb mz u9)) (nx bb mz (nx bb mz u9)) ≤ 99999 := num_le h_10.1
        have hnb2 : num bb (nf bb mz (nx bb mz (nx bb mz u9))) (nx bb mz (nx bb mz (nx bb mz u9))) ≤ 99999 := num_le h_18
        refine lv_icmp_eq (tgt := 46) hx hb dX9_wayItem_39 (by decide) (fun c_26 => ?_) (fun c_26 => ?_)
        · skip
          have nc_26 : num bb (nf bb mz (nx bb mz (nx bb mz u9))) (nx bb mz (nx bb mz (nx bb mz u9))) = num bb (nf bb mz (nx bb mz u9)) (nx bb mz (nx bb mz u9)) := xn_eq (a := (num bb (nf bb mz (nx bb mz (nx bb mz u9))) (nx bb mz (nx bb mz (nx bb mz u9))))) (b := (num bb (nf bb mz (nx bb mz u9)) (nx bb mz (nx bb mz u9)))) (by omega) (by omega) c_26
          refine lv_iconst (v := 0) hx hb dX9_wayItem_46 (by decide) ?_
          refine xc_Vv (wr := [(ys, .inl (cI, 449, .inl ms))]) hF (c_X9_needs0 l D cI cJ cZ cS ta sa sv H.size h0 ys yk yo yt mk0 yfa yfe mL mS mM yro yhe ygr mF mC mY yta mz (nI (num bb (nf bb mz (nx bb mz u9)) (nx bb mz (nx bb mz u9)))) ywa ybi ysi ynu ymo tp (nx bb mz (nx bb mz u9)) bb (by omega) hbb (by omega)) kv_X9_278 ⟨rfl, rfl, Nat.le_of_ble_eq_true rfl, Nat.le_of_ble_eq_true rfl⟩ ⟨Nat.le_of_ble_eq_true rfl, Nat.le_of_ble_eq_true rfl⟩ hK hN hZ hP hD hS hA [1, 2] [0] rfl rfl rfl rfl (by decide) 0 rfl rfl rfl rfl hl.1 rfl (Nat.le_of_ble_eq_true rfl) dX9_wayItem_47 (fun u_r_27 H locs hw_r_27 hP hD hS => ?_)
          have hP : va_P D vwCl [(ys, .inl (cI, 449, .inl ms)), (h0, .inr (9, [.ref ys, .ref yk, .ref yo, .ref yt, .int mk0, .ref yfa, .ref yfe, .int mL, .int mS, .int mM, .ref yro, .ref yhe, .ref ygr, .int mF, .int mC, .int mY, .ref yta, .int (nI (mz)), .int (nI (nf bb mz (nx bb mz (nx bb mz u9)))), .int (nI (nx bb mz (nx bb mz (nx bb mz u9)))), .int (nI (num bb (nf bb mz (nx bb mz u9)) (nx bb mz (nx bb mz u9)))), .int 1, .ref ywa, .ref ybi, .ref ysi, .ref ynu, .ref ymo])), (yta, .inl (cI, 120, .inl tp))] H := hP
          have hD : va_D A [(ys, .inl (cI, 449, .inl ms)), (h0, .inr (9, [.ref ys, .ref yk, .ref yo, .ref yt, .int mk0, .ref yfa, .ref yfe, .int mL, .int mS, .int mM, .ref yro, .ref yhe, .ref ygr, .int mF, .int mC, .int mY, .ref yta, .int (nI (mz)), .int (nI (nf bb mz (nx bb mz (nx bb mz u9)))), .int (nI (nx bb mz (nx bb mz (nx bb mz u9)))), .int (nI (num bb (nf bb mz (nx bb mz u9)) (nx bb mz (nx bb mz u9)))), .int 1, .ref ywa, .ref ybi, .ref ysi, .ref ynu, .ref ymo])), (yta, .inl (cI, 120, .inl tp))] := hD
          refine lv_aload_n hx hb dX9_wayItem_50 rfl (lv_at hl 2 rfl) ?_
          refine lv_bipush (v := (-99)) hx hb dX9_wayItem_51 (by decide) ?_
          refine lv_sipush (v := 999) hx hb dX9_wayItem_53 (by decide) ?_
          refine xc_Vv (wr := [(ys, .inl (cI, 449, .inl ms))]) hF (c_X9_mileW l D cI cJ cZ cS ta sa sv H.size h0 ys yk yo yt mk0 yfa yfe mL mS mM yro yhe ygr mF mC mY yta mz (nI (num bb (nf bb mz (nx bb mz u9)) (nx bb mz (nx bb mz u9)))) ywa ybi ysi ynu ymo tp (-99) 999 (nx bb mz (nx bb mz u9)) bb (by omega) hbb (by omega)) kv_X9_287 ⟨rfl, rfl, Nat.le_of_ble_eq_true rfl, Nat.le_of_ble_eq_true rfl⟩ ⟨Nat.le_of_ble_eq_true rfl, Nat.le_of_ble_eq_true rfl⟩ hK hN hZ hP hD hS hA [1, 2] [0] rfl rfl rfl rfl (by decide) 0 rfl rfl rfl rfl hl.1 rfl (Nat.le_of_ble_eq_true rfl) dX9_wayItem_56 (fun u_r_28 H locs hw_r_28 hP hD hS => ?_)
          have hP : va_P D vwCl [(ys, .inl (cI, 449, .inl ms)), (h0, .inr (9, [.ref ys, .ref yk, .ref yo, .ref yt, .int mk0, .ref yfa, .ref yfe, .int mL, .int mS, .int mM, .ref yro, .ref yhe, .ref ygr, .int mF, .int mC, .int mY, .ref yta, .int (nI (mz)), .int (nI (nf bb mz (nx bb mz (nx bb mz u9)))), .int (nI (nx bb mz (nx bb mz (nx bb mz u9)))), .int (nI (num bb (nf bb mz (nx bb mz u9)) (nx bb mz (nx bb mz u9)))), .int 1, .ref ywa, .ref ybi, .ref ysi, .ref ynu, .ref ymo])), (yta, .inl (cI, 120, .inl tp))] H := hP
          have hD : va_D A [(ys, .inl (cI, 449, .inl ms)), (h0, .inr (9, [.ref ys, .ref yk, .ref yo, .ref yt, .int mk0, .ref yfa, .ref yfe, .int mL, .int mS, .int mM, .ref yro, .ref yhe, .ref ygr, .int mF, .int mC, .int mY, .ref yta, .int (nI (mz)), .int (nI (nf bb mz (nx bb mz (nx bb mz u9)))), .int (nI (nx bb mz (nx bb mz (nx bb mz u9)))), .int (nI (num bb (nf bb mz (nx bb mz u9)) (nx bb mz (nx bb mz u9)))), .int 1, .ref ywa, .ref ybi, .ref ysi, .ref ynu, .ref ymo])), (yta, .inl (cI, 120, .inl tp))] := hD
          refine lv_aload_n hx hb dX9_wayItem_59 rfl (lv_at hl 2 rfl) ?_
          refine xg hF kf_X9_275 hK hP 1 rfl rfl dX9_wayItem_60 ?_
          refine lv_istore_n (lv' := [(3, .int (nI (num bb (nf bb mz (nx bb mz u9)) (nx bb mz (nx bb mz u9))))), (2, .int (nI (num bb (nf bb mz (nx bb mz (nx bb mz u9))) (nx bb mz (nx bb mz (nx bb mz u9)))))), (1, .int (nI (num bb (nf bb mz (nx bb mz u9)) (nx bb mz (nx bb mz u9))))), (0, .ref h0)]) hx hb dX9_wayItem_63 rfl hl (by decide) rfl (fun ls hl => ?_)
          refine lv_aload_n hx hb dX9_wayItem_64 rfl (lv_at hl 3 rfl) ?_
          refine xg hF kf_X9_275 hK hP 1 rfl rfl dX9_wayItem_65 ?_
          refine lv_istore (lv' := [(4, .int (nI (num bb (nf bb mz (nx bb mz u9)) (nx bb mz (nx bb mz u9))))), (3, .int (nI (num bb (nf bb mz (nx bb mz u9)) (nx bb mz (nx bb mz u9))))), (2, .int (nI (num bb (nf bb mz (nx bb mz (nx bb mz u9))) (nx bb mz (nx bb mz (nx bb mz u9)))))), (1, .int (nI (num bb (nf bb mz (nx bb mz u9)) (nx bb mz (nx bb mz u9))))), (0, .ref h0)]) hx hb dX9_wayItem_68 hl (by decide) rfl (fun ls hl => ?_)
          refine lv_aload_n hx hb dX9_wayItem_70 rfl (lv_at hl 4 rfl) ?_
          refine lv_bipush (v := 116) hx hb dX9_wayItem_71 (by decide) ?_
          refine lv_bipush (v := 111) hx hb dX9_wayItem_73 (by decide) ?_
          refine lv_iconst (v := 0) hx hb dX9_wayItem_75 (by decide) ?_
          refine lv_iconst (v := 0) hx hb dX9_wayItem_76 (by decide) ?_
          refine lv_iconst (v := 0) hx hb dX9_wayItem_77 (by decide) ?_
          refine lv_iconst (v := 0) hx hb dX9_wayItem_78 (by decide) ?_
          refine lv_iconst (v := 0) hx hb dX9_wayItem_79 (by decide) ?_
          refine xc_Vr hF (c_X9_isWordW l D cI cJ cZ cS ta sa sv H.size h0 ys yk yo yt mk0 yfa yfe mL mS mM yro yhe ygr mF mC mY yta mz (nI (num bb (nf bb mz (nx bb mz u9)) (nx bb mz (nx bb mz u9)))) ywa ybi ysi ynu ymo tp 116 111 0 0 0 0 0 (nx bb mz (nx bb mz u9)) bb (by omega) hbb (by omega)) kv_X9_290 ⟨rfl, rfl, Nat.le_of_ble_eq_true rfl, Nat.le_of_ble_eq_true rfl⟩ ⟨Nat.le_of_ble_eq_true rfl, Nat.le_of_ble_eq_true rfl⟩ hK hN hZ hP hD hS hA [1, 2] rfl rfl 0 rfl rfl rfl rfl hl.1 rfl (Nat.le_of_ble_eq_true rfl) dX9_wayItem_80 (fun r_29 hw_r_29 => ?_)
          subst hw_r_29
          refine lv_if_eq (tgt := 105) hx hb dX9_wayItem_83 (by decide) (fun c_30 => ?_) (fun c_30 => absurd (by decide) c_30)
          refine lv_aload_n hx hb dX9_wayItem_105 rfl (lv_at hl 4 rfl) ?_
          refine lv_bipush (v := 98) hx hb dX9_wayItem_106 (by decide) ?_
          refine lv_bipush (v := 97) hx hb dX9_wayItem_108 (by decide) ?_
          refine lv_bipush (v := 99) hx hb dX9_wayItem_110 (by decide) ?_
          refine lv_bipush (v := 107) hx hb dX9_wayItem_112 (by decide) ?_
          refine lv_iconst (v := 0) hx hb dX9_wayItem_114 (by decide) ?_
          refine lv_iconst (v := 0) hx hb dX9_wayItem_115 (by decide) ?_
          refine lv_iconst (v := 0) hx hb dX9_wayItem_116 (by decide) ?_
          refine xc_Vr hF (c_X9_isWordW l D cI cJ cZ cS ta sa sv H.size h0 ys yk yo yt mk0 yfa yfe mL mS mM yro yhe ygr mF mC mY yta mz (nI (num bb (nf bb mz (nx bb mz u9)) (nx bb mz (nx bb mz u9)))) ywa ybi ysi ynu ymo tp 98 97 99 107 0 0 0 (nx bb mz (nx bb mz u9)) bb (by omega) hbb (by omega)) kv_X9_290 ⟨rfl, rfl, Nat.le_of_ble_eq_true rfl, Nat.le_of_ble_eq_true rfl⟩ ⟨Nat.le_of_ble_eq_true rfl, Nat.le_of_ble_eq_true rfl⟩ hK hN hZ hP hD hS hA [1, 2] rfl rfl 0 rfl rfl rfl rfl hl.1 rfl (Nat.le_of_ble_eq_true rfl) dX9_wayItem_117 (fun r_31 hw_r_31 => ?_)
          subst hw_r_31
          refine lv_istore (lv' := [(5, .int 0), (4, .int (nI (num bb (nf bb mz (nx bb mz u9)) (nx bb mz (nx bb mz u9))))), (3, .int (nI (num bb (nf bb mz (nx bb mz u9)) (nx bb mz (nx bb mz u9))))), (2, .int (nI (num bb (nf bb mz (nx bb mz (nx bb mz u9))) (nx bb mz (nx bb mz (nx bb mz u9)))))), (1, .int (nI (num bb (nf bb mz (nx bb mz u9)) (nx bb mz (nx bb mz u9))))), (0, .ref h0)]) hx hb dX9_wayItem_120 hl (by decide) rfl (fun ls hl => ?_)
          refine lv_iload hx hb dX9_wayItem_122 (lv_at hl 0 rfl) ?_
          refine lv_if_eq (tgt := 141) hx hb dX9_wayItem_124 (by decide) (fun c_32 => ?_) (fun c_32 => absurd (by decide) c_32)
          refine lv_aload_n hx hb dX9_wayItem_141 rfl (lv_at hl 5 rfl) ?_
          refine xg hF kf_X9_266 hK hP 1 rfl rfl dX9_wayItem_142 ?_
          refine lv_if_ne (tgt := 187) hx hb dX9_wayItem_145 (by decide) (fun c_33 => ?_) (fun c_33 => absurd c_33 (by decide))
          have hc1 := okR_N (by omega) h_10
          exact W.vret hx hb hr (fun t ht hW => ⟨⟨(nx bb mz (nx bb mz u9), 1, (nI (num bb (nf bb mz (nx bb mz u9)) (nx bb mz (nx bb mz u9)))), ms, fal, fau, fao), rfl, ⟨Or.inr ⟨(cif_pos (hc1.1)).trans (cif_neg (fun h => h.2 (tC_of h_18 h_10.1 nc_26))), rfl⟩, (by first | assumption | omega), hs0, hs1, hs2, hsS, hsM, hsp, hsr, hsw, hsR, hsG⟩, by rw [ht]; exact hP.sub [1, 0, 2] rfl, hD.sub [1, 0, 2] (by decide) rfl⟩, hS.F ht⟩) hS.2.2 dX9_wayItem_187 hlk
        · skip
          have nc_26 : num bb (nf bb mz (nx bb mz (nx bb mz u9))) (nx bb mz (nx bb mz (nx bb mz u9))) ≠ num bb (nf bb mz (nx bb mz u9)) (nx bb mz (nx bb mz u9)) := xn_ne (a := (num bb (nf bb mz (nx bb mz (nx bb mz u9))) (nx bb mz (nx bb mz (nx bb mz u9))))) (b := (num bb (nf bb mz (nx bb mz u9)) (nx bb mz (nx bb mz u9)))) (by omega) (by omega) c_26
          refine lv_iconst (v := 1) hx hb dX9_wayItem_42 (by decide) ?_
          refine lv_goto (tgt := 47) hx hb dX9_wayItem_43 (by decide) ?_
          refine xc_Vv (wr := [(ys, .inl (cI, 449, .inl ms))]) hF (c_X9_needs1 l D cI cJ cZ cS ta sa sv H.size h0 ys yk yo yt mk0 yfa yfe mL mS mM yro yhe ygr mF mC mY yta mz (nI (num bb (nf bb mz (nx bb mz u9)) (nx bb mz (nx bb mz u9)))) ywa ybi ysi ynu ymo tp (nx bb mz (nx bb mz u9)) bb (by omega) hbb (by omega)) kv_X9_278 ⟨rfl, rfl, Nat.le_of_ble_eq_true rfl, Nat.le_of_ble_eq_true rfl⟩ ⟨Nat.le_of_ble_eq_true rfl, Nat.le_of_ble_eq_true rfl⟩ hK hN hZ hP hD hS hA [1, 2] [0] rfl rfl rfl rfl (by decide) 0 rfl rfl rfl rfl hl.1 rfl (Nat.le_of_ble_eq_true rfl) dX9_wayItem_47 (fun u_r_34 H locs hw_r_34 hP hD hS => ?_)
          obtain ⟨i_35, i_36⟩ := hw_r_34
          have hP : va_P D vwCl [(ys, .inl (cI, 449, .inl ms)), (h0, .inr (9, [.ref ys, .ref yk, .ref yo, .ref yt, .int mk0, .ref yfa, .ref yfe, .int mL, .int mS, .int mM, .ref yro, .ref yhe, .ref ygr, .int mF, .int mC, .int mY, .ref yta, .int (nI (mz)), .int (nI (nf bb mz (nx bb mz (nx bb mz (nx bb mz u9))))), .int (nI (nx bb mz (nx bb mz (nx bb mz (nx bb mz u9))))), .int (nI (num bb (nf bb mz (nx bb mz u9)) (nx bb mz (nx bb mz u9)))), .int 0, .ref ywa, .ref ybi, .ref ysi, .ref ynu, .ref ymo])), (yta, .inl (cI, 120, .inl tp))] H := hP
          have hD : va_D A [(ys, .inl (cI, 449, .inl ms)), (h0, .inr (9, [.ref ys, .ref yk, .ref yo, .ref yt, .int mk0, .ref yfa, .ref yfe, .int mL, .int mS, .int mM, .ref yro, .ref yhe, .ref ygr, .int mF, .int mC, .int mY, .ref yta, .int (nI (mz)), .int (nI (nf bb mz (nx bb mz (nx bb mz (nx bb mz u9))))), .int (nI (nx bb mz (nx bb mz (nx bb mz (nx bb mz u9))))), .int (nI (num bb (nf bb mz (nx bb mz u9)) (nx bb mz (nx bb mz u9)))), .int 0, .ref ywa, .ref ybi, .ref ysi, .ref ynu, .ref ymo])), (yta, .inl (cI, 120, .inl tp))] := hD
          refine lv_aload_n hx hb dX9_wayItem_50 rfl (lv_at hl 2 rfl) ?_
          refine lv_bipush (v := (-99)) hx hb dX9_wayItem_51 (by decide) ?_
          refine lv_sipush (v := 999) hx hb dX9_wayItem_53 (by decide) ?_
          refine xc_Vv (wr := [(ys, .inl (cI, 449, .inl ms))]) hF (c_X9_mile0 l D cI cJ cZ cS ta sa sv H.size h0 ys yk yo yt mk0 yfa yfe mL mS mM yro yhe ygr mF mC mY yta mz (nI (num bb (nf bb mz (nx bb mz u9)) (nx bb mz (nx bb mz u9)))) ywa ybi ysi ynu ymo tp (-99) 999 (nx bb mz (nx bb mz (nx bb mz u9))) bb (by omega) hbb (by omega) (by decide) (by decide) (by decide) (by decide)) kv_X9_287 ⟨rfl, rfl, Nat.le_of_ble_eq_true rfl, Nat.le_of_ble_eq_true rfl⟩ ⟨Nat.le_of_ble_eq_true rfl, Nat.le_of_ble_eq_true rfl⟩ hK hN hZ hP hD hS hA [1, 2] [0] rfl rfl rfl rfl (by decide) 0 rfl rfl rfl rfl hl.1 rfl (Nat.le_of_ble_eq_true rfl) dX9_wayItem_56 (fun u_r_37 H locs hw_r_37 hP hD hS => ?_)
          obtain ⟨u2_38, w2_39, v2_40⟩ := u_r_37
          try dsimp only at hw_r_37
          obtain ⟨hw_r_37, i_41, i_42⟩ := hw_r_37
          have hP : va_P D vwCl [(ys, .inl (cI, 449, .inl ms)), (h0, .inr (9, [.ref ys, .ref yk, .ref yo, .ref yt, .int mk0, .ref yfa, .ref yfe, .int mL, .int mS, .int mM, .ref yro, .ref yhe, .ref ygr, .int mF, .int mC, .int mY, .ref yta, .int (nI (mz)), .int (nI (nf bb mz u2_38)), .int (nI (nx bb mz u2_38)), .int v2_40, .int w2_39, .ref ywa, .ref ybi, .ref ysi, .ref ynu, .ref ymo])), (yta, .inl (cI, 120, .inl tp))] H := hP
          have hD : va_D A [(ys, .inl (cI, 449, .inl ms)), (h0, .inr (9, [.ref ys, .ref yk, .ref yo, .ref yt, .int mk0, .ref yfa, .ref yfe, .int mL, .int mS, .int mM, .ref yro, .ref yhe, .ref ygr, .int mF, .int mC, .int mY, .ref yta, .int (nI (mz)), .int (nI (nf bb mz u2_38)), .int (nI (nx bb mz u2_38)), .int v2_40, .int w2_39, .ref ywa, .ref ybi, .ref ysi, .ref ynu, .ref ymo])), (yta, .inl (cI, 120, .inl tp))] := hD
          rcases hw_r_37 with ⟨h_43, h_44, h_45, h_46⟩ | ⟨h_47, h_48, h_49⟩
          · skip
            subst h_44
            subst h_45
            subst h_46
            refine lv_aload_n hx hb dX9_wayItem_59 rfl (lv_at hl 2 rfl) ?_
            refine xg hF kf_X9_275 hK hP 1 rfl rfl dX9_wayItem_60 ?_
            refine lv_istore_n (lv' := [(3, .int (mV bb mz (nx bb mz (nx bb mz (nx bb mz u9))))), (2, .int (nI (num bb (nf bb mz (nx bb mz (nx bb mz u9))) (nx bb mz (nx bb mz (nx bb mz u9)))))), (1, .int (nI (num bb (nf bb mz (nx bb mz u9)) (nx bb mz (nx bb mz u9))))), (0, .ref h0)]) hx hb dX9_wayItem_63 rfl hl (by decide) rfl (fun ls hl => ?_)
            refine lv_aload_n hx hb dX9_wayItem_64 rfl (lv_at hl 3 rfl) ?_
            refine xg hF kf_X9_275 hK hP 1 rfl rfl dX9_wayItem_65 ?_
            refine lv_istore (lv' := [(4, .int (mV bb mz (nx bb mz (nx bb mz (nx bb mz u9))))), (3, .int (mV bb mz (nx bb mz (nx bb mz (nx bb mz u9))))), (2, .int (nI (num bb (nf bb mz (nx bb mz (nx bb mz u9))) (nx bb mz (nx bb mz (nx bb mz u9)))))), (1, .int (nI (num bb (nf bb mz (nx bb mz u9)) (nx bb mz (nx bb mz u9))))), (0, .ref h0)]) hx hb dX9_wayItem_68 hl (by decide) rfl (fun ls hl => ?_)
            refine lv_aload_n hx hb dX9_wayItem_70 rfl (lv_at hl 4 rfl) ?_
            refine lv_bipush (v := 116) hx hb dX9_wayItem_71 (by decide) ?_
            refine lv_bipush (v := 111) hx hb dX9_wayItem_73 (by decide) ?_
            refine lv_iconst (v := 0) hx hb dX9_wayItem_75 (by decide) ?_
            refine lv_iconst (v := 0) hx hb dX9_wayItem_76 (by decide) ?_
            refine lv_iconst (v := 0) hx hb dX9_wayItem_77 (by decide) ?_
            refine lv_iconst (v := 0) hx hb dX9_wayItem_78 (by decide) ?_
            refine lv_iconst (v := 0) hx hb dX9_wayItem_79 (by decide) ?_
            refine xc_Vr hF (c_X9_isWord_4 l D cI cJ cZ cS ta sa sv H.size h0 ys yk yo yt mk0 yfa yfe mL mS mM yro yhe ygr mF mC mY yta mz (mV bb mz (nx bb mz (nx bb mz (nx bb mz u9)))) ywa ybi ysi ynu ymo tp (nx bb mz (mSt bb mz (nx bb mz (nx bb mz (nx bb mz u9))))) bb (by omega) hbb (by omega)) kv_X9_290 ⟨rfl, rfl, Nat.le_of_ble_eq_true rfl, Nat.le_of_ble_eq_true rfl⟩ ⟨Nat.le_of_ble_eq_true rfl, Nat.le_of_ble_eq_true rfl⟩ hK hN hZ hP hD hS hA [1, 2] rfl rfl 0 rfl rfl rfl rfl hl.1 rfl (Nat.le_of_ble_eq_true rfl) dX9_wayItem_80 (fun r_50 hw_r_50 => ?_)
            rcases hw_r_50 with ⟨rfl, h_51⟩ | ⟨rfl, h_52⟩
            · skip
              refine lv_if_eq (tgt := 105) hx hb dX9_wayItem_83 (by decide) (fun c_53 => absurd c_53 (by decide)) (fun c_53 => ?_)
              refine lv_aload_n hx hb dX9_wayItem_86 rfl (lv_at hl 4 rfl) ?_
              refine lv_iconst (v := 1) hx hb dX9_wayItem_87 (by decide) ?_
              refine xc_Vv (wr := [(ys, .inl (cI, 449, .inl ms))]) hF (c_X9_needs1 l D cI cJ cZ cS ta sa sv H.size h0 ys yk yo yt mk0 yfa yfe mL mS mM yro yhe ygr mF mC mY yta mz (mV bb mz (nx bb mz (nx bb mz (nx bb mz u9)))) ywa ybi ysi ynu ymo tp (nx bb mz (mSt bb mz (nx bb mz (nx bb mz (nx bb mz u9))))) bb (by omega) hbb (by omega)) kv_X9_278 ⟨rfl, rfl, Nat.le_of_ble_eq_true rfl, Nat.le_of_ble_eq_true rfl⟩ ⟨Nat.le_of_ble_eq_true rfl, Nat.le_of_ble_eq_true rfl⟩ hK hN hZ hP hD hS hA [1, 2] [0] rfl rfl rfl rfl (by decide) 0 rfl rfl rfl rfl hl.1 rfl (Nat.le_of_ble_eq_true rfl) dX9_wayItem_88 (fun u_r_54 H locs hw_r_54 hP hD hS => ?_)
              obtain ⟨i_55, i_56⟩ := hw_r_54
              have hP : va_P D vwCl [(ys, .inl (cI, 449, .inl ms)), (h0, .inr (9, [.ref ys, .ref yk, .ref yo, .ref yt, .int mk0, .ref yfa, .ref yfe, .int mL, .int mS, .int mM, .ref yro, .ref yhe, .ref ygr, .int mF, .int mC, .int mY, .ref yta, .int (nI (mz)), .int (nI (nf bb mz (nx bb mz (nx bb mz (mSt bb mz (nx bb mz (nx bb mz (nx bb mz u9)))))))), .int (nI (nx bb mz (nx bb mz (nx bb mz (mSt bb mz (nx bb mz (nx bb mz (nx bb mz u9)))))))), .int (mV bb mz (nx bb mz (nx bb mz (nx bb mz u9)))), .int 0, .ref ywa, .ref ybi, .ref ysi, .ref ynu, .ref ymo])), (yta, .inl (cI, 120, .inl tp))] H := hP
              have hD : va_D A [(ys, .inl (cI, 449, .inl ms)), (h0, .inr (9, [.ref ys, .ref yk, .ref yo, .ref yt, .int mk0, .ref yfa, .ref yfe, .int mL, .int mS, .int mM, .ref yro, .ref yhe, .ref ygr, .int mF, .int mC, .int mY, .ref yta, .int (nI (mz)), .int (nI (nf bb mz (nx bb mz (nx bb mz (mSt bb mz (nx bb mz (nx bb mz (nx bb mz u9)))))))), .int (nI (nx bb mz (nx bb mz (nx bb mz (mSt bb mz (nx bb mz (nx bb mz (nx bb mz u9)))))))), .int (mV bb mz (nx bb mz (nx bb mz (nx bb mz u9)))), .int 0, .ref ywa, .ref ybi, .ref ysi, .ref ynu, .ref ymo])), (yta, .inl (cI, 120, .inl tp))] := hD
              refine lv_aload_n hx hb dX9_wayItem_91 rfl (lv_at hl 4 rfl) ?_
              refine lv_iload_n hx hb dX9_wayItem_92 rfl (lv_at hl 1 rfl) ?_
              refine lv_sipush (v := 999) hx hb dX9_wayItem_93 (by decide) ?_
              refine xc_Vv (wr := [(ys, .inl (cI, 449, .inl ms))]) hF (c_X9_mile0 l D cI cJ cZ cS ta sa sv H.size h0 ys yk yo yt mk0 yfa yfe mL mS mM yro yhe ygr mF mC mY yta mz (mV bb mz (nx bb mz (nx bb mz (nx bb mz u9)))) ywa ybi ysi ynu ymo tp (mV bb mz (nx bb mz (nx bb mz (nx bb mz u9)))) 999 (nx bb mz (nx bb mz (mSt bb mz (nx bb mz (nx bb mz (nx bb mz u9)))))) bb (by omega) hbb (by omega) (by have h9 := mV_in99 h_43; omega) (by have h9 := mV_in99 h_43; omega) (by decide) (by decide)) kv_X9_287 ⟨rfl, rfl, Nat.le_of_ble_eq_true rfl, Nat.le_of_ble_eq_true rfl⟩ ⟨Nat.le_of_ble_eq_true rfl, Nat.le_of_ble_eq_true rfl⟩ hK hN hZ hP hD hS hA [1, 2] [0] rfl rfl rfl rfl (by decide) 0 rfl rfl rfl rfl hl.1 rfl (Nat.le_of_ble_eq_true rfl) dX9_wayItem_96 (fun u_r_57 H locs hw_r_57 hP hD hS => ?_)
              obtain ⟨u2_58, w2_59, v2_60⟩ := u_r_57
              try dsimp only at hw_r_57
              obtain ⟨hw_r_57, i_61, i_62⟩ := hw_r_57
              have hP : va_P D vwCl [(ys, .inl (cI, 449, .inl ms)), (h0, .inr (9, [.ref ys, .ref yk, .ref yo, .ref yt, .int mk0, .ref yfa, .ref yfe, .int mL, .int mS, .int mM, .ref yro, .ref yhe, .ref ygr, .int mF, .int mC, .int mY, .ref yta, .int (nI (mz)), .int (nI (nf bb mz u2_58)), .int (nI (nx bb mz u2_58)), .int v2_60, .int w2_59, .ref ywa, .ref ybi, .ref ysi, .ref ynu, .ref ymo])), (yta, .inl (cI, 120, .inl tp))] H := hP
              have hD : va_D A [(ys, .inl (cI, 449, .inl ms)), (h0, .inr (9, [.ref ys, .ref yk, .ref yo, .ref yt, .int mk0, .ref yfa, .ref yfe, .int mL, .int mS, .int mM, .ref yro, .ref yhe, .ref ygr, .int mF, .int mC, .int mY, .ref yta, .int (nI (mz)), .int (nI (nf bb mz u2_58)), .int (nI (nx bb mz u2_58)), .int v2_60, .int w2_59, .ref ywa, .ref ybi, .ref ysi, .ref ynu, .ref ymo])), (yta, .inl (cI, 120, .inl tp))] := hD
              rcases hw_r_57 with ⟨h_63, h_64, h_65, h_66⟩ | ⟨h_67, h_68, h_69⟩
              · skip
                subst h_64
                subst h_65
                subst h_66
                refine lv_aload_n hx hb dX9_wayItem_99 rfl (lv_at hl 4 rfl) ?_
                refine xg hF kf_X9_275 hK hP 1 rfl rfl dX9_wayItem_100 ?_
                refine lv_istore (lv' := [(4, .int (mV bb mz (nx bb mz (nx bb mz (mSt bb mz (nx bb mz (nx bb mz (nx bb mz u9)))))))), (3, .int (mV bb mz (nx bb mz (nx bb mz (nx bb mz u9))))), (2, .int (nI (num bb (nf bb mz (nx bb mz (nx bb mz u9))) (nx bb mz (nx bb mz (nx bb mz u9)))))), (1, .int (nI (num bb (nf bb mz (nx bb mz u9)) (nx bb mz (nx bb mz u9))))), (0, .ref h0)]) hx hb dX9_wayItem_103 hl (by decide) rfl (fun ls hl => ?_)
                refine lv_aload_n hx hb dX9_wayItem_105 rfl (lv_at hl 4 rfl) ?_
                refine lv_bipush (v := 98) hx hb dX9_wayItem_106 (by decide) ?_
                refine lv_bipush (v := 97) hx hb dX9_wayItem_108 (by decide) ?_
                refine lv_bipush (v := 99) hx hb dX9_wayItem_110 (by decide) ?_
                refine lv_bipush (v := 107) hx hb dX9_wayItem_112 (by decide) ?_
                refine lv_iconst (v := 0) hx hb dX9_wayItem_114 (by decide) ?_
                refine lv_iconst (v := 0) hx hb dX9_wayItem_115 (by decide) ?_
                refine lv_iconst (v := 0) hx hb dX9_wayItem_116 (by decide) ?_
                refine xc_Vr hF (c_X9_isWord_5 l D cI cJ cZ cS ta sa sv H.size h0 ys yk yo yt mk0 yfa yfe mL mS mM yro yhe ygr mF mC mY yta mz (mV bb mz (nx bb mz (nx bb mz (mSt bb mz (nx bb mz (nx bb mz (nx bb mz u9))))))) ywa ybi ysi ynu ymo tp (nx bb mz (mSt bb mz (nx bb mz (nx bb mz (mSt bb mz (nx bb mz (nx bb mz (nx bb mz u9)))))))) bb (by omega) hbb (by omega)) kv_X9_290 ⟨rfl, rfl, Nat.le_of_ble_eq_true rfl, Nat.le_of_ble_eq_true rfl⟩ ⟨Nat.le_of_ble_eq_true rfl, Nat.le_of_ble_eq_true rfl⟩ hK hN hZ hP hD hS hA [1, 2] rfl rfl 0 rfl rfl rfl rfl hl.1 rfl (Nat.le_of_ble_eq_true rfl) dX9_wayItem_117 (fun r_70 hw_r_70 => ?_)
                rcases hw_r_70 with ⟨rfl, h_71⟩ | ⟨rfl, h_72⟩
                · skip
                  refine lv_istore (lv' := [(5, .int 1), (4, .int (mV bb mz (nx bb mz (nx bb mz (mSt bb mz (nx bb mz (nx bb mz (nx bb mz u9)))))))), (3, .int (mV bb mz (nx bb mz (nx bb mz (nx bb mz u9))))), (2, .int (nI (num bb (nf bb mz (nx bb mz (nx bb mz u9))) (nx bb mz (nx bb mz (nx bb mz u9)))))), (1, .int (nI (num bb (nf bb mz (nx bb mz u9)) (nx bb mz (nx bb mz u9))))), (0, .ref h0)]) hx hb dX9_wayItem_120 hl (by decide) rfl (fun ls hl => ?_)
                  refine lv_iload hx hb dX9_wayItem_122 (lv_at hl 0 rfl) ?_
                  refine lv_if_eq (tgt := 141) hx hb dX9_wayItem_124 (by decide) (fun c_73 => absurd c_73 (by decide)) (fun c_73 => ?_)
                  refine lv_aload_n hx hb dX9_wayItem_127 rfl (lv_at hl 5 rfl) ?_
                  refine lv_iconst (v := 1) hx hb dX9_wayItem_128 (by decide) ?_
                  refine xc_Vv (wr := [(ys, .inl (cI, 449, .inl ms))]) hF (c_X9_needs1 l D cI cJ cZ cS ta sa sv H.size h0 ys yk yo yt mk0 yfa yfe mL mS mM yro yhe ygr mF mC mY yta mz (mV bb mz (nx bb mz (nx bb mz (mSt bb mz (nx bb mz (nx bb mz (nx bb mz u9))))))) ywa ybi ysi ynu ymo tp (nx bb mz (mSt bb mz (nx bb mz (nx bb mz (mSt bb mz (nx bb mz (nx bb mz (nx bb mz u9)))))))) bb (by omega) hbb (by omega)) kv_X9_278 ⟨rfl, rfl, Nat.le_of_ble_eq_true rfl, Nat.le_of_ble_eq_true rfl⟩ ⟨Nat.le_of_ble_eq_true rfl, Nat.le_of_ble_eq_true rfl⟩ hK hN hZ hP hD hS hA [1, 2] [0] rfl rfl rfl rfl (by decide) 0 rfl rfl rfl rfl hl.1 rfl (Nat.le_of_ble_eq_true rfl) dX9_wayItem_129 (fun u_r_74 H locs hw_r_74 hP hD hS => ?_)
                  obtain ⟨i_75, i_76⟩ := hw_r_74
                  have hP : va_P D vwCl [(ys, .inl (cI, 449, .inl ms)), (h0, .inr (9, [.ref ys, .ref yk, .ref yo, .ref yt, .int mk0, .ref yfa, .ref yfe, .int mL, .int mS, .int mM, .ref yro, .ref yhe, .ref ygr, .int mF, .int mC, .int mY, .ref yta, .int (nI (mz)), .int (nI (nf bb mz (nx bb mz (nx bb mz (mSt bb mz (nx bb mz (nx bb mz (mSt bb mz (nx bb mz (nx bb mz (nx bb mz u9))))))))))), .int (nI (nx bb mz (nx bb mz (nx bb mz (mSt bb mz (nx bb mz (nx bb mz (mSt bb mz (nx bb mz (nx bb mz (nx bb mz u9))))))))))), .int (mV bb mz (nx bb mz (nx bb mz (mSt bb mz (nx bb mz (nx bb mz (nx bb mz u9))))))), .int 0, .ref ywa, .ref ybi, .ref ysi, .ref ynu, .ref ymo])), (yta, .inl (cI, 120, .inl tp))] H := hP
                  have hD : va_D A [(ys, .inl (cI, 449, .inl ms)), (h0, .inr (9, [.ref ys, .ref yk, .ref yo, .ref yt, .int mk0, .ref yfa, .ref yfe, .int mL, .int mS, .int mM, .ref yro, .ref yhe, .ref ygr, .int mF, .int mC, .int mY, .ref yta, .int (nI (mz)), .int (nI (nf bb mz (nx bb mz (nx bb mz (mSt bb mz (nx bb mz (nx bb mz (mSt bb mz (nx bb mz (nx bb mz (nx bb mz u9))))))))))), .int (nI (nx bb mz (nx bb mz (nx bb mz (mSt bb mz (nx bb mz (nx bb mz (mSt bb mz (nx bb mz (nx bb mz (nx bb mz u9))))))))))), .int (mV bb mz (nx bb mz (nx bb mz (mSt bb mz (nx bb mz (nx bb mz (nx bb mz u9))))))), .int 0, .ref ywa, .ref ybi, .ref ysi, .ref ynu, .ref ymo])), (yta, .inl (cI, 120, .inl tp))] := hD
                  refine lv_aload_n hx hb dX9_wayItem_132 rfl (lv_at hl 5 rfl) ?_
                  refine lv_bipush (v := (-99)) hx hb dX9_wayItem_133 (by decide) ?_
                  refine lv_sipush (v := 999) hx hb dX9_wayItem_135 (by decide) ?_
                  refine xc_Vv (wr := [(ys, .inl (cI, 449, .inl ms))]) hF (c_X9_mile0 l D cI cJ cZ cS ta sa sv H.size h0 ys yk yo yt mk0 yfa yfe mL mS mM yro yhe ygr mF mC mY yta mz (mV bb mz (nx bb mz (nx bb mz (mSt bb mz (nx bb mz (nx bb mz (nx bb mz u9))))))) ywa ybi ysi ynu ymo tp (-99) 999 (nx bb mz (nx bb mz (mSt bb mz (nx bb mz (nx bb mz (mSt bb mz (nx bb mz (nx bb mz (nx bb mz u9))))))))) bb (by omega) hbb (by omega) (by decide) (by decide) (by decide) (by decide)) kv_X9_287 ⟨rfl, rfl, Nat.le_of_ble_eq_true rfl, Nat.le_of_ble_eq_true rfl⟩ ⟨Nat.le_of_ble_eq_true rfl, Nat.le_of_ble_eq_true rfl⟩ hK hN hZ hP hD hS hA [1, 2] [0] rfl rfl rfl rfl (by decide) 0 rfl rfl rfl rfl hl.1 rfl (Nat.le_of_ble_eq_true rfl) dX9_wayItem_138 (fun u_r_77 H locs hw_r_77 hP hD hS => ?_)
                  obtain ⟨u2_78, w2_79, v2_80⟩ := u_r_77
                  try dsimp only at hw_r_77
                  obtain ⟨hw_r_77, i_81, i_82⟩ := hw_r_77
                  have hP : va_P D vwCl [(ys, .inl (cI, 449, .inl ms)), (h0, .inr (9, [.ref ys, .ref yk, .ref yo, .ref yt, .int mk0, .ref yfa, .ref yfe, .int mL, .int mS, .int mM, .ref yro, .ref yhe, .ref ygr, .int mF, .int mC, .int mY, .ref yta, .int (nI (mz)), .int (nI (nf bb mz u2_78)), .int (nI (nx bb mz u2_78)), .int v2_80, .int w2_79, .ref ywa, .ref ybi, .ref ysi, .ref ynu, .ref ymo])), (yta, .inl (cI, 120, .inl tp))] H := hP
                  have hD : va_D A [(ys, .inl (cI, 449, .inl ms)), (h0, .inr (9, [.ref ys, .ref yk, .ref yo, .ref yt, .int mk0, .ref yfa, .ref yfe, .int mL, .int mS, .int mM, .ref yro, .ref yhe, .ref ygr, .int mF, .int mC, .int mY, .ref yta, .int (nI (mz)), .int (nI (nf bb mz u2_78)), .int (nI (nx bb mz u2_78)), .int v2_80, .int w2_79, .ref ywa, .ref ybi, .ref ysi, .ref ynu, .ref ymo])), (yta, .inl (cI, 120, .inl tp))] := hD
                  rcases hw_r_77 with ⟨h_83, h_84, h_85, h_86⟩ | ⟨h_87, h_88, h_89⟩
                  · skip
                    subst h_84
                    subst h_85
                    subst h_86
                    refine lv_aload_n hx hb dX9_wayItem_141 rfl (lv_at hl 5 rfl) ?_
                    refine xg hF kf_X9_266 hK hP 1 rfl rfl dX9_wayItem_142 ?_
                    refine lv_if_ne (tgt := 187) hx hb dX9_wayItem_145 (by decide) (fun c_90 => absurd (by decide) c_90) (fun c_90 => ?_)
                    have hone : num bb (nf bb mz (nx bb mz u9)) (nx bb mz (nx bb mz u9)) < P := (okR_N (by omega) h_10).2.1
                    have htwo : num bb (nf bb mz (nx bb mz (nx bb mz u9))) (nx bb mz (nx bb mz (nx bb mz u9))) < P := by have h9 := num_k h_18 (by omega) h_22; omega
                    refine lv_aload_n hx hb dX9_wayItem_148 rfl (lv_at hl 5 rfl) ?_
                    refine lv_iload_n hx hb dX9_wayItem_149 rfl (lv_at hl 4 rfl) ?_
                    refine lv_iload_n hx hb dX9_wayItem_150 rfl (lv_at hl 3 rfl) ?_
                    refine lv_iload_n hx hb dX9_wayItem_151 rfl (lv_at hl 2 rfl) ?_
                    refine lv_iload hx hb dX9_wayItem_152 (lv_at hl 1 rfl) ?_
                    refine xc_Vi (wr := [(yta, .inl (cI, 120, .inl tp))]) hF (c_X9_makes l D cI cJ cZ cS ta sa sv H.size h0 ys yk yo yt mk0 yfa yfe mL mS mM yro yhe ygr mF mC mY yta mz (nf bb mz (nx bb mz (mSt bb mz (nx bb mz (nx bb mz (mSt bb mz (nx bb mz (nx bb mz (mSt bb mz (nx bb mz (nx bb mz (nx bb mz u9)))))))))))) (nx bb mz (nx bb mz (mSt bb mz (nx bb mz (nx bb mz (mSt bb mz (nx bb mz (nx bb mz (mSt bb mz (nx bb mz (nx bb mz (nx bb mz u9)))))))))))) (mV bb mz (nx bb mz (nx bb mz (mSt bb mz (nx bb mz (nx bb mz (mSt bb mz (nx bb mz (nx bb mz (nx bb mz u9)))))))))) 0 ywa ybi ysi ynu ymo ms P Rn Wn fae fal fau fao farn farp fak fawn fawp fat fas (num bb (nf bb mz (nx bb mz u9)) (nx bb mz (nx bb mz u9))) (num bb (nf bb mz (nx bb mz (nx bb mz u9))) (nx bb mz (nx bb mz (nx bb mz u9)))) (mV bb mz (nx bb mz (nx bb mz (nx bb mz u9)))) (mV bb mz (nx bb mz (nx bb mz (mSt bb mz (nx bb mz (nx bb mz (nx bb mz u9))))))) (by omega) (by omega) (mV_in99 h_43) hs0 hs1 hs2 hsS hsM hsp hsr hsw hsR hsG) kv_X9_87 ⟨rfl, rfl, Nat.le_of_ble_eq_true rfl, Nat.le_of_ble_eq_true rfl⟩ ⟨Nat.le_of_ble_eq_true rfl, Nat.le_of_ble_eq_true rfl⟩ hK hN hZ hP hD hS hA [1, 0] [2] rfl rfl rfl rfl (by decide) 0 rfl rfl rfl rfl hl.1 rfl (Nat.le_of_ble_eq_true rfl) dX9_wayItem_154 (fun r_91 u_r_91 H locs hw_r_91 hP hD hS => ?_)
                    obtain ⟨ms2_92, rfl⟩ : ∃ z, z = u_r_91 := ⟨_, rfl⟩
                    try dsimp only at hw_r_91
                    obtain ⟨hw_r_91, i_93, i_94, i_95, i_96, i_97, i_98, i_99, i_100, i_101, i_102⟩ := hw_r_91
                    have hP : va_P D vwCl [(yta, .inl (cI, 120, .inl tp)), (h0, .inr (9, [.ref ys, .ref yk, .ref yo, .ref yt, .int mk0, .ref yfa, .ref yfe, .int mL, .int mS, .int mM, .ref yro, .ref yhe, .ref ygr, .int mF, .int mC, .int mY, .ref yta, .int (nI (mz)), .int (nI ((nf bb mz (nx bb mz (mSt bb mz (nx bb mz (nx bb mz (mSt bb mz (nx bb mz (nx bb mz (mSt bb mz (nx bb mz (nx bb mz (nx bb mz u9)))))))))))))), .int (nI ((nx bb mz (nx bb mz (mSt bb mz (nx bb mz (nx bb mz (mSt bb mz (nx bb mz (nx bb mz (mSt bb mz (nx bb mz (nx bb mz (nx bb mz u9)))))))))))))), .int (mV bb mz (nx bb mz (nx bb mz (mSt bb mz (nx bb mz (nx bb mz (mSt bb mz (nx bb mz (nx bb mz (nx bb mz u9)))))))))), .int 0, .ref ywa, .ref ybi, .ref ysi, .ref ynu, .ref ymo])), (ys, .inl (cI, 449, .inl ms2_92))] H := hP
                    have hD : va_D A [(yta, .inl (cI, 120, .inl tp)), (h0, .inr (9, [.ref ys, .ref yk, .ref yo, .ref yt, .int mk0, .ref yfa, .ref yfe, .int mL, .int mS, .int mM, .ref yro, .ref yhe, .ref ygr, .int mF, .int mC, .int mY, .ref yta, .int (nI (mz)), .int (nI ((nf bb mz (nx bb mz (mSt bb mz (nx bb mz (nx bb mz (mSt bb mz (nx bb mz (nx bb mz (mSt bb mz (nx bb mz (nx bb mz (nx bb mz u9)))))))))))))), .int (nI ((nx bb mz (nx bb mz (mSt bb mz (nx bb mz (nx bb mz (mSt bb mz (nx bb mz (nx bb mz (mSt bb mz (nx bb mz (nx bb mz (nx bb mz u9)))))))))))))), .int (mV bb mz (nx bb mz (nx bb mz (mSt bb mz (nx bb mz (nx bb mz (mSt bb mz (nx bb mz (nx bb mz (nx bb mz u9)))))))))), .int 0, .ref ywa, .ref ybi, .ref ysi, .ref ynu, .ref ymo])), (ys, .inl (cI, 449, .inl ms2_92))] := hD
                    rcases hw_r_91 with ⟨rfl, h_103⟩ | ⟨rfl, h_104⟩
                    · skip
                      refine lv_istore (lv' := [(6, .int 1), (5, .int 1), (4, .int (mV bb mz (nx bb mz (nx bb mz (mSt bb mz (nx bb mz (nx bb mz (nx bb mz u9)))))))), (3, .int (mV bb mz (nx bb mz (nx bb mz (nx bb mz u9))))), (2, .int (nI (num bb (nf bb mz (nx bb mz (nx bb mz u9))) (nx bb mz (nx bb mz (nx bb mz u9)))))), (1, .int (nI (num bb (nf bb mz (nx bb mz u9)) (nx bb mz (nx bb mz u9))))), (0, .ref h0)]) hx hb dX9_wayItem_157 hl (by decide) rfl (fun ls hl => ?_)
                      refine lv_iload hx hb dX9_wayItem_159 (lv_at hl 0 rfl) ?_
                      refine lv_iload hx hb dX9_wayItem_161 (lv_at hl 1 rfl) ?_
                      refine lv_if_eq (tgt := 183) hx hb dX9_wayItem_163 (by decide) (fun c_105 => absurd c_105 (by decide)) (fun c_105 => ?_)
                      refine lv_aload_n hx hb dX9_wayItem_166 rfl (lv_at hl 6 rfl) ?_
                      refine lv_iload_n hx hb dX9_wayItem_167 rfl (lv_at hl 4 rfl) ?_
                      refine lv_iload_n hx hb dX9_wayItem_168 rfl (lv_at hl 5 rfl) ?_
                      refine lv_aload_n hx hb dX9_wayItem_169 rfl (lv_at hl 6 rfl) ?_
                      refine xg hF kf_X9_275 hK hP 1 rfl rfl dX9_wayItem_170 ?_
                      refine lv_aload_n hx hb dX9_wayItem_173 rfl (lv_at hl 6 rfl) ?_
                      refine xg hF kf_X9_275 hK hP 1 rfl rfl dX9_wayItem_174 ?_
                      refine xc_Vi (wr := [(yta, .inl (cI, 120, .inl tp))]) hF (c_X9_makes l D cI cJ cZ cS ta sa sv H.size h0 ys yk yo yt mk0 yfa yfe mL mS mM yro yhe ygr mF mC mY yta mz (nf bb mz (nx bb mz (mSt bb mz (nx bb mz (nx bb mz (mSt bb mz (nx bb mz (nx bb mz (mSt bb mz (nx bb mz (nx bb mz (nx bb mz u9)))))))))))) (nx bb mz (nx bb mz (mSt bb mz (nx bb mz (nx bb mz (mSt bb mz (nx bb mz (nx bb mz (mSt bb mz (nx bb mz (nx bb mz (nx bb mz u9)))))))))))) (mV bb mz (nx bb mz (nx bb mz (mSt bb mz (nx bb mz (nx bb mz (mSt bb mz (nx bb mz (nx bb mz (nx bb mz u9)))))))))) 0 ywa ybi ysi ynu ymo ms2_92 P Rn Wn fae (upd fal (10 * (num bb (nf bb mz (nx bb mz u9)) (nx bb mz (nx bb mz u9))) + (num bb (nf bb mz (nx bb mz (nx bb mz u9))) (nx bb mz (nx bb mz (nx bb mz u9))))) (mV bb mz (nx bb mz (nx bb mz (nx bb mz u9))))) (upd fau (10 * (num bb (nf bb mz (nx bb mz u9)) (nx bb mz (nx bb mz u9))) + (num bb (nf bb mz (nx bb mz (nx bb mz u9))) (nx bb mz (nx bb mz (nx bb mz u9))))) (mV bb mz (nx bb mz (nx bb mz (mSt bb mz (nx bb mz (nx bb mz (nx bb mz u9)))))))) (upd fao (10 * (num bb (nf bb mz (nx bb mz u9)) (nx bb mz (nx bb mz u9))) + (num bb (nf bb mz (nx bb mz (nx bb mz u9))) (nx bb mz (nx bb mz (nx bb mz u9))))) 1) farn farp fak fawn fawp fat fas (num bb (nf bb mz (nx bb mz (nx bb mz u9))) (nx bb mz (nx bb mz (nx bb mz u9)))) (num bb (nf bb mz (nx bb mz u9)) (nx bb mz (nx bb mz u9))) (mV bb mz (nx bb mz (nx bb mz (mSt bb mz (nx bb mz (nx bb mz (mSt bb mz (nx bb mz (nx bb mz (nx bb mz u9)))))))))) (mV bb mz (nx bb mz (nx bb mz (mSt bb mz (nx bb mz (nx bb mz (mSt bb mz (nx bb mz (nx bb mz (nx bb mz u9)))))))))) (by omega) (by omega) (mV_in99 h_83) i_93 i_94 i_95 i_96 i_97 i_98 i_99 i_100 i_101 i_102) kv_X9_87 ⟨rfl, rfl, Nat.le_of_ble_eq_true rfl, Nat.le_of_ble_eq_true rfl⟩ ⟨Nat.le_of_ble_eq_true rfl, Nat.le_of_ble_eq_true rfl⟩ hK hN hZ hP hD hS hA [1, 2] [0] rfl rfl rfl rfl (by decide) 0 rfl rfl rfl rfl hl.1 rfl (Nat.le_of_ble_eq_true rfl) dX9_wayItem_177 (fun r_106 u_r_106 H locs hw_r_106 hP hD hS => ?_)
                      obtain ⟨ms2_107, rfl⟩ : ∃ z, z = u_r_106 := ⟨_, rfl⟩
                      try dsimp only at hw_r_106
                      obtain ⟨hw_r_106, i_108, i_109, i_110, i_111, i_112, i_113, i_114, i_115, i_116, i_117⟩ := hw_r_106
                      have hP : va_P D vwCl [(yta, .inl (cI, 120, .inl tp)), (h0, .inr (9, [.ref ys, .ref yk, .ref yo, .ref yt, .int mk0, .ref yfa, .ref yfe, .int mL, .int mS, .int mM, .ref yro, .ref yhe, .ref ygr, .int mF, .int mC, .int mY, .ref yta, .int (nI (mz)), .int (nI ((nf bb mz (nx bb mz (mSt bb mz (nx bb mz (nx bb mz (mSt bb mz (nx bb mz (nx bb mz (mSt bb mz (nx bb mz (nx bb mz (nx bb mz u9)))))))))))))), .int (nI ((nx bb mz (nx bb mz (mSt bb mz (nx bb mz (nx bb mz (mSt bb mz (nx bb mz (nx bb mz (mSt bb mz (nx bb mz (nx bb mz (nx bb mz u9)))))))))))))), .int (mV bb mz (nx bb mz (nx bb mz (mSt bb mz (nx bb mz (nx bb mz (mSt bb mz (nx bb mz (nx bb mz (nx bb mz u9)))))))))), .int 0, .ref ywa, .ref ybi, .ref ysi, .ref ynu, .ref ymo])), (ys, .inl (cI, 449, .inl ms2_107))] H := hP
                      have hD : va_D A [(yta, .inl (cI, 120, .inl tp)), (h0, .inr (9, [.ref ys, .ref yk, .ref yo, .ref yt, .int mk0, .ref yfa, .ref yfe, .int mL, .int mS, .int mM, .ref yro, .ref yhe, .ref ygr, .int mF, .int mC, .int mY, .ref yta, .int (nI (mz)), .int (nI ((nf bb mz (nx bb mz (mSt bb mz (nx bb mz (nx bb mz (mSt bb mz (nx bb mz (nx bb mz (mSt bb mz (nx bb mz (nx bb mz (nx bb mz u9)))))))))))))), .int (nI ((nx bb mz (nx bb mz (mSt bb mz (nx bb mz (nx bb mz (mSt bb mz (nx bb mz (nx bb mz (mSt bb mz (nx bb mz (nx bb mz (nx bb mz u9)))))))))))))), .int (mV bb mz (nx bb mz (nx bb mz (mSt bb mz (nx bb mz (nx bb mz (mSt bb mz (nx bb mz (nx bb mz (nx bb mz u9)))))))))), .int 0, .ref ywa, .ref ybi, .ref ysi, .ref ynu, .ref ymo])), (ys, .inl (cI, 449, .inl ms2_107))] := hD
                      rcases hw_r_106 with ⟨rfl, h_118⟩ | ⟨rfl, h_119⟩
                      · skip
                        refine lv_goto (tgt := 184) hx hb dX9_wayItem_180 (by decide) ?_
                        refine lv_iadd hx hb dX9_wayItem_184 ?_
                        refine xl_i (y := 2) (by decide) ?_
                        refine lv_istore (lv' := [(6, .int 2), (5, .int 1), (4, .int (mV bb mz (nx bb mz (nx bb mz (mSt bb mz (nx bb mz (nx bb mz (nx bb mz u9)))))))), (3, .int (mV bb mz (nx bb mz (nx bb mz (nx bb mz u9))))), (2, .int (nI (num bb (nf bb mz (nx bb mz (nx bb mz u9))) (nx bb mz (nx bb mz (nx bb mz u9)))))), (1, .int (nI (num bb (nf bb mz (nx bb mz u9)) (nx bb mz (nx bb mz u9))))), (0, .ref h0)]) hx hb dX9_wayItem_185 hl (by decide) rfl (fun ls hl => ?_)
                        have hc1 := okR_N (by omega) h_10
                        have hc2 := okN_of (P := P) (by omega) h_18 (show num bb (nf bb mz (nx bb mz (nx bb mz u9))) (nx bb mz (nx bb mz (nx bb mz u9))) < P by have h9 := num_k h_18 (by omega) h_22; omega)
                        exact W.vret hx hb hr (fun t ht hW => ⟨⟨(nx bb mz (mSt bb mz (nx bb mz (nx bb mz (mSt bb mz (nx bb mz (nx bb mz (mSt bb mz (nx bb mz (nx bb mz (nx bb mz u9)))))))))), 0, (mV bb mz (nx bb mz (nx bb mz (mSt bb mz (nx bb mz (nx bb mz (mSt bb mz (nx bb mz (nx bb mz (nx bb mz u9)))))))))), ms2_107, upd (upd fal (10 * (num bb (nf bb mz (nx bb mz u9)) (nx bb mz (nx bb mz u9))) + (num bb (nf bb mz (nx bb mz (nx bb mz u9))) (nx bb mz (nx bb mz (nx bb mz u9))))) (mV bb mz (nx bb mz (nx bb mz (nx bb mz u9))))) (10 * (num bb (nf bb mz (nx bb mz (nx bb mz u9))) (nx bb mz (nx bb mz (nx bb mz u9)))) + (num bb (nf bb mz (nx bb mz u9)) (nx bb mz (nx bb mz u9)))) (mV bb mz (nx bb mz (nx bb mz (mSt bb mz (nx bb mz (nx bb mz (mSt bb mz (nx bb mz (nx bb mz (nx bb mz u9)))))))))), upd (upd fau (10 * (num bb (nf bb mz (nx bb mz u9)) (nx bb mz (nx bb mz u9))) + (num bb (nf bb mz (nx bb mz (nx bb mz u9))) (nx bb mz (nx bb mz (nx bb mz u9))))) (mV bb mz (nx bb mz (nx bb mz (mSt bb mz (nx bb mz (nx bb mz (nx bb mz u9)))))))) (10 * (num bb (nf bb mz (nx bb mz (nx bb mz u9))) (nx bb mz (nx bb mz (nx bb mz u9)))) + (num bb (nf bb mz (nx bb mz u9)) (nx bb mz (nx bb mz u9)))) (mV bb mz (nx bb mz (nx bb mz (mSt bb mz (nx bb mz (nx bb mz (mSt bb mz (nx bb mz (nx bb mz (nx bb mz u9)))))))))), upd (upd fao (10 * (num bb (nf bb mz (nx bb mz u9)) (nx bb mz (nx bb mz u9))) + (num bb (nf bb mz (nx bb mz (nx bb mz u9))) (nx bb mz (nx bb mz (nx bb mz u9))))) 1) (10 * (num bb (nf bb mz (nx bb mz (nx bb mz u9))) (nx bb mz (nx bb mz (nx bb mz u9)))) + (num bb (nf bb mz (nx bb mz u9)) (nx bb mz (nx bb mz u9)))) 1), rfl, ⟨Or.inl ⟨(cif_pos (hc1.1)).trans ((cif_pos (⟨hc2.1, fun h => nc_26 ((hc2.2.symm.trans h).trans hc1.2.2)⟩)).trans ((cif_pos (h_43)).trans ((cif_pos (h_51)).trans ((cif_pos (h_63)).trans ((cif_pos (h_71)).trans (cif_pos (h_83))))))), rfl, by omega, wy2_Y (wyV2_p (b := bb) (z := mz) (u := u9) h_51) h_71 (congr (congrArg (fun a b => 10 * a + b) hc1.2.2.symm) hc2.2.symm) (congr (congrArg (fun a b => 10 * a + b) hc2.2.symm) hc1.2.2.symm) rfl (wyBk_e (wyV2_p (b := bb) (z := mz) (u := u9) h_51)), wy2_Y (wyV2_p (b := bb) (z := mz) (u := u9) h_51) h_71 (congr (congrArg (fun a b => 10 * a + b) hc1.2.2.symm) hc2.2.symm) (congr (congrArg (fun a b => 10 * a + b) hc2.2.symm) hc1.2.2.symm) (wyHi_p (b := bb) (z := mz) (u := u9) h_51) (wyBk_e (wyV2_p (b := bb) (z := mz) (u := u9) h_51)), wy2_Y (wyV2_p (b := bb) (z := mz) (u := u9) h_51) h_71 (congr (congrArg (fun a b => 10 * a + b) hc1.2.2.symm) hc2.2.symm) (congr (congrArg (fun a b => 10 * a + b) hc2.2.symm) hc1.2.2.symm) rfl rfl⟩, (by first | assumption | omega), i_108, i_109, i_110, i_111, i_112, i_113, i_114, i_115, i_116, i_117⟩, by rw [ht]; exact hP.sub [1, 2, 0] rfl, hD.sub [1, 2, 0] (by decide) rfl⟩, hS.F ht⟩) hS.2.2 dX9_wayItem_187 hlk
                      · skip
                        refine lv_goto (tgt := 184) hx hb dX9_wayItem_180 (by decide) ?_
                        refine lv_iadd hx hb dX9_wayItem_184 ?_
                        refine xl_i (y := 1) (by decide) ?_
                        refine lv_istore (lv' := [(6, .int 1), (5, .int 1), (4, .int (mV bb mz (nx bb mz (nx bb mz (mSt bb mz (nx bb mz (nx bb mz (nx bb mz u9)))))))), (3, .int (mV bb mz (nx bb mz (nx bb mz (nx bb mz u9))))), (2, .int (nI (num bb (nf bb mz (nx bb mz (nx bb mz u9))) (nx bb mz (nx bb mz (nx bb mz u9)))))), (1, .int (nI (num bb (nf bb mz (nx bb mz u9)) (nx bb mz (nx bb mz u9))))), (0, .ref h0)]) hx hb dX9_wayItem_185 hl (by decide) rfl (fun ls hl => ?_)
                        have hc1 := okR_N (by omega) h_10
                        have hc2 := okN_of (P := P) (by omega) h_18 (show num bb (nf bb mz (nx bb mz (nx bb mz u9))) (nx bb mz (nx bb mz (nx bb mz u9))) < P by have h9 := num_k h_18 (by omega) h_22; omega)
                        exact W.vret hx hb hr (fun t ht hW => ⟨⟨(nx bb mz (mSt bb mz (nx bb mz (nx bb mz (mSt bb mz (nx bb mz (nx bb mz (mSt bb mz (nx bb mz (nx bb mz (nx bb mz u9)))))))))), 0, (mV bb mz (nx bb mz (nx bb mz (mSt bb mz (nx bb mz (nx bb mz (mSt bb mz (nx bb mz (nx bb mz (nx bb mz u9)))))))))), ms2_107, upd (upd fal (10 * (num bb (nf bb mz (nx bb mz u9)) (nx bb mz (nx bb mz u9))) + (num bb (nf bb mz (nx bb mz (nx bb mz u9))) (nx bb mz (nx bb mz (nx bb mz u9))))) (mV bb mz (nx bb mz (nx bb mz (nx bb mz u9))))) (10 * (num bb (nf bb mz (nx bb mz (nx bb mz u9))) (nx bb mz (nx bb mz (nx bb mz u9)))) + (num bb (nf bb mz (nx bb mz u9)) (nx bb mz (nx bb mz u9)))) (mV bb mz (nx bb mz (nx bb mz (mSt bb mz (nx bb mz (nx bb mz (mSt bb mz (nx bb mz (nx bb mz (nx bb mz u9)))))))))), upd (upd fau (10 * (num bb (nf bb mz (nx bb mz u9)) (nx bb mz (nx bb mz u9))) + (num bb (nf bb mz (nx bb mz (nx bb mz u9))) (nx bb mz (nx bb mz (nx bb mz u9))))) (mV bb mz (nx bb mz (nx bb mz (mSt bb mz (nx bb mz (nx bb mz (nx bb mz u9)))))))) (10 * (num bb (nf bb mz (nx bb mz (nx bb mz u9))) (nx bb mz (nx bb mz (nx bb mz u9)))) + (num bb (nf bb mz (nx bb mz u9)) (nx bb mz (nx bb mz u9)))) (mV bb mz (nx bb mz (nx bb mz (mSt bb mz (nx bb mz (nx bb mz (mSt bb mz (nx bb mz (nx bb mz (nx bb mz u9)))))))))), upd (upd fao (10 * (num bb (nf bb mz (nx bb mz u9)) (nx bb mz (nx bb mz u9))) + (num bb (nf bb mz (nx bb mz (nx bb mz u9))) (nx bb mz (nx bb mz (nx bb mz u9))))) 1) (10 * (num bb (nf bb mz (nx bb mz (nx bb mz u9))) (nx bb mz (nx bb mz (nx bb mz u9)))) + (num bb (nf bb mz (nx bb mz u9)) (nx bb mz (nx bb mz u9)))) 1), rfl, ⟨Or.inl ⟨(cif_pos (hc1.1)).trans ((cif_pos (⟨hc2.1, fun h => nc_26 ((hc2.2.symm.trans h).trans hc1.2.2)⟩)).trans ((cif_pos (h_43)).trans ((cif_pos (h_51)).trans ((cif_pos (h_63)).trans ((cif_pos (h_71)).trans (cif_pos (h_83))))))), rfl, by omega, wy2_Y (wyV2_p (b := bb) (z := mz) (u := u9) h_51) h_71 (congr (congrArg (fun a b => 10 * a + b) hc1.2.2.symm) hc2.2.symm) (congr (congrArg (fun a b => 10 * a + b) hc2.2.symm) hc1.2.2.symm) rfl (wyBk_e (wyV2_p (b := bb) (z := mz) (u := u9) h_51)), wy2_Y (wyV2_p (b := bb) (z := mz) (u := u9) h_51) h_71 (congr (congrArg (fun a b => 10 * a + b) hc1.2.2.symm) hc2.2.symm) (congr (congrArg (fun a b => 10 * a + b) hc2.2.symm) hc1.2.2.symm) (wyHi_p (b := bb) (z := mz) (u := u9) h_51) (wyBk_e (wyV2_p (b := bb) (z := mz) (u := u9) h_51)), wy2_Y (wyV2_p (b := bb) (z := mz) (u := u9) h_51) h_71 (congr (congrArg (fun a b => 10 * a + b) hc1.2.2.symm) hc2.2.symm) (congr (congrArg (fun a b => 10 * a + b) hc2.2.symm) hc1.2.2.symm) rfl rfl⟩, (by first | assumption | omega), i_108, i_109, i_110, i_111, i_112, i_113, i_114, i_115, i_116, i_117⟩, by rw [ht]; exact hP.sub [1, 2, 0] rfl, hD.sub [1, 2, 0] (by decide) rfl⟩, hS.F ht⟩) hS.2.2 dX9_wayItem_187 hlk
                    · skip
                      refine lv_istore (lv' := [(6, .int 0), (5, .int 1), (4, .int (mV bb mz (nx bb mz (nx bb mz (mSt bb mz (nx bb mz (nx bb mz (nx bb mz u9)))))))), (3, .int (mV bb mz (nx bb mz (nx bb mz (nx bb mz u9))))), (2, .int (nI (num bb (nf bb mz (nx bb mz (nx bb mz u9))) (nx bb mz (nx bb mz (nx bb mz u9)))))), (1, .int (nI (num bb (nf bb mz (nx bb mz u9)) (nx bb mz (nx bb mz u9))))), (0, .ref h0)]) hx hb dX9_wayItem_157 hl (by decide) rfl (fun ls hl => ?_)
                      refine lv_iload hx hb dX9_wayItem_159 (lv_at hl 0 rfl) ?_
                      refine lv_iload hx hb dX9_wayItem_161 (lv_at hl 1 rfl) ?_
                      refine lv_if_eq (tgt := 183) hx hb dX9_wayItem_163 (by decide) (fun c_120 => absurd c_120 (by decide)) (fun c_120 => ?_)
                      refine lv_aload_n hx hb dX9_wayItem_166 rfl (lv_at hl 6 rfl) ?_
                      refine lv_iload_n hx hb dX9_wayItem_167 rfl (lv_at hl 4 rfl) ?_
                      refine lv_iload_n hx hb dX9_wayItem_168 rfl (lv_at hl 5 rfl) ?_
                      refine lv_aload_n hx hb dX9_wayItem_169 rfl (lv_at hl 6 rfl) ?_
                      refine xg hF kf_X9_275 hK hP 1 rfl rfl dX9_wayItem_170 ?_
                      refine lv_aload_n hx hb dX9_wayItem_173 rfl (lv_at hl 6 rfl) ?_
                      refine xg hF kf_X9_275 hK hP 1 rfl rfl dX9_wayItem_174 ?_
                      refine xc_Vi (wr := [(yta, .inl (cI, 120, .inl tp))]) hF (c_X9_makes l D cI cJ cZ cS ta sa sv H.size h0 ys yk yo yt mk0 yfa yfe mL mS mM yro yhe ygr mF mC mY yta mz (nf bb mz (nx bb mz (mSt bb mz (nx bb mz (nx bb mz (mSt bb mz (nx bb mz (nx bb mz (mSt bb mz (nx bb mz (nx bb mz (nx bb mz u9)))))))))))) (nx bb mz (nx bb mz (mSt bb mz (nx bb mz (nx bb mz (mSt bb mz (nx bb mz (nx bb mz (mSt bb mz (nx bb mz (nx bb mz (nx bb mz u9)))))))))))) (mV bb mz (nx bb mz (nx bb mz (mSt bb mz (nx bb mz (nx bb mz (mSt bb mz (nx bb mz (nx bb mz (nx bb mz u9)))))))))) 0 ywa ybi ysi ynu ymo ms2_92 P Rn Wn fae (upd fal (10 * (num bb (nf bb mz (nx bb mz u9)) (nx bb mz (nx bb mz u9))) + (num bb (nf bb mz (nx bb mz (nx bb mz u9))) (nx bb mz (nx bb mz (nx bb mz u9))))) (mV bb mz (nx bb mz (nx bb mz (nx bb mz u9))))) (upd fau (10 * (num bb (nf bb mz (nx bb mz u9)) (nx bb mz (nx bb mz u9))) + (num bb (nf bb mz (nx bb mz (nx bb mz u9))) (nx bb mz (nx bb mz (nx bb mz u9))))) (mV bb mz (nx bb mz (nx bb mz (mSt bb mz (nx bb mz (nx bb mz (nx bb mz u9)))))))) (upd fao (10 * (num bb (nf bb mz (nx bb mz u9)) (nx bb mz (nx bb mz u9))) + (num bb (nf bb mz (nx bb mz (nx bb mz u9))) (nx bb mz (nx bb mz (nx bb mz u9))))) 1) farn farp fak fawn fawp fat fas (num bb (nf bb mz (nx bb mz (nx bb mz u9))) (nx bb mz (nx bb mz (nx bb mz u9)))) (num bb (nf bb mz (nx bb mz u9)) (nx bb mz (nx bb mz u9))) (mV bb mz (nx bb mz (nx bb mz (mSt bb mz (nx bb mz (nx bb mz (mSt bb mz (nx bb mz (nx bb mz (nx bb mz u9)))))))))) (mV bb mz (nx bb mz (nx bb mz (mSt bb mz (nx bb mz (nx bb mz (mSt bb mz (nx bb mz (nx bb mz (nx bb mz u9)))))))))) (by omega) (by omega) (mV_in99 h_83) i_93 i_94 i_95 i_96 i_97 i_98 i_99 i_100 i_101 i_102) kv_X9_87 ⟨rfl, rfl, Nat.le_of_ble_eq_true rfl, Nat.le_of_ble_eq_true rfl⟩ ⟨Nat.le_of_ble_eq_true rfl, Nat.le_of_ble_eq_true rfl⟩ hK hN hZ hP hD hS hA [1, 2] [0] rfl rfl rfl rfl (by decide) 0 rfl rfl rfl rfl hl.1 rfl (Nat.le_of_ble_eq_true rfl) dX9_wayItem_177 (fun r_121 u_r_121 H locs hw_r_121 hP hD hS => ?_)
                      obtain ⟨ms2_122, rfl⟩ : ∃ z, z = u_r_121 := ⟨_, rfl⟩
                      try dsimp only at hw_r_121
                      obtain ⟨hw_r_121, i_123, i_124, i_125, i_126, i_127, i_128, i_129, i_130, i_131, i_132⟩ := hw_r_121
                      have hP : va_P D vwCl [(yta, .inl (cI, 120, .inl tp)), (h0, .inr (9, [.ref ys, .ref yk, .ref yo, .ref yt, .int mk0, .ref yfa, .ref yfe, .int mL, .int mS, .int mM, .ref yro, .ref yhe, .ref ygr, .int mF, .int mC, .int mY, .ref yta, .int (nI (mz)), .int (nI ((nf bb mz (nx bb mz (mSt bb mz (nx bb mz (nx bb mz (mSt bb mz (nx bb mz (nx bb mz (mSt bb mz (nx bb mz (nx bb mz (nx bb mz u9)))))))))))))), .int (nI ((nx bb mz (nx bb mz (mSt bb mz (nx bb mz (nx bb mz (mSt bb mz (nx bb mz (nx bb mz (mSt bb mz (nx bb mz (nx bb mz (nx bb mz u9)))))))))))))), .int (mV bb mz (nx bb mz (nx bb mz (mSt bb mz (nx bb mz (nx bb mz (mSt bb mz (nx bb mz (nx bb mz (nx bb mz u9)))))))))), .int 0, .ref ywa, .ref ybi, .ref ysi, .ref ynu, .ref ymo])), (ys, .inl (cI, 449, .inl ms2_122))] H := hP
                      have hD : va_D A [(yta, .inl (cI, 120, .inl tp)), (h0, .inr (9, [.ref ys, .ref yk, .ref yo, .ref yt, .int mk0, .ref yfa, .ref yfe, .int mL, .int mS, .int mM, .ref yro, .ref yhe, .ref ygr, .int mF, .int mC, .int mY, .ref yta, .int (nI (mz)), .int (nI ((nf bb mz (nx bb mz (mSt bb mz (nx bb mz (nx bb mz (mSt bb mz (nx bb mz (nx bb mz (mSt bb mz (nx bb mz (nx bb mz (nx bb mz u9)))))))))))))), .int (nI ((nx bb mz (nx bb mz (mSt bb mz (nx bb mz (nx bb mz (mSt bb mz (nx bb mz (nx bb mz (mSt bb mz (nx bb mz (nx bb mz (nx bb mz u9)))))))))))))), .int (mV bb mz (nx bb mz (nx bb mz (mSt bb mz (nx bb mz (nx bb mz (mSt bb mz (nx bb mz (nx bb mz (nx bb mz u9)))))))))), .int 0, .ref ywa, .ref ybi, .ref ysi, .ref ynu, .ref ymo])), (ys, .inl (cI, 449, .inl ms2_122))] := hD
                      rcases hw_r_121 with ⟨rfl, h_133⟩ | ⟨rfl, h_134⟩
                      · skip
                        refine lv_goto (tgt := 184) hx hb dX9_wayItem_180 (by decide) ?_
                        refine lv_iadd hx hb dX9_wayItem_184 ?_
                        refine xl_i (y := 1) (by decide) ?_
                        refine lv_istore (lv' := [(6, .int 1), (5, .int 1), (4, .int (mV bb mz (nx bb mz (nx bb mz (mSt bb mz (nx bb mz (nx bb mz (nx bb mz u9)))))))), (3, .int (mV bb mz (nx bb mz (nx bb mz (nx bb mz u9))))), (2, .int (nI (num bb (nf bb mz (nx bb mz (nx bb mz u9))) (nx bb mz (nx bb mz (nx bb mz u9)))))), (1, .int (nI (num bb (nf bb mz (nx bb mz u9)) (nx bb mz (nx bb mz u9))))), (0, .ref h0)]) hx hb dX9_wayItem_185 hl (by decide) rfl (fun ls hl => ?_)
                        have hc1 := okR_N (by omega) h_10
                        have hc2 := okN_of (P := P) (by omega) h_18 (show num bb (nf bb mz (nx bb mz (nx bb mz u9))) (nx bb mz (nx bb mz (nx bb mz u9))) < P by have h9 := num_k h_18 (by omega) h_22; omega)
                        exact W.vret hx hb hr (fun t ht hW => ⟨⟨(nx bb mz (mSt bb mz (nx bb mz (nx bb mz (mSt bb mz (nx bb mz (nx bb mz (mSt bb mz (nx bb mz (nx bb mz (nx bb mz u9)))))))))), 0, (mV bb mz (nx bb mz (nx bb mz (mSt bb mz (nx bb mz (nx bb mz (mSt bb mz (nx bb mz (nx bb mz (nx bb mz u9)))))))))), ms2_122, upd (upd fal (10 * (num bb (nf bb mz (nx bb mz u9)) (nx bb mz (nx bb mz u9))) + (num bb (nf bb mz (nx bb mz (nx bb mz u9))) (nx bb mz (nx bb mz (nx bb mz u9))))) (mV bb mz (nx bb mz (nx bb mz (nx bb mz u9))))) (10 * (num bb (nf bb mz (nx bb mz (nx bb mz u9))) (nx bb mz (nx bb mz (nx bb mz u9)))) + (num bb (nf bb mz (nx bb mz u9)) (nx bb mz (nx bb mz u9)))) (mV bb mz (nx bb mz (nx bb mz (mSt bb mz (nx bb mz (nx bb mz (mSt bb mz (nx bb mz (nx bb mz (nx bb mz u9)))))))))), upd (upd fau (10 * (num bb (nf bb mz (nx bb mz u9)) (nx bb mz (nx bb mz u9))) + (num bb (nf bb mz (nx bb mz (nx bb mz u9))) (nx bb mz (nx bb mz (nx bb mz u9))))) (mV bb mz (nx bb mz (nx bb mz (mSt bb mz (nx bb mz (nx bb mz (nx bb mz u9)))))))) (10 * (num bb (nf bb mz (nx bb mz (nx bb mz u9))) (nx bb mz (nx bb mz (nx bb mz u9)))) + (num bb (nf bb mz (nx bb mz u9)) (nx bb mz (nx bb mz u9)))) (mV bb mz (nx bb mz (nx bb mz (mSt bb mz (nx bb mz (nx bb mz (mSt bb mz (nx bb mz (nx bb mz (nx bb mz u9)))))))))), upd (upd fao (10 * (num bb (nf bb mz (nx bb mz u9)) (nx bb mz (nx bb mz u9))) + (num bb (nf bb mz (nx bb mz (nx bb mz u9))) (nx bb mz (nx bb mz (nx bb mz u9))))) 1) (10 * (num bb (nf bb mz (nx bb mz (nx bb mz u9))) (nx bb mz (nx bb mz (nx bb mz u9)))) + (num bb (nf bb mz (nx bb mz u9)) (nx bb mz (nx bb mz u9)))) 1), rfl, ⟨Or.inl ⟨(cif_pos (hc1.1)).trans ((cif_pos (⟨hc2.1, fun h => nc_26 ((hc2.2.symm.trans h).trans hc1.2.2)⟩)).trans ((cif_pos (h_43)).trans ((cif_pos (h_51)).trans ((cif_pos (h_63)).trans ((cif_pos (h_71)).trans (cif_pos (h_83))))))), rfl, by omega, wy2_Y (wyV2_p (b := bb) (z := mz) (u := u9) h_51) h_71 (congr (congrArg (fun a b => 10 * a + b) hc1.2.2.symm) hc2.2.symm) (congr (congrArg (fun a b => 10 * a + b) hc2.2.symm) hc1.2.2.symm) rfl (wyBk_e (wyV2_p (b := bb) (z := mz) (u := u9) h_51)), wy2_Y (wyV2_p (b := bb) (z := mz) (u := u9) h_51) h_71 (congr (congrArg (fun a b => 10 * a + b) hc1.2.2.symm) hc2.2.symm) (congr (congrArg (fun a b => 10 * a + b) hc2.2.symm) hc1.2.2.symm) (wyHi_p (b := bb) (z := mz) (u := u9) h_51) (wyBk_e (wyV2_p (b := bb) (z := mz) (u := u9) h_51)), wy2_Y (wyV2_p (b := bb) (z := mz) (u := u9) h_51) h_71 (congr (congrArg (fun a b => 10 * a + b) hc1.2.2.symm) hc2.2.symm) (congr (congrArg (fun a b => 10 * a + b) hc2.2.symm) hc1.2.2.symm) rfl rfl⟩, (by first | assumption | omega), i_123, i_124, i_125, i_126, i_127, i_128, i_129, i_130, i_131, i_132⟩, by rw [ht]; exact hP.sub [1, 2, 0] rfl, hD.sub [1, 2, 0] (by decide) rfl⟩, hS.F ht⟩) hS.2.2 dX9_wayItem_187 hlk
                      · skip
                        refine lv_goto (tgt := 184) hx hb dX9_wayItem_180 (by decide) ?_
                        refine lv_iadd hx hb dX9_wayItem_184 ?_
                        refine xl_i (y := 0) (by decide) ?_
                        refine lv_istore (lv' := [(6, .int 0), (5, .int 1), (4, .int (mV bb mz (nx bb mz (nx bb mz (mSt bb mz (nx bb mz (nx bb mz (nx bb mz u9)))))))), (3, .int (mV bb mz (nx bb mz (nx bb mz (nx bb mz u9))))), (2, .int (nI (num bb (nf bb mz (nx bb mz (nx bb mz u9))) (nx bb mz (nx bb mz (nx bb mz u9)))))), (1, .int (nI (num bb (nf bb mz (nx bb mz u9)) (nx bb mz (nx bb mz u9))))), (0, .ref h0)]) hx hb dX9_wayItem_185 hl (by decide) rfl (fun ls hl => ?_)
                        have hc1 := okR_N (by omega) h_10
                        have hc2 := okN_of (P := P) (by omega) h_18 (show num bb (nf bb mz (nx bb mz (nx bb mz u9))) (nx bb mz (nx bb mz (nx bb mz u9))) < P by have h9 := num_k h_18 (by omega) h_22; omega)
                        exact W.vret hx hb hr (fun t ht hW => ⟨⟨(nx bb mz (mSt bb mz (nx bb mz (nx bb mz (mSt bb mz (nx bb mz (nx bb mz (mSt bb mz (nx bb mz (nx bb mz (nx bb mz u9)))))))))), 0, (mV bb mz (nx bb mz (nx bb mz (mSt bb mz (nx bb mz (nx bb mz (mSt bb mz (nx bb mz (nx bb mz (nx bb mz u9)))))))))), ms2_122, upd (upd fal (10 * (num bb (nf bb mz (nx bb mz u9)) (nx bb mz (nx bb mz u9))) + (num bb (nf bb mz (nx bb mz (nx bb mz u9))) (nx bb mz (nx bb mz (nx bb mz u9))))) (mV bb mz (nx bb mz (nx bb mz (nx bb mz u9))))) (10 * (num bb (nf bb mz (nx bb mz (nx bb mz u9))) (nx bb mz (nx bb mz (nx bb mz u9)))) + (num bb (nf bb mz (nx bb mz u9)) (nx bb mz (nx bb mz u9)))) (mV bb mz (nx bb mz (nx bb mz (mSt bb mz (nx bb mz (nx bb mz (mSt bb mz (nx bb mz (nx bb mz (nx bb mz u9)))))))))), upd (upd fau (10 * (num bb (nf bb mz (nx bb mz u9)) (nx bb mz (nx bb mz u9))) + (num bb (nf bb mz (nx bb mz (nx bb mz u9))) (nx bb mz (nx bb mz (nx bb mz u9))))) (mV bb mz (nx bb mz (nx bb mz (mSt bb mz (nx bb mz (nx bb mz (nx bb mz u9)))))))) (10 * (num bb (nf bb mz (nx bb mz (nx bb mz u9))) (nx bb mz (nx bb mz (nx bb mz u9)))) + (num bb (nf bb mz (nx bb mz u9)) (nx bb mz (nx bb mz u9)))) (mV bb mz (nx bb mz (nx bb mz (mSt bb mz (nx bb mz (nx bb mz (mSt bb mz (nx bb mz (nx bb mz (nx bb mz u9)))))))))), upd (upd fao (10 * (num bb (nf bb mz (nx bb mz u9)) (nx bb mz (nx bb mz u9))) + (num bb (nf bb mz (nx bb mz (nx bb mz u9))) (nx bb mz (nx bb mz (nx bb mz u9))))) 1) (10 * (num bb (nf bb mz (nx bb mz (nx bb mz u9))) (nx bb mz (nx bb mz (nx bb mz u9)))) + (num bb (nf bb mz (nx bb mz u9)) (nx bb mz (nx bb mz u9)))) 1), rfl, ⟨Or.inl ⟨(cif_pos (hc1.1)).trans ((cif_pos (⟨hc2.1, fun h => nc_26 ((hc2.2.symm.trans h).trans hc1.2.2)⟩)).trans ((cif_pos (h_43)).trans ((cif_pos (h_51)).trans ((cif_pos (h_63)).trans ((cif_pos (h_71)).trans (cif_pos (h_83))))))), rfl, by omega, wy2_Y (wyV2_p (b := bb) (z := mz) (u := u9) h_51) h_71 (congr (congrArg (fun a b => 10 * a + b) hc1.2.2.symm) hc2.2.symm) (congr (congrArg (fun a b => 10 * a + b) hc2.2.symm) hc1.2.2.symm) rfl (wyBk_e (wyV2_p (b := bb) (z := mz) (u := u9) h_51)), wy2_Y (wyV2_p (b := bb) (z := mz) (u := u9) h_51) h_71 (congr (congrArg (fun a b => 10 * a + b) hc1.2.2.symm) hc2.2.symm) (congr (congrArg (fun a b => 10 * a + b) hc2.2.symm) hc1.2.2.symm) (wyHi_p (b := bb) (z := mz) (u := u9) h_51) (wyBk_e (wyV2_p (b := bb) (z := mz) (u := u9) h_51)), wy2_Y (wyV2_p (b := bb) (z := mz) (u := u9) h_51) h_71 (congr (congrArg (fun a b => 10 * a + b) hc1.2.2.symm) hc2.2.symm) (congr (congrArg (fun a b => 10 * a + b) hc2.2.symm) hc1.2.2.symm) rfl rfl⟩, (by first | assumption | omega), i_123, i_124, i_125, i_126, i_127, i_128, i_129, i_130, i_131, i_132⟩, by rw [ht]; exact hP.sub [1, 2, 0] rfl, hD.sub [1, 2, 0] (by decide) rfl⟩, hS.F ht⟩) hS.2.2 dX9_wayItem_187 hlk
                  · skip
                    subst h_88
                    subst h_89
                    refine lv_aload_n hx hb dX9_wayItem_141 rfl (lv_at hl 5 rfl) ?_
                    refine xg hF kf_X9_266 hK hP 1 rfl rfl dX9_wayItem_142 ?_
                    refine lv_if_ne (tgt := 187) hx hb dX9_wayItem_145 (by decide) (fun c_135 => ?_) (fun c_135 => absurd c_135 (by decide))
                    have hc1 := okR_N (by omega) h_10
                    have hc2 := okN_of (P := P) (by omega) h_18 (show num bb (nf bb mz (nx bb mz (nx bb mz u9))) (nx bb mz (nx bb mz (nx bb mz u9))) < P by have h9 := num_k h_18 (by omega) h_22; omega)
                    exact W.vret hx hb hr (fun t ht hW => ⟨⟨(mSt bb mz (nx bb mz (nx bb mz (mSt bb mz (nx bb mz (nx bb mz (mSt bb mz (nx bb mz (nx bb mz (nx bb mz u9))))))))), 1, v2_80, ms, fal, fau, fao), rfl, ⟨Or.inr ⟨(cif_pos (hc1.1)).trans ((cif_pos (⟨hc2.1, fun h => nc_26 ((hc2.2.symm.trans h).trans hc1.2.2)⟩)).trans ((cif_pos (h_43)).trans ((cif_pos (h_51)).trans ((cif_pos (h_63)).trans ((cif_pos (h_71)).trans (cif_neg (h_87))))))), rfl⟩, (by first | assumption | omega), hs0, hs1, hs2, hsS, hsM, hsp, hsr, hsw, hsR, hsG⟩, by rw [ht]; exact hP.sub [1, 0, 2] rfl, hD.sub [1, 0, 2] (by decide) rfl⟩, hS.F ht⟩) hS.2.2 dX9_wayItem_187 hlk
                · skip
                  refine lv_istore (lv' := [(5, .int 0), (4, .int (mV bb mz (nx bb mz (nx bb mz (mSt bb mz (nx bb mz (nx bb mz (nx bb mz u9)))))))), (3, .int (mV bb mz (nx bb mz (nx bb mz (nx bb mz u9))))), (2, .int (nI (num bb (nf bb mz (nx bb mz (nx bb mz u9))) (nx bb mz (nx bb mz (nx bb mz u9)))))), (1, .int (nI (num bb (nf bb mz (nx bb mz u9)) (nx bb mz (nx bb mz u9))))), (0, .ref h0)]) hx hb dX9_wayItem_120 hl (by decide) rfl (fun ls hl => ?_)
                  refine lv_iload hx hb dX9_wayItem_122 (lv_at hl 0 rfl) ?_
                  refine lv_if_eq (tgt := 141) hx hb dX9_wayItem_124 (by decide) (fun c_136 => ?_) (fun c_136 => absurd (by decide) c_136)
                  refine lv_aload_n hx hb dX9_wayItem_141 rfl (lv_at hl 5 rfl) ?_
                  refine xg hF kf_X9_266 hK hP 1 rfl rfl dX9_wayItem_142 ?_
                  refine lv_if_ne (tgt := 187) hx hb dX9_wayItem_145 (by decide) (fun c_137 => absurd (by decide) c_137) (fun c_137 => ?_)
                  have hone : num bb (nf bb mz (nx bb mz u9)) (nx bb mz (nx bb mz u9)) < P := (okR_N (by omega) h_10).2.1
                  have htwo : num bb (nf bb mz (nx bb mz (nx bb mz u9))) (nx bb mz (nx bb mz (nx bb mz u9))) < P := by have h9 := num_k h_18 (by omega) h_22; omega
                  refine lv_aload_n hx hb dX9_wayItem_148 rfl (lv_at hl 5 rfl) ?_
                  refine lv_iload_n hx hb dX9_wayItem_149 rfl (lv_at hl 4 rfl) ?_
                  refine lv_iload_n hx hb dX9_wayItem_150 rfl (lv_at hl 3 rfl) ?_
                  refine lv_iload_n hx hb dX9_wayItem_151 rfl (lv_at hl 2 rfl) ?_
                  refine lv_iload hx hb dX9_wayItem_152 (lv_at hl 1 rfl) ?_
                  refine xc_Vi (wr := [(yta, .inl (cI, 120, .inl tp))]) hF (c_X9_makes l D cI cJ cZ cS ta sa sv H.size h0 ys yk yo yt mk0 yfa yfe mL mS mM yro yhe ygr mF mC mY yta mz (nf bb mz (nx bb mz (mSt bb mz (nx bb mz (nx bb mz (mSt bb mz (nx bb mz (nx bb mz (nx bb mz u9))))))))) (nx bb mz (nx bb mz (mSt bb mz (nx bb mz (nx bb mz (mSt bb mz (nx bb mz (nx bb mz (nx bb mz u9))))))))) (mV bb mz (nx bb mz (nx bb mz (mSt bb mz (nx bb mz (nx bb mz (nx bb mz u9))))))) 0 ywa ybi ysi ynu ymo ms P Rn Wn fae fal fau fao farn farp fak fawn fawp fat fas (num bb (nf bb mz (nx bb mz u9)) (nx bb mz (nx bb mz u9))) (num bb (nf bb mz (nx bb mz (nx bb mz u9))) (nx bb mz (nx bb mz (nx bb mz u9)))) (mV bb mz (nx bb mz (nx bb mz (nx bb mz u9)))) (mV bb mz (nx bb mz (nx bb mz (mSt bb mz (nx bb mz (nx bb mz (nx bb mz u9))))))) (by omega) (by omega) (mV_in99 h_43) hs0 hs1 hs2 hsS hsM hsp hsr hsw hsR hsG) kv_X9_87 ⟨rfl, rfl, Nat.le_of_ble_eq_true rfl, Nat.le_of_ble_eq_true rfl⟩ ⟨Nat.le_of_ble_eq_true rfl, Nat.le_of_ble_eq_true rfl⟩ hK hN hZ hP hD hS hA [1, 0] [2] rfl rfl rfl rfl (by decide) 0 rfl rfl rfl rfl hl.1 rfl (Nat.le_of_ble_eq_true rfl) dX9_wayItem_154 (fun r_138 u_r_138 H locs hw_r_138 hP hD hS => ?_)
                  obtain ⟨ms2_139, rfl⟩ : ∃ z, z = u_r_138 := ⟨_, rfl⟩
                  try dsimp only at hw_r_138
                  obtain ⟨hw_r_138, i_140, i_141, i_142, i_143, i_144, i_145, i_146, i_147, i_148, i_149⟩ := hw_r_138
                  have hP : va_P D vwCl [(yta, .inl (cI, 120, .inl tp)), (h0, .inr (9, [.ref ys, .ref yk, .ref yo, .ref yt, .int mk0, .ref yfa, .ref yfe, .int mL, .int mS, .int mM, .ref yro, .ref yhe, .ref ygr, .int mF, .int mC, .int mY, .ref yta, .int (nI (mz)), .int (nI ((nf bb mz (nx bb mz (mSt bb mz (nx bb mz (nx bb mz (mSt bb mz (nx bb mz (nx bb mz (nx bb mz u9))))))))))), .int (nI ((nx bb mz (nx bb mz (mSt bb mz (nx bb mz (nx bb mz (mSt bb mz (nx bb mz (nx bb mz (nx bb mz u9))))))))))), .int (mV bb mz (nx bb mz (nx bb mz (mSt bb mz (nx bb mz (nx bb mz (nx bb mz u9))))))), .int 0, .ref ywa, .ref ybi, .ref ysi, .ref ynu, .ref ymo])), (ys, .inl (cI, 449, .inl ms2_139))] H := hP
                  have hD : va_D A [(yta, .inl (cI, 120, .inl tp)), (h0, .inr (9, [.ref ys, .ref yk, .ref yo, .ref yt, .int mk0, .ref yfa, .ref yfe, .int mL, .int mS, .int mM, .ref yro, .ref yhe, .ref ygr, .int mF, .int mC, .int mY, .ref yta, .int (nI (mz)), .int (nI ((nf bb mz (nx bb mz (mSt bb mz (nx bb mz (nx bb mz (mSt bb mz (nx bb mz (nx bb mz (nx bb mz u9))))))))))), .int (nI ((nx bb mz (nx bb mz (mSt bb mz (nx bb mz (nx bb mz (mSt bb mz (nx bb mz (nx bb mz (nx bb mz u9))))))))))), .int (mV bb mz (nx bb mz (nx bb mz (mSt bb mz (nx bb mz (nx bb mz (nx bb mz u9))))))), .int 0, .ref ywa, .ref ybi, .ref ysi, .ref ynu, .ref ymo])), (ys, .inl (cI, 449, .inl ms2_139))] := hD
                  rcases hw_r_138 with ⟨rfl, h_150⟩ | ⟨rfl, h_151⟩
                  · skip
                    refine lv_istore (lv' := [(6, .int 1), (5, .int 0), (4, .int (mV bb mz (nx bb mz (nx bb mz (mSt bb mz (nx bb mz (nx bb mz (nx bb mz u9)))))))), (3, .int (mV bb mz (nx bb mz (nx bb mz (nx bb mz u9))))), (2, .int (nI (num bb (nf bb mz (nx bb mz (nx bb mz u9))) (nx bb mz (nx bb mz (nx bb mz u9)))))), (1, .int (nI (num bb (nf bb mz (nx bb mz u9)) (nx bb mz (nx bb mz u9))))), (0, .ref h0)]) hx hb dX9_wayItem_157 hl (by decide) rfl (fun ls hl => ?_)
                    refine lv_iload hx hb dX9_wayItem_159 (lv_at hl 0 rfl) ?_
                    refine lv_iload hx hb dX9_wayItem_161 (lv_at hl 1 rfl) ?_
                    refine lv_if_eq (tgt := 183) hx hb dX9_wayItem_163 (by decide) (fun c_152 => ?_) (fun c_152 => absurd (by decide) c_152)
                    refine lv_iconst (v := 0) hx hb dX9_wayItem_183 (by decide) ?_
                    refine lv_iadd hx hb dX9_wayItem_184 ?_
                    refine xl_i (y := 1) (by decide) ?_
                    refine lv_istore (lv' := [(6, .int 1), (5, .int 0), (4, .int (mV bb mz (nx bb mz (nx bb mz (mSt bb mz (nx bb mz (nx bb mz (nx bb mz u9)))))))), (3, .int (mV bb mz (nx bb mz (nx bb mz (nx bb mz u9))))), (2, .int (nI (num bb (nf bb mz (nx bb mz (nx bb mz u9))) (nx bb mz (nx bb mz (nx bb mz u9)))))), (1, .int (nI (num bb (nf bb mz (nx bb mz u9)) (nx bb mz (nx bb mz u9))))), (0, .ref h0)]) hx hb dX9_wayItem_185 hl (by decide) rfl (fun ls hl => ?_)
                    have hc1 := okR_N (by omega) h_10
                    have hc2 := okN_of (P := P) (by omega) h_18 (show num bb (nf bb mz (nx bb mz (nx bb mz u9))) (nx bb mz (nx bb mz (nx bb mz u9))) < P by have h9 := num_k h_18 (by omega) h_22; omega)
                    exact W.vret hx hb hr (fun t ht hW => ⟨⟨(nx bb mz (mSt bb mz (nx bb mz (nx bb mz (mSt bb mz (nx bb mz (nx bb mz (nx bb mz u9))))))), 0, (mV bb mz (nx bb mz (nx bb mz (mSt bb mz (nx bb mz (nx bb mz (nx bb mz u9))))))), ms2_139, upd fal (10 * (num bb (nf bb mz (nx bb mz u9)) (nx bb mz (nx bb mz u9))) + (num bb (nf bb mz (nx bb mz (nx bb mz u9))) (nx bb mz (nx bb mz (nx bb mz u9))))) (mV bb mz (nx bb mz (nx bb mz (nx bb mz u9)))), upd fau (10 * (num bb (nf bb mz (nx bb mz u9)) (nx bb mz (nx bb mz u9))) + (num bb (nf bb mz (nx bb mz (nx bb mz u9))) (nx bb mz (nx bb mz (nx bb mz u9))))) (mV bb mz (nx bb mz (nx bb mz (mSt bb mz (nx bb mz (nx bb mz (nx bb mz u9))))))), upd fao (10 * (num bb (nf bb mz (nx bb mz u9)) (nx bb mz (nx bb mz u9))) + (num bb (nf bb mz (nx bb mz (nx bb mz u9))) (nx bb mz (nx bb mz (nx bb mz u9))))) 1), rfl, ⟨Or.inl ⟨(cif_pos (hc1.1)).trans ((cif_pos (⟨hc2.1, fun h => nc_26 ((hc2.2.symm.trans h).trans hc1.2.2)⟩)).trans ((cif_pos (h_43)).trans ((cif_pos (h_51)).trans ((cif_pos (h_63)).trans (cif_neg (h_72)))))), rfl, by omega, wy2_N (wyV2_p (b := bb) (z := mz) (u := u9) h_51) h_72 (congr (congrArg (fun a b => 10 * a + b) hc1.2.2.symm) hc2.2.symm) rfl, wy2_N (wyV2_p (b := bb) (z := mz) (u := u9) h_51) h_72 (congr (congrArg (fun a b => 10 * a + b) hc1.2.2.symm) hc2.2.symm) (wyHi_p (b := bb) (z := mz) (u := u9) h_51), wy2_N (wyV2_p (b := bb) (z := mz) (u := u9) h_51) h_72 (congr (congrArg (fun a b => 10 * a + b) hc1.2.2.symm) hc2.2.symm) rfl⟩, (by first | assumption | omega), i_140, i_141, i_142, i_143, i_144, i_145, i_146, i_147, i_148, i_149⟩, by rw [ht]; exact hP.sub [1, 2, 0] rfl, hD.sub [1, 2, 0] (by decide) rfl⟩, hS.F ht⟩) hS.2.2 dX9_wayItem_187 hlk
                  · skip
                    refine lv_istore (lv' := [(6, .int 0), (5, .int 0), (4, .int (mV bb mz (nx bb mz (nx bb mz (mSt bb mz (nx bb mz (nx bb mz (nx bb mz u9)))))))), (3, .int (mV bb mz (nx bb mz (nx bb mz (nx bb mz u9))))), (2, .int (nI (num bb (nf bb mz (nx bb mz (nx bb mz u9))) (nx bb mz (nx bb mz (nx bb mz u9)))))), (1, .int (nI (num bb (nf bb mz (nx bb mz u9)) (nx bb mz (nx bb mz u9))))), (0, .ref h0)]) hx hb dX9_wayItem_157 hl (by decide) rfl (fun ls hl => ?_)
                    refine lv_iload hx hb dX9_wayItem_159 (lv_at hl 0 rfl) ?_
                    refine lv_iload hx hb dX9_wayItem_161 (lv_at hl 1 rfl) ?_
                    refine lv_if_eq (tgt := 183) hx hb dX9_wayItem_163 (by decide) (fun c_153 => ?_) (fun c_153 => absurd (by decide) c_153)
                    refine lv_iconst (v := 0) hx hb dX9_wayItem_183 (by decide) ?_
                    refine lv_iadd hx hb dX9_wayItem_184 ?_
                    refine xl_i (y := 0) (by decide) ?_
                    refine lv_istore (lv' := [(6, .int 0), (5, .int 0), (4, .int (mV bb mz (nx bb mz (nx bb mz (mSt bb mz (nx bb mz (nx bb mz (nx bb mz u9)))))))), (3, .int (mV bb mz (nx bb mz (nx bb mz (nx bb mz u9))))), (2, .int (nI (num bb (nf bb mz (nx bb mz (nx bb mz u9))) (nx bb mz (nx bb mz (nx bb mz u9)))))), (1, .int (nI (num bb (nf bb mz (nx bb mz u9)) (nx bb mz (nx bb mz u9))))), (0, .ref h0)]) hx hb dX9_wayItem_185 hl (by decide) rfl (fun ls hl => ?_)
                    have hc1 := okR_N (by omega) h_10
                    have hc2 := okN_of (P := P) (by omega) h_18 (show num bb (nf bb mz (nx bb mz (nx bb mz u9))) (nx bb mz (nx bb mz (nx bb mz u9))) < P by have h9 := num_k h_18 (by omega) h_22; omega)
                    exact W.vret hx hb hr (fun t ht hW => ⟨⟨(nx bb mz (mSt bb mz (nx bb mz (nx bb mz (mSt bb mz (nx bb mz (nx bb mz (nx bb mz u9))))))), 0, (mV bb mz (nx bb mz (nx bb mz (mSt bb mz (nx bb mz (nx bb mz (nx bb mz u9))))))), ms2_139, upd fal (10 * (num bb (nf bb mz (nx bb mz u9)) (nx bb mz (nx bb mz u9))) + (num bb (nf bb mz (nx bb mz (nx bb mz u9))) (nx bb mz (nx bb mz (nx bb mz u9))))) (mV bb mz (nx bb mz (nx bb mz (nx bb mz u9)))), upd fau (10 * (num bb (nf bb mz (nx bb mz u9)) (nx bb mz (nx bb mz u9))) + (num bb (nf bb mz (nx bb mz (nx bb mz u9))) (nx bb mz (nx bb mz (nx bb mz u9))))) (mV bb mz (nx bb mz (nx bb mz (mSt bb mz (nx bb mz (nx bb mz (nx bb mz u9))))))), upd fao (10 * (num bb (nf bb mz (nx bb mz u9)) (nx bb mz (nx bb mz u9))) + (num bb (nf bb mz (nx bb mz (nx bb mz u9))) (nx bb mz (nx bb mz (nx bb mz u9))))) 1), rfl, ⟨Or.inl ⟨(cif_pos (hc1.1)).trans ((cif_pos (⟨hc2.1, fun h => nc_26 ((hc2.2.symm.trans h).trans hc1.2.2)⟩)).trans ((cif_pos (h_43)).trans ((cif_pos (h_51)).trans ((cif_pos (h_63)).trans (cif_neg (h_72)))))), rfl, by omega, wy2_N (wyV2_p (b := bb) (z := mz) (u := u9) h_51) h_72 (congr (congrArg (fun a b => 10 * a + b) hc1.2.2.symm) hc2.2.symm) rfl, wy2_N (wyV2_p (b := bb) (z := mz) (u := u9) h_51) h_72 (congr (congrArg (fun a b => 10 * a + b) hc1.2.2.symm) hc2.2.symm) (wyHi_p (b := bb) (z := mz) (u := u9) h_51), wy2_N (wyV2_p (b := bb) (z := mz) (u := u9) h_51) h_72 (congr (congrArg (fun a b => 10 * a + b) hc1.2.2.symm) hc2.2.symm) rfl⟩, (by first | assumption | omega), i_140, i_141, i_142, i_143, i_144, i_145, i_146, i_147, i_148, i_149⟩, by rw [ht]; exact hP.sub [1, 2, 0] rfl, hD.sub [1, 2, 0] (by decide) rfl⟩, hS.F ht⟩) hS.2.2 dX9_wayItem_187 hlk
              · skip
                subst h_68
                subst h_69
                refine lv_aload_n hx hb dX9_wayItem_99 rfl (lv_at hl 4 rfl) ?_
                refine xg hF kf_X9_275 hK hP 1 rfl rfl dX9_wayItem_100 ?_
                refine lv_istore (lv' := [(4, .int v2_60), (3, .int (mV bb mz (nx bb mz (nx bb mz (nx bb mz u9))))), (2, .int (nI (num bb (nf bb mz (nx bb mz (nx bb mz u9))) (nx bb mz (nx bb mz (nx bb mz u9)))))), (1, .int (nI (num bb (nf bb mz (nx bb mz u9)) (nx bb mz (nx bb mz u9))))), (0, .ref h0)]) hx hb dX9_wayItem_103 hl (by decide) rfl (fun ls hl => ?_)
                refine lv_aload_n hx hb dX9_wayItem_105 rfl (lv_at hl 4 rfl) ?_
                refine lv_bipush (v := 98) hx hb dX9_wayItem_106 (by decide) ?_
                refine lv_bipush (v := 97) hx hb dX9_wayItem_108 (by decide) ?_
                refine lv_bipush (v := 99) hx hb dX9_wayItem_110 (by decide) ?_
                refine lv_bipush (v := 107) hx hb dX9_wayItem_112 (by decide) ?_
                refine lv_iconst (v := 0) hx hb dX9_wayItem_114 (by decide) ?_
                refine lv_iconst (v := 0) hx hb dX9_wayItem_115 (by decide) ?_
                refine lv_iconst (v := 0) hx hb dX9_wayItem_116 (by decide) ?_
                refine xc_Vr hF (c_X9_isWordW l D cI cJ cZ cS ta sa sv H.size h0 ys yk yo yt mk0 yfa yfe mL mS mM yro yhe ygr mF mC mY yta mz v2_60 ywa ybi ysi ynu ymo tp 98 97 99 107 0 0 0 (mSt bb mz (nx bb mz (nx bb mz (mSt bb mz (nx bb mz (nx bb mz (nx bb mz u9))))))) bb (by omega) hbb (by omega)) kv_X9_290 ⟨rfl, rfl, Nat.le_of_ble_eq_true rfl, Nat.le_of_ble_eq_true rfl⟩ ⟨Nat.le_of_ble_eq_true rfl, Nat.le_of_ble_eq_true rfl⟩ hK hN hZ hP hD hS hA [1, 2] rfl rfl 0 rfl rfl rfl rfl hl.1 rfl (Nat.le_of_ble_eq_true rfl) dX9_wayItem_117 (fun r_154 hw_r_154 => ?_)
                subst hw_r_154
                refine lv_istore (lv' := [(5, .int 0), (4, .int v2_60), (3, .int (mV bb mz (nx bb mz (nx bb mz (nx bb mz u9))))), (2, .int (nI (num bb (nf bb mz (nx bb mz (nx bb mz u9))) (nx bb mz (nx bb mz (nx bb mz u9)))))), (1, .int (nI (num bb (nf bb mz (nx bb mz u9)) (nx bb mz (nx bb mz u9))))), (0, .ref h0)]) hx hb dX9_wayItem_120 hl (by decide) rfl (fun ls hl => ?_)
                refine lv_iload hx hb dX9_wayItem_122 (lv_at hl 0 rfl) ?_
                refine lv_if_eq (tgt := 141) hx hb dX9_wayItem_124 (by decide) (fun c_155 => ?_) (fun c_155 => absurd (by decide) c_155)
                refine lv_aload_n hx hb dX9_wayItem_141 rfl (lv_at hl 5 rfl) ?_
                refine xg hF kf_X9_266 hK hP 1 rfl rfl dX9_wayItem_142 ?_
                refine lv_if_ne (tgt := 187) hx hb dX9_wayItem_145 (by decide) (fun c_156 => ?_) (fun c_156 => absurd c_156 (by decide))
                have hc1 := okR_N (by omega) h_10
                have hc2 := okN_of (P := P) (by omega) h_18 (show num bb (nf bb mz (nx bb mz (nx bb mz u9))) (nx bb mz (nx bb mz (nx bb mz u9))) < P by have h9 := num_k h_18 (by omega) h_22; omega)
                exact W.vret hx hb hr (fun t ht hW => ⟨⟨(mSt bb mz (nx bb mz (nx bb mz (mSt bb mz (nx bb mz (nx bb mz (nx bb mz u9)))))), 1, v2_60, ms, fal, fau, fao), rfl, ⟨Or.inr ⟨(cif_pos (hc1.1)).trans ((cif_pos (⟨hc2.1, fun h => nc_26 ((hc2.2.symm.trans h).trans hc1.2.2)⟩)).trans ((cif_pos (h_43)).trans ((cif_pos (h_51)).trans (cif_neg (h_67))))), rfl⟩, (by first | assumption | omega), hs0, hs1, hs2, hsS, hsM, hsp, hsr, hsw, hsR, hsG⟩, by rw [ht]; exact hP.sub [1, 0, 2] rfl, hD.sub [1, 0, 2] (by decide) rfl⟩, hS.F ht⟩) hS.2.2 dX9_wayItem_187 hlk
            · skip
              refine lv_if_eq (tgt := 105) hx hb dX9_wayItem_83 (by decide) (fun c_157 => ?_) (fun c_157 => absurd (by decide) c_157)
              refine lv_aload_n hx hb dX9_wayItem_105 rfl (lv_at hl 4 rfl) ?_
              refine lv_bipush (v := 98) hx hb dX9_wayItem_106 (by decide) ?_
              refine lv_bipush (v := 97) hx hb dX9_wayItem_108 (by decide) ?_
              refine lv_bipush (v := 99) hx hb dX9_wayItem_110 (by decide) ?_
              refine lv_bipush (v := 107) hx hb dX9_wayItem_112 (by decide) ?_
              refine lv_iconst (v := 0) hx hb dX9_wayItem_114 (by decide) ?_
              refine lv_iconst (v := 0) hx hb dX9_wayItem_115 (by decide) ?_
              refine lv_iconst (v := 0) hx hb dX9_wayItem_116 (by decide) ?_
              refine xc_Vr hF (c_X9_isWord_5 l D cI cJ cZ cS ta sa sv H.size h0 ys yk yo yt mk0 yfa yfe mL mS mM yro yhe ygr mF mC mY yta mz (mV bb mz (nx bb mz (nx bb mz (nx bb mz u9)))) ywa ybi ysi ynu ymo tp (nx bb mz (mSt bb mz (nx bb mz (nx bb mz (nx bb mz u9))))) bb (by omega) hbb (by omega)) kv_X9_290 ⟨rfl, rfl, Nat.le_of_ble_eq_true rfl, Nat.le_of_ble_eq_true rfl⟩ ⟨Nat.le_of_ble_eq_true rfl, Nat.le_of_ble_eq_true rfl⟩ hK hN hZ hP hD hS hA [1, 2] rfl rfl 0 rfl rfl rfl rfl hl.1 rfl (Nat.le_of_ble_eq_true rfl) dX9_wayItem_117 (fun r_158 hw_r_158 => ?_)
              rcases hw_r_158 with ⟨rfl, h_159⟩ | ⟨rfl, h_160⟩
              · skip
                refine lv_istore (lv' := [(5, .int 1), (4, .int (mV bb mz (nx bb mz (nx bb mz (nx bb mz u9))))), (3, .int (mV bb mz (nx bb mz (nx bb mz (nx bb mz u9))))), (2, .int (nI (num bb (nf bb mz (nx bb mz (nx bb mz u9))) (nx bb mz (nx bb mz (nx bb mz u9)))))), (1, .int (nI (num bb (nf bb mz (nx bb mz u9)) (nx bb mz (nx bb mz u9))))), (0, .ref h0)]) hx hb dX9_wayItem_120 hl (by decide) rfl (fun ls hl => ?_)
                refine lv_iload hx hb dX9_wayItem_122 (lv_at hl 0 rfl) ?_
                refine lv_if_eq (tgt := 141) hx hb dX9_wayItem_124 (by decide) (fun c_161 => absurd c_161 (by decide)) (fun c_161 => ?_)
                refine lv_aload_n hx hb dX9_wayItem_127 rfl (lv_at hl 5 rfl) ?_
                refine lv_iconst (v := 1) hx hb dX9_wayItem_128 (by decide) ?_
                refine xc_Vv (wr := [(ys, .inl (cI, 449, .inl ms))]) hF (c_X9_needs1 l D cI cJ cZ cS ta sa sv H.size h0 ys yk yo yt mk0 yfa yfe mL mS mM yro yhe ygr mF mC mY yta mz (mV bb mz (nx bb mz (nx bb mz (nx bb mz u9)))) ywa ybi ysi ynu ymo tp (nx bb mz (mSt bb mz (nx bb mz (nx bb mz (nx bb mz u9))))) bb (by omega) hbb (by omega)) kv_X9_278 ⟨rfl, rfl, Nat.le_of_ble_eq_true rfl, Nat.le_of_ble_eq_true rfl⟩ ⟨Nat.le_of_ble_eq_true rfl, Nat.le_of_ble_eq_true rfl⟩ hK hN hZ hP hD hS hA [1, 2] [0] rfl rfl rfl rfl (by decide) 0 rfl rfl rfl rfl hl.1 rfl (Nat.le_of_ble_eq_true rfl) dX9_wayItem_129 (fun u_r_162 H locs hw_r_162 hP hD hS => ?_)
                obtain ⟨i_163, i_164⟩ := hw_r_162
                have hP : va_P D vwCl [(ys, .inl (cI, 449, .inl ms)), (h0, .inr (9, [.ref ys, .ref yk, .ref yo, .ref yt, .int mk0, .ref yfa, .ref yfe, .int mL, .int mS, .int mM, .ref yro, .ref yhe, .ref ygr, .int mF, .int mC, .int mY, .ref yta, .int (nI (mz)), .int (nI (nf bb mz (nx bb mz (nx bb mz (mSt bb mz (nx bb mz (nx bb mz (nx bb mz u9)))))))), .int (nI (nx bb mz (nx bb mz (nx bb mz (mSt bb mz (nx bb mz (nx bb mz (nx bb mz u9)))))))), .int (mV bb mz (nx bb mz (nx bb mz (nx bb mz u9)))), .int 0, .ref ywa, .ref ybi, .ref ysi, .ref ynu, .ref ymo])), (yta, .inl (cI, 120, .inl tp))] H := hP
                have hD : va_D A [(ys, .inl (cI, 449, .inl ms)), (h0, .inr (9, [.ref ys, .ref yk, .ref yo, .ref yt, .int mk0, .ref yfa, .ref yfe, .int mL, .int mS, .int mM, .ref yro, .ref yhe, .ref ygr, .int mF, .int mC, .int mY, .ref yta, .int (nI (mz)), .int (nI (nf bb mz (nx bb mz (nx bb mz (mSt bb mz (nx bb mz (nx bb mz (nx bb mz u9)))))))), .int (nI (nx bb mz (nx bb mz (nx bb mz (mSt bb mz (nx bb mz (nx bb mz (nx bb mz u9)))))))), .int (mV bb mz (nx bb mz (nx bb mz (nx bb mz u9)))), .int 0, .ref ywa, .ref ybi, .ref ysi, .ref ynu, .ref ymo])), (yta, .inl (cI, 120, .inl tp))] := hD
                refine lv_aload_n hx hb dX9_wayItem_132 rfl (lv_at hl 5 rfl) ?_
                refine lv_bipush (v := (-99)) hx hb dX9_wayItem_133 (by decide) ?_
                refine lv_sipush (v := 999) hx hb dX9_wayItem_135 (by decide) ?_
                refine xc_Vv (wr := [(ys, .inl (cI, 449, .inl ms))]) hF (c_X9_mile0 l D cI cJ cZ cS ta sa sv H.size h0 ys yk yo yt mk0 yfa yfe mL mS mM yro yhe ygr mF mC mY yta mz (mV bb mz (nx bb mz (nx bb mz (nx bb mz u9)))) ywa ybi ysi ynu ymo tp (-99) 999 (nx bb mz (nx bb mz (mSt bb mz (nx bb mz (nx bb mz (nx bb mz u9)))))) bb (by omega) hbb (by omega) (by decide) (by decide) (by decide) (by decide)) kv_X9_287 ⟨rfl, rfl, Nat.le_of_ble_eq_true rfl, Nat.le_of_ble_eq_true rfl⟩ ⟨Nat.le_of_ble_eq_true rfl, Nat.le_of_ble_eq_true rfl⟩ hK hN hZ hP hD hS hA [1, 2] [0] rfl rfl rfl rfl (by decide) 0 rfl rfl rfl rfl hl.1 rfl (Nat.le_of_ble_eq_true rfl) dX9_wayItem_138 (fun u_r_165 H locs hw_r_165 hP hD hS => ?_)
                obtain ⟨u2_166, w2_167, v2_168⟩ := u_r_165
                try dsimp only at hw_r_165
                obtain ⟨hw_r_165, i_169, i_170⟩ := hw_r_165
                have hP : va_P D vwCl [(ys, .inl (cI, 449, .inl ms)), (h0, .inr (9, [.ref ys, .ref yk, .ref yo, .ref yt, .int mk0, .ref yfa, .ref yfe, .int mL, .int mS, .int mM, .ref yro, .ref yhe, .ref ygr, .int mF, .int mC, .int mY, .ref yta, .int (nI (mz)), .int (nI (nf bb mz u2_166)), .int (nI (nx bb mz u2_166)), .int v2_168, .int w2_167, .ref ywa, .ref ybi, .ref ysi, .ref ynu, .ref ymo])), (yta, .inl (cI, 120, .inl tp))] H := hP
                have hD : va_D A [(ys, .inl (cI, 449, .inl ms)), (h0, .inr (9, [.ref ys, .ref yk, .ref yo, .ref yt, .int mk0, .ref yfa, .ref yfe, .int mL, .int mS, .int mM, .ref yro, .ref yhe, .ref ygr, .int mF, .int mC, .int mY, .ref yta, .int (nI (mz)), .int (nI (nf bb mz u2_166)), .int (nI (nx bb mz u2_166)), .int v2_168, .int w2_167, .ref ywa, .ref ybi, .ref ysi, .ref ynu, .ref ymo])), (yta, .inl (cI, 120, .inl tp))] := hD
                rcases hw_r_165 with ⟨h_171, h_172, h_173, h_174⟩ | ⟨h_175, h_176, h_177⟩
                · skip
                  subst h_172
                  subst h_173
                  subst h_174
                  refine lv_aload_n hx hb dX9_wayItem_141 rfl (lv_at hl 5 rfl) ?_
                  refine xg hF kf_X9_266 hK hP 1 rfl rfl dX9_wayItem_142 ?_
                  refine lv_if_ne (tgt := 187) hx hb dX9_wayItem_145 (by decide) (fun c_178 => absurd (by decide) c_178) (fun c_178 => ?_)
                  have hone : num bb (nf bb mz (nx bb mz u9)) (nx bb mz (nx bb mz u9)) < P := (okR_N (by omega) h_10).2.1
                  have htwo : num bb (nf bb mz (nx bb mz (nx bb mz u9))) (nx bb mz (nx bb mz (nx bb mz u9))) < P := by have h9 := num_k h_18 (by omega) h_22; omega
                  refine lv_aload_n hx hb dX9_wayItem_148 rfl (lv_at hl 5 rfl) ?_
                  refine lv_iload_n hx hb dX9_wayItem_149 rfl (lv_at hl 4 rfl) ?_
                  refine lv_iload_n hx hb dX9_wayItem_150 rfl (lv_at hl 3 rfl) ?_
                  refine lv_iload_n hx hb dX9_wayItem_151 rfl (lv_at hl 2 rfl) ?_
                  refine lv_iload hx hb dX9_wayItem_152 (lv_at hl 1 rfl) ?_
                  refine xc_Vi (wr := [(yta, .inl (cI, 120, .inl tp))]) hF (c_X9_makes l D cI cJ cZ cS ta sa sv H.size h0 ys yk yo yt mk0 yfa yfe mL mS mM yro yhe ygr mF mC mY yta mz (nf bb mz (nx bb mz (mSt bb mz (nx bb mz (nx bb mz (mSt bb mz (nx bb mz (nx bb mz (nx bb mz u9))))))))) (nx bb mz (nx bb mz (mSt bb mz (nx bb mz (nx bb mz (mSt bb mz (nx bb mz (nx bb mz (nx bb mz u9))))))))) (mV bb mz (nx bb mz (nx bb mz (mSt bb mz (nx bb mz (nx bb mz (nx bb mz u9))))))) 0 ywa ybi ysi ynu ymo ms P Rn Wn fae fal fau fao farn farp fak fawn fawp fat fas (num bb (nf bb mz (nx bb mz u9)) (nx bb mz (nx bb mz u9))) (num bb (nf bb mz (nx bb mz (nx bb mz u9))) (nx bb mz (nx bb mz (nx bb mz u9)))) (mV bb mz (nx bb mz (nx bb mz (nx bb mz u9)))) (mV bb mz (nx bb mz (nx bb mz (nx bb mz u9)))) (by omega) (by omega) (mV_in99 h_43) hs0 hs1 hs2 hsS hsM hsp hsr hsw hsR hsG) kv_X9_87 ⟨rfl, rfl, Nat.le_of_ble_eq_true rfl, Nat.le_of_ble_eq_true rfl⟩ ⟨Nat.le_of_ble_eq_true rfl, Nat.le_of_ble_eq_true rfl⟩ hK hN hZ hP hD hS hA [1, 0] [2] rfl rfl rfl rfl (by decide) 0 rfl rfl rfl rfl hl.1 rfl (Nat.le_of_ble_eq_true rfl) dX9_wayItem_154 (fun r_179 u_r_179 H locs hw_r_179 hP hD hS => ?_)
                  obtain ⟨ms2_180, rfl⟩ : ∃ z, z = u_r_179 := ⟨_, rfl⟩
                  try dsimp only at hw_r_179
                  obtain ⟨hw_r_179, i_181, i_182, i_183, i_184, i_185, i_186, i_187, i_188, i_189, i_190⟩ := hw_r_179
                  have hP : va_P D vwCl [(yta, .inl (cI, 120, .inl tp)), (h0, .inr (9, [.ref ys, .ref yk, .ref yo, .ref yt, .int mk0, .ref yfa, .ref yfe, .int mL, .int mS, .int mM, .ref yro, .ref yhe, .ref ygr, .int mF, .int mC, .int mY, .ref yta, .int (nI (mz)), .int (nI ((nf bb mz (nx bb mz (mSt bb mz (nx bb mz (nx bb mz (mSt bb mz (nx bb mz (nx bb mz (nx bb mz u9))))))))))), .int (nI ((nx bb mz (nx bb mz (mSt bb mz (nx bb mz (nx bb mz (mSt bb mz (nx bb mz (nx bb mz (nx bb mz u9))))))))))), .int (mV bb mz (nx bb mz (nx bb mz (mSt bb mz (nx bb mz (nx bb mz (nx bb mz u9))))))), .int 0, .ref ywa, .ref ybi, .ref ysi, .ref ynu, .ref ymo])), (ys, .inl (cI, 449, .inl ms2_180))] H := hP
                  have hD : va_D A [(yta, .inl (cI, 120, .inl tp)), (h0, .inr (9, [.ref ys, .ref yk, .ref yo, .ref yt, .int mk0, .ref yfa, .ref yfe, .int mL, .int mS, .int mM, .ref yro, .ref yhe, .ref ygr, .int mF, .int mC, .int mY, .ref yta, .int (nI (mz)), .int (nI ((nf bb mz (nx bb mz (mSt bb mz (nx bb mz (nx bb mz (mSt bb mz (nx bb mz (nx bb mz (nx bb mz u9))))))))))), .int (nI ((nx bb mz (nx bb mz (mSt bb mz (nx bb mz (nx bb mz (mSt bb mz (nx bb mz (nx bb mz (nx bb mz u9))))))))))), .int (mV bb mz (nx bb mz (nx bb mz (mSt bb mz (nx bb mz (nx bb mz (nx bb mz u9))))))), .int 0, .ref ywa, .ref ybi, .ref ysi, .ref ynu, .ref ymo])), (ys, .inl (cI, 449, .inl ms2_180))] := hD
                  rcases hw_r_179 with ⟨rfl, h_191⟩ | ⟨rfl, h_192⟩
                  · skip
                    refine lv_istore (lv' := [(6, .int 1), (5, .int 1), (4, .int (mV bb mz (nx bb mz (nx bb mz (nx bb mz u9))))), (3, .int (mV bb mz (nx bb mz (nx bb mz (nx bb mz u9))))), (2, .int (nI (num bb (nf bb mz (nx bb mz (nx bb mz u9))) (nx bb mz (nx bb mz (nx bb mz u9)))))), (1, .int (nI (num bb (nf bb mz (nx bb mz u9)) (nx bb mz (nx bb mz u9))))), (0, .ref h0)]) hx hb dX9_wayItem_157 hl (by decide) rfl (fun ls hl => ?_)
                    refine lv_iload hx hb dX9_wayItem_159 (lv_at hl 0 rfl) ?_
                    refine lv_iload hx hb dX9_wayItem_161 (lv_at hl 1 rfl) ?_
                    refine lv_if_eq (tgt := 183) hx hb dX9_wayItem_163 (by decide) (fun c_193 => absurd c_193 (by decide)) (fun c_193 => ?_)
                    refine lv_aload_n hx hb dX9_wayItem_166 rfl (lv_at hl 6 rfl) ?_
                    refine lv_iload_n hx hb dX9_wayItem_167 rfl (lv_at hl 4 rfl) ?_
                    refine lv_iload_n hx hb dX9_wayItem_168 rfl (lv_at hl 5 rfl) ?_
                    refine lv_aload_n hx hb dX9_wayItem_169 rfl (lv_at hl 6 rfl) ?_
                    refine xg hF kf_X9_275 hK hP 1 rfl rfl dX9_wayItem_170 ?_
                    refine lv_aload_n hx hb dX9_wayItem_173 rfl (lv_at hl 6 rfl) ?_
                    refine xg hF kf_X9_275 hK hP 1 rfl rfl dX9_wayItem_174 ?_
                    refine xc_Vi (wr := [(yta, .inl (cI, 120, .inl tp))]) hF (c_X9_makes l D cI cJ cZ cS ta sa sv H.size h0 ys yk yo yt mk0 yfa yfe mL mS mM yro yhe ygr mF mC mY yta mz (nf bb mz (nx bb mz (mSt bb mz (nx bb mz (nx bb mz (mSt bb mz (nx bb mz (nx bb mz (nx bb mz u9))))))))) (nx bb mz (nx bb mz (mSt bb mz (nx bb mz (nx bb mz (mSt bb mz (nx bb mz (nx bb mz (nx bb mz u9))))))))) (mV bb mz (nx bb mz (nx bb mz (mSt bb mz (nx bb mz (nx bb mz (nx bb mz u9))))))) 0 ywa ybi ysi ynu ymo ms2_180 P Rn Wn fae (upd fal (10 * (num bb (nf bb mz (nx bb mz u9)) (nx bb mz (nx bb mz u9))) + (num bb (nf bb mz (nx bb mz (nx bb mz u9))) (nx bb mz (nx bb mz (nx bb mz u9))))) (mV bb mz (nx bb mz (nx bb mz (nx bb mz u9))))) (upd fau (10 * (num bb (nf bb mz (nx bb mz u9)) (nx bb mz (nx bb mz u9))) + (num bb (nf bb mz (nx bb mz (nx bb mz u9))) (nx bb mz (nx bb mz (nx bb mz u9))))) (mV bb mz (nx bb mz (nx bb mz (nx bb mz u9))))) (upd fao (10 * (num bb (nf bb mz (nx bb mz u9)) (nx bb mz (nx bb mz u9))) + (num bb (nf bb mz (nx bb mz (nx bb mz u9))) (nx bb mz (nx bb mz (nx bb mz u9))))) 1) farn farp fak fawn fawp fat fas (num bb (nf bb mz (nx bb mz (nx bb mz u9))) (nx bb mz (nx bb mz (nx bb mz u9)))) (num bb (nf bb mz (nx bb mz u9)) (nx bb mz (nx bb mz u9))) (mV bb mz (nx bb mz (nx bb mz (mSt bb mz (nx bb mz (nx bb mz (nx bb mz u9))))))) (mV bb mz (nx bb mz (nx bb mz (mSt bb mz (nx bb mz (nx bb mz (nx bb mz u9))))))) (by omega) (by omega) (mV_in99 h_171) i_181 i_182 i_183 i_184 i_185 i_186 i_187 i_188 i_189 i_190) kv_X9_87 ⟨rfl, rfl, Nat.le_of_ble_eq_true rfl, Nat.le_of_ble_eq_true rfl⟩ ⟨Nat.le_of_ble_eq_true rfl, Nat.le_of_ble_eq_true rfl⟩ hK hN hZ hP hD hS hA [1, 2] [0] rfl rfl rfl rfl (by decide) 0 rfl rfl rfl rfl hl.1 rfl (Nat.le_of_ble_eq_true rfl) dX9_wayItem_177 (fun r_194 u_r_194 H locs hw_r_194 hP hD hS => ?_)
                    obtain ⟨ms2_195, rfl⟩ : ∃ z, z = u_r_194 := ⟨_, rfl⟩
                    try dsimp only at hw_r_194
                    obtain ⟨hw_r_194, i_196, i_197, i_198, i_199, i_200, i_201, i_202, i_203, i_204, i_205⟩ := hw_r_194
                    have hP : va_P D vwCl [(yta, .inl (cI, 120, .inl tp)), (h0, .inr (9, [.ref ys, .ref yk, .ref yo, .ref yt, .int mk0, .ref yfa, .ref yfe, .int mL, .int mS, .int mM, .ref yro, .ref yhe, .ref ygr, .int mF, .int mC, .int mY, .ref yta, .int (nI (mz)), .int (nI ((nf bb mz (nx bb mz (mSt bb mz (nx bb mz (nx bb mz (mSt bb mz (nx bb mz (nx bb mz (nx bb mz u9))))))))))), .int (nI ((nx bb mz (nx bb mz (mSt bb mz (nx bb mz (nx bb mz (mSt bb mz (nx bb mz (nx bb mz (nx bb mz u9))))))))))), .int (mV bb mz (nx bb mz (nx bb mz (mSt bb mz (nx bb mz (nx bb mz (nx bb mz u9))))))), .int 0, .ref ywa, .ref ybi, .ref ysi, .ref ynu, .ref ymo])), (ys, .inl (cI, 449, .inl ms2_195))] H := hP
                    have hD : va_D A [(yta, .inl (cI, 120, .inl tp)), (h0, .inr (9, [.ref ys, .ref yk, .ref yo, .ref yt, .int mk0, .ref yfa, .ref yfe, .int mL, .int mS, .int mM, .ref yro, .ref yhe, .ref ygr, .int mF, .int mC, .int mY, .ref yta, .int (nI (mz)), .int (nI ((nf bb mz (nx bb mz (mSt bb mz (nx bb mz (nx bb mz (mSt bb mz (nx bb mz (nx bb mz (nx bb mz u9))))))))))), .int (nI ((nx bb mz (nx bb mz (mSt bb mz (nx bb mz (nx bb mz (mSt bb mz (nx bb mz (nx bb mz (nx bb mz u9))))))))))), .int (mV bb mz (nx bb mz (nx bb mz (mSt bb mz (nx bb mz (nx bb mz (nx bb mz u9))))))), .int 0, .ref ywa, .ref ybi, .ref ysi, .ref ynu, .ref ymo])), (ys, .inl (cI, 449, .inl ms2_195))] := hD
                    rcases hw_r_194 with ⟨rfl, h_206⟩ | ⟨rfl, h_207⟩
                    · skip
                      refine lv_goto (tgt := 184) hx hb dX9_wayItem_180 (by decide) ?_
                      refine lv_iadd hx hb dX9_wayItem_184 ?_
                      refine xl_i (y := 2) (by decide) ?_
                      refine lv_istore (lv' := [(6, .int 2), (5, .int 1), (4, .int (mV bb mz (nx bb mz (nx bb mz (nx bb mz u9))))), (3, .int (mV bb mz (nx bb mz (nx bb mz (nx bb mz u9))))), (2, .int (nI (num bb (nf bb mz (nx bb mz (nx bb mz u9))) (nx bb mz (nx bb mz (nx bb mz u9)))))), (1, .int (nI (num bb (nf bb mz (nx bb mz u9)) (nx bb mz (nx bb mz u9))))), (0, .ref h0)]) hx hb dX9_wayItem_185 hl (by decide) rfl (fun ls hl => ?_)
                      have hc1 := okR_N (by omega) h_10
                      have hc2 := okN_of (P := P) (by omega) h_18 (show num bb (nf bb mz (nx bb mz (nx bb mz u9))) (nx bb mz (nx bb mz (nx bb mz u9))) < P by have h9 := num_k h_18 (by omega) h_22; omega)
                      exact W.vret hx hb hr (fun t ht hW => ⟨⟨(nx bb mz (mSt bb mz (nx bb mz (nx bb mz (mSt bb mz (nx bb mz (nx bb mz (nx bb mz u9))))))), 0, (mV bb mz (nx bb mz (nx bb mz (mSt bb mz (nx bb mz (nx bb mz (nx bb mz u9))))))), ms2_195, upd (upd fal (10 * (num bb (nf bb mz (nx bb mz u9)) (nx bb mz (nx bb mz u9))) + (num bb (nf bb mz (nx bb mz (nx bb mz u9))) (nx bb mz (nx bb mz (nx bb mz u9))))) (mV bb mz (nx bb mz (nx bb mz (nx bb mz u9))))) (10 * (num bb (nf bb mz (nx bb mz (nx bb mz u9))) (nx bb mz (nx bb mz (nx bb mz u9)))) + (num bb (nf bb mz (nx bb mz u9)) (nx bb mz (nx bb mz u9)))) (mV bb mz (nx bb mz (nx bb mz (mSt bb mz (nx bb mz (nx bb mz (nx bb mz u9))))))), upd (upd fau (10 * (num bb (nf bb mz (nx bb mz u9)) (nx bb mz (nx bb mz u9))) + (num bb (nf bb mz (nx bb mz (nx bb mz u9))) (nx bb mz (nx bb mz (nx bb mz u9))))) (mV bb mz (nx bb mz (nx bb mz (nx bb mz u9))))) (10 * (num bb (nf bb mz (nx bb mz (nx bb mz u9))) (nx bb mz (nx bb mz (nx bb mz u9)))) + (num bb (nf bb mz (nx bb mz u9)) (nx bb mz (nx bb mz u9)))) (mV bb mz (nx bb mz (nx bb mz (mSt bb mz (nx bb mz (nx bb mz (nx bb mz u9))))))), upd (upd fao (10 * (num bb (nf bb mz (nx bb mz u9)) (nx bb mz (nx bb mz u9))) + (num bb (nf bb mz (nx bb mz (nx bb mz u9))) (nx bb mz (nx bb mz (nx bb mz u9))))) 1) (10 * (num bb (nf bb mz (nx bb mz (nx bb mz u9))) (nx bb mz (nx bb mz (nx bb mz u9)))) + (num bb (nf bb mz (nx bb mz u9)) (nx bb mz (nx bb mz u9)))) 1), rfl, ⟨Or.inl ⟨(cif_pos (hc1.1)).trans ((cif_pos (⟨hc2.1, fun h => nc_26 ((hc2.2.symm.trans h).trans hc1.2.2)⟩)).trans ((cif_pos (h_43)).trans ((cif_neg (h_52)).trans ((cif_pos (h_159)).trans (cif_pos (h_171)))))), rfl, by omega, wy2_Y (wyV2_n (b := bb) (z := mz) (u := u9) h_52) h_159 (congr (congrArg (fun a b => 10 * a + b) hc1.2.2.symm) hc2.2.symm) (congr (congrArg (fun a b => 10 * a + b) hc2.2.symm) hc1.2.2.symm) rfl (wyBk_e (wyV2_n (b := bb) (z := mz) (u := u9) h_52)), wy2_Y (wyV2_n (b := bb) (z := mz) (u := u9) h_52) h_159 (congr (congrArg (fun a b => 10 * a + b) hc1.2.2.symm) hc2.2.symm) (congr (congrArg (fun a b => 10 * a + b) hc2.2.symm) hc1.2.2.symm) (wyHi_n (b := bb) (z := mz) (u := u9) h_52) (wyBk_e (wyV2_n (b := bb) (z := mz) (u := u9) h_52)), wy2_Y (wyV2_n (b := bb) (z := mz) (u := u9) h_52) h_159 (congr (congrArg (fun a b => 10 * a + b) hc1.2.2.symm) hc2.2.symm) (congr (congrArg (fun a b => 10 * a + b) hc2.2.symm) hc1.2.2.symm) rfl rfl⟩, (by first | assumption | omega), i_196, i_197, i_198, i_199, i_200, i_201, i_202, i_203, i_204, i_205⟩, by rw [ht]; exact hP.sub [1, 2, 0] rfl, hD.sub [1, 2, 0] (by decide) rfl⟩, hS.F ht⟩) hS.2.2 dX9_wayItem_187 hlk
                    · skip
                      refine lv_goto (tgt := 184) hx hb dX9_wayItem_180 (by decide) ?_
                      refine lv_iadd hx hb dX9_wayItem_184 ?_
                      refine xl_i (y := 1) (by decide) ?_
                      refine lv_istore (lv' := [(6, .int 1), (5, .int 1), (4, .int (mV bb mz (nx bb mz (nx bb mz (nx bb mz u9))))), (3, .int (mV bb mz (nx bb mz (nx bb mz (nx bb mz u9))))), (2, .int (nI (num bb (nf bb mz (nx bb mz (nx bb mz u9))) (nx bb mz (nx bb mz (nx bb mz u9)))))), (1, .int (nI (num bb (nf bb mz (nx bb mz u9)) (nx bb mz (nx bb mz u9))))), (0, .ref h0)]) hx hb dX9_wayItem_185 hl (by decide) rfl (fun ls hl => ?_)
                      have hc1 := okR_N (by omega) h_10
                      have hc2 := okN_of (P := P) (by omega) h_18 (show num bb (nf bb mz (nx bb mz (nx bb mz u9))) (nx bb mz (nx bb mz (nx bb mz u9))) < P by have h9 := num_k h_18 (by omega) h_22; omega)
                      exact W.vret hx hb hr (fun t ht hW => ⟨⟨(nx bb mz (mSt bb mz (nx bb mz (nx bb mz (mSt bb mz (nx bb mz (nx bb mz (nx bb mz u9))))))), 0, (mV bb mz (nx bb mz (nx bb mz (mSt bb mz (nx bb mz (nx bb mz (nx bb mz u9))))))), ms2_195, upd (upd fal (10 * (num bb (nf bb mz (nx bb mz u9)) (nx bb mz (nx bb mz u9))) + (num bb (nf bb mz (nx bb mz (nx bb mz u9))) (nx bb mz (nx bb mz (nx bb mz u9))))) (mV bb mz (nx bb mz (nx bb mz (nx bb mz u9))))) (10 * (num bb (nf bb mz (nx bb mz (nx bb mz u9))) (nx bb mz (nx bb mz (nx bb mz u9)))) + (num bb (nf bb mz (nx bb mz u9)) (nx bb mz (nx bb mz u9)))) (mV bb mz (nx bb mz (nx bb mz (mSt bb mz (nx bb mz (nx bb mz (nx bb mz u9))))))), upd (upd fau (10 * (num bb (nf bb mz (nx bb mz u9)) (nx bb mz (nx bb mz u9))) + (num bb (nf bb mz (nx bb mz (nx bb mz u9))) (nx bb mz (nx bb mz (nx bb mz u9))))) (mV bb mz (nx bb mz (nx bb mz (nx bb mz u9))))) (10 * (num bb (nf bb mz (nx bb mz (nx bb mz u9))) (nx bb mz (nx bb mz (nx bb mz u9)))) + (num bb (nf bb mz (nx bb mz u9)) (nx bb mz (nx bb mz u9)))) (mV bb mz (nx bb mz (nx bb mz (mSt bb mz (nx bb mz (nx bb mz (nx bb mz u9))))))), upd (upd fao (10 * (num bb (nf bb mz (nx bb mz u9)) (nx bb mz (nx bb mz u9))) + (num bb (nf bb mz (nx bb mz (nx bb mz u9))) (nx bb mz (nx bb mz (nx bb mz u9))))) 1) (10 * (num bb (nf bb mz (nx bb mz (nx bb mz u9))) (nx bb mz (nx bb mz (nx bb mz u9)))) + (num bb (nf bb mz (nx bb mz u9)) (nx bb mz (nx bb mz u9)))) 1), rfl, ⟨Or.inl ⟨(cif_pos (hc1.1)).trans ((cif_pos (⟨hc2.1, fun h => nc_26 ((hc2.2.symm.trans h).trans hc1.2.2)⟩)).trans ((cif_pos (h_43)).trans ((cif_neg (h_52)).trans ((cif_pos (h_159)).trans (cif_pos (h_171)))))), rfl, by omega, wy2_Y (wyV2_n (b := bb) (z := mz) (u := u9) h_52) h_159 (congr (congrArg (fun a b => 10 * a + b) hc1.2.2.symm) hc2.2.symm) (congr (congrArg (fun a b => 10 * a + b) hc2.2.symm) hc1.2.2.symm) rfl (wyBk_e (wyV2_n (b := bb) (z := mz) (u := u9) h_52)), wy2_Y (wyV2_n (b := bb) (z := mz) (u := u9) h_52) h_159 (congr (congrArg (fun a b => 10 * a + b) hc1.2.2.symm) hc2.2.symm) (congr (congrArg (fun a b => 10 * a + b) hc2.2.symm) hc1.2.2.symm) (wyHi_n (b := bb) (z := mz) (u := u9) h_52) (wyBk_e (wyV2_n (b := bb) (z := mz) (u := u9) h_52)), wy2_Y (wyV2_n (b := bb) (z := mz) (u := u9) h_52) h_159 (congr (congrArg (fun a b => 10 * a + b) hc1.2.2.symm) hc2.2.symm) (congr (congrArg (fun a b => 10 * a + b) hc2.2.symm) hc1.2.2.symm) rfl rfl⟩, (by first | assumption | omega), i_196, i_197, i_198, i_199, i_200, i_201, i_202, i_203, i_204, i_205⟩, by rw [ht]; exact hP.sub [1, 2, 0] rfl, hD.sub [1, 2, 0] (by decide) rfl⟩, hS.F ht⟩) hS.2.2 dX9_wayItem_187 hlk
                  · skip
                    refine lv_istore (lv' := [(6, .int 0), (5, .int 1), (4, .int (mV bb mz (nx bb mz (nx bb mz (nx bb mz u9))))), (3, .int (mV bb mz (nx bb mz (nx bb mz (nx bb mz u9))))), (2, .int (nI (num bb (nf bb mz (nx bb mz (nx bb mz u9))) (nx bb mz (nx bb mz (nx bb mz u9)))))), (1, .int (nI (num bb (nf bb mz (nx bb mz u9)) (nx bb mz (nx bb mz u9))))), (0, .ref h0)]) hx hb dX9_wayItem_157 hl (by decide) rfl (fun ls hl => ?_)
                    refine lv_iload hx hb dX9_wayItem_159 (lv_at hl 0 rfl) ?_
                    refine lv_iload hx hb dX9_wayItem_161 (lv_at hl 1 rfl) ?_
                    refine lv_if_eq (tgt := 183) hx hb dX9_wayItem_163 (by decide) (fun c_208 => absurd c_208 (by decide)) (fun c_208 => ?_)
                    refine lv_aload_n hx hb dX9_wayItem_166 rfl (lv_at hl 6 rfl) ?_
                    refine lv_iload_n hx hb dX9_wayItem_167 rfl (lv_at hl 4 rfl) ?_
                    refine lv_iload_n hx hb dX9_wayItem_168 rfl (lv_at hl 5 rfl) ?_
                    refine lv_aload_n hx hb dX9_wayItem_169 rfl (lv_at hl 6 rfl) ?_
                    refine xg hF kf_X9_275 hK hP 1 rfl rfl dX9_wayItem_170 ?_
                    refine lv_aload_n hx hb dX9_wayItem_173 rfl (lv_at hl 6 rfl) ?_
                    refine xg hF kf_X9_275 hK hP 1 rfl rfl dX9_wayItem_174 ?_
                    refine xc_Vi (wr := [(yta, .inl (cI, 120, .inl tp))]) hF (c_X9_makes l D cI cJ cZ cS ta sa sv H.size h0 ys yk yo yt mk0 yfa yfe mL mS mM yro yhe ygr mF mC mY yta mz (nf bb mz (nx bb mz (mSt bb mz (nx bb mz (nx bb mz (mSt bb mz (nx bb mz (nx bb mz (nx bb mz u9))))))))) (nx bb mz (nx bb mz (mSt bb mz (nx bb mz (nx bb mz (mSt bb mz (nx bb mz (nx bb mz (nx bb mz u9))))))))) (mV bb mz (nx bb mz (nx bb mz (mSt bb mz (nx bb mz (nx bb mz (nx bb mz u9))))))) 0 ywa ybi ysi ynu ymo ms2_180 P Rn Wn fae (upd fal (10 * (num bb (nf bb mz (nx bb mz u9)) (nx bb mz (nx bb mz u9))) + (num bb (nf bb mz (nx bb mz (nx bb mz u9))) (nx bb mz (nx bb mz (nx bb mz u9))))) (mV bb mz (nx bb mz (nx bb mz (nx bb mz u9))))) (upd fau (10 * (num bb (nf bb mz (nx bb mz u9)) (nx bb mz (nx bb mz u9))) + (num bb (nf bb mz (nx bb mz (nx bb mz u9))) (nx bb mz (nx bb mz (nx bb mz u9))))) (mV bb mz (nx bb mz (nx bb mz (nx bb mz u9))))) (upd fao (10 * (num bb (nf bb mz (nx bb mz u9)) (nx bb mz (nx bb mz u9))) + (num bb (nf bb mz (nx bb mz (nx bb mz u9))) (nx bb mz (nx bb mz (nx bb mz u9))))) 1) farn farp fak fawn fawp fat fas (num bb (nf bb mz (nx bb mz (nx bb mz u9))) (nx bb mz (nx bb mz (nx bb mz u9)))) (num bb (nf bb mz (nx bb mz u9)) (nx bb mz (nx bb mz u9))) (mV bb mz (nx bb mz (nx bb mz (mSt bb mz (nx bb mz (nx bb mz (nx bb mz u9))))))) (mV bb mz (nx bb mz (nx bb mz (mSt bb mz (nx bb mz (nx bb mz (nx bb mz u9))))))) (by omega) (by omega) (mV_in99 h_171) i_181 i_182 i_183 i_184 i_185 i_186 i_187 i_188 i_189 i_190) kv_X9_87 ⟨rfl, rfl, Nat.le_of_ble_eq_true rfl, Nat.le_of_ble_eq_true rfl⟩ ⟨Nat.le_of_ble_eq_true rfl, Nat.le_of_ble_eq_true rfl⟩ hK hN hZ hP hD hS hA [1, 2] [0] rfl rfl rfl rfl (by decide) 0 rfl rfl rfl rfl hl.1 rfl (Nat.le_of_ble_eq_true rfl) dX9_wayItem_177 (fun r_209 u_r_209 H locs hw_r_209 hP hD hS => ?_)
                    obtain ⟨ms2_210, rfl⟩ : ∃ z, z = u_r_209 := ⟨_, rfl⟩
                    try dsimp only at hw_r_209
                    obtain ⟨hw_r_209, i_211, i_212, i_213, i_214, i_215, i_216, i_217, i_218, i_219, i_220⟩ := hw_r_209
                    have hP : va_P D vwCl [(yta, .inl (cI, 120, .inl tp)), (h0, .inr (9, [.ref ys, .ref yk, .ref yo, .ref yt, .int mk0, .ref yfa, .ref yfe, .int mL, .int mS, .int mM, .ref yro, .ref yhe, .ref ygr, .int mF, .int mC, .int mY, .ref yta, .int (nI (mz)), .int (nI ((nf bb mz (nx bb mz (mSt bb mz (nx bb mz (nx bb mz (mSt bb mz (nx bb mz (nx bb mz (nx bb mz u9))))))))))), .int (nI ((nx bb mz (nx bb mz (mSt bb mz (nx bb mz (nx bb mz (mSt bb mz (nx bb mz (nx bb mz (nx bb mz u9))))))))))), .int (mV bb mz (nx bb mz (nx bb mz (mSt bb mz (nx bb mz (nx bb mz (nx bb mz u9))))))), .int 0, .ref ywa, .ref ybi, .ref ysi, .ref ynu, .ref ymo])), (ys, .inl (cI, 449, .inl ms2_210))] H := hP
                    have hD : va_D A [(yta, .inl (cI, 120, .inl tp)), (h0, .inr (9, [.ref ys, .ref yk, .ref yo, .ref yt, .int mk0, .ref yfa, .ref yfe, .int mL, .int mS, .int mM, .ref yro, .ref yhe, .ref ygr, .int mF, .int mC, .int mY, .ref yta, .int (nI (mz)), .int (nI ((nf bb mz (nx bb mz (mSt bb mz (nx bb mz (nx bb mz (mSt bb mz (nx bb mz (nx bb mz (nx bb mz u9))))))))))), .int (nI ((nx bb mz (nx bb mz (mSt bb mz (nx bb mz (nx bb mz (mSt bb mz (nx bb mz (nx bb mz (nx bb mz u9))))))))))), .int (mV bb mz (nx bb mz (nx bb mz (mSt bb mz (nx bb mz (nx bb mz (nx bb mz u9))))))), .int 0, .ref ywa, .ref ybi, .ref ysi, .ref ynu, .ref ymo])), (ys, .inl (cI, 449, .inl ms2_210))] := hD
                    rcases hw_r_209 with ⟨rfl, h_221⟩ | ⟨rfl, h_222⟩
                    · skip
                      refine lv_goto (tgt := 184) hx hb dX9_wayItem_180 (by decide) ?_
                      refine lv_iadd hx hb dX9_wayItem_184 ?_
                      refine xl_i (y := 1) (by decide) ?_
                      refine lv_istore (lv' := [(6, .int 1), (5, .int 1), (4, .int (mV bb mz (nx bb mz (nx bb mz (nx bb mz u9))))), (3, .int (mV bb mz (nx bb mz (nx bb mz (nx bb mz u9))))), (2, .int (nI (num bb (nf bb mz (nx bb mz (nx bb mz u9))) (nx bb mz (nx bb mz (nx bb mz u9)))))), (1, .int (nI (num bb (nf bb mz (nx bb mz u9)) (nx bb mz (nx bb mz u9))))), (0, .ref h0)]) hx hb dX9_wayItem_185 hl (by decide) rfl (fun ls hl => ?_)
                      have hc1 := okR_N (by omega) h_10
                      have hc2 := okN_of (P := P) (by omega) h_18 (show num bb (nf bb mz (nx bb mz (nx bb mz u9))) (nx bb mz (nx bb mz (nx bb mz u9))) < P by have h9 := num_k h_18 (by omega) h_22; omega)
                      exact W.vret hx hb hr (fun t ht hW => ⟨⟨(nx bb mz (mSt bb mz (nx bb mz (nx bb mz (mSt bb mz (nx bb mz (nx bb mz (nx bb mz u9))))))), 0, (mV bb mz (nx bb mz (nx bb mz (mSt bb mz (nx bb mz (nx bb mz (nx bb mz u9))))))), ms2_210, upd (upd fal (10 * (num bb (nf bb mz (nx bb mz u9)) (nx bb mz (nx bb mz u9))) + (num bb (nf bb mz (nx bb mz (nx bb mz u9))) (nx bb mz (nx bb mz (nx bb mz u9))))) (mV bb mz (nx bb mz (nx bb mz (nx bb mz u9))))) (10 * (num bb (nf bb mz (nx bb mz (nx bb mz u9))) (nx bb mz (nx bb mz (nx bb mz u9)))) + (num bb (nf bb mz (nx bb mz u9)) (nx bb mz (nx bb mz u9)))) (mV bb mz (nx bb mz (nx bb mz (mSt bb mz (nx bb mz (nx bb mz (nx bb mz u9))))))), upd (upd fau (10 * (num bb (nf bb mz (nx bb mz u9)) (nx bb mz (nx bb mz u9))) + (num bb (nf bb mz (nx bb mz (nx bb mz u9))) (nx bb mz (nx bb mz (nx bb mz u9))))) (mV bb mz (nx bb mz (nx bb mz (nx bb mz u9))))) (10 * (num bb (nf bb mz (nx bb mz (nx bb mz u9))) (nx bb mz (nx bb mz (nx bb mz u9)))) + (num bb (nf bb mz (nx bb mz u9)) (nx bb mz (nx bb mz u9)))) (mV bb mz (nx bb mz (nx bb mz (mSt bb mz (nx bb mz (nx bb mz (nx bb mz u9))))))), upd (upd fao (10 * (num bb (nf bb mz (nx bb mz u9)) (nx bb mz (nx bb mz u9))) + (num bb (nf bb mz (nx bb mz (nx bb mz u9))) (nx bb mz (nx bb mz (nx bb mz u9))))) 1) (10 * (num bb (nf bb mz (nx bb mz (nx bb mz u9))) (nx bb mz (nx bb mz (nx bb mz u9)))) + (num bb (nf bb mz (nx bb mz u9)) (nx bb mz (nx bb mz u9)))) 1), rfl, ⟨Or.inl ⟨(cif_pos (hc1.1)).trans ((cif_pos (⟨hc2.1, fun h => nc_26 ((hc2.2.symm.trans h).trans hc1.2.2)⟩)).trans ((cif_pos (h_43)).trans ((cif_neg (h_52)).trans ((cif_pos (h_159)).trans (cif_pos (h_171)))))), rfl, by omega, wy2_Y (wyV2_n (b := bb) (z := mz) (u := u9) h_52) h_159 (congr (congrArg (fun a b => 10 * a + b) hc1.2.2.symm) hc2.2.symm) (congr (congrArg (fun a b => 10 * a + b) hc2.2.symm) hc1.2.2.symm) rfl (wyBk_e (wyV2_n (b := bb) (z := mz) (u := u9) h_52)), wy2_Y (wyV2_n (b := bb) (z := mz) (u := u9) h_52) h_159 (congr (congrArg (fun a b => 10 * a + b) hc1.2.2.symm) hc2.2.symm) (congr (congrArg (fun a b => 10 * a + b) hc2.2.symm) hc1.2.2.symm) (wyHi_n (b := bb) (z := mz) (u := u9) h_52) (wyBk_e (wyV2_n (b := bb) (z := mz) (u := u9) h_52)), wy2_Y (wyV2_n (b := bb) (z := mz) (u := u9) h_52) h_159 (congr (congrArg (fun a b => 10 * a + b) hc1.2.2.symm) hc2.2.symm) (congr (congrArg (fun a b => 10 * a + b) hc2.2.symm) hc1.2.2.symm) rfl rfl⟩, (by first | assumption | omega), i_211, i_212, i_213, i_214, i_215, i_216, i_217, i_218, i_219, i_220⟩, by rw [ht]; exact hP.sub [1, 2, 0] rfl, hD.sub [1, 2, 0] (by decide) rfl⟩, hS.F ht⟩) hS.2.2 dX9_wayItem_187 hlk
                    · skip
                      refine lv_goto (tgt := 184) hx hb dX9_wayItem_180 (by decide) ?_
                      refine lv_iadd hx hb dX9_wayItem_184 ?_
                      refine xl_i (y := 0) (by decide) ?_
                      refine lv_istore (lv' := [(6, .int 0), (5, .int 1), (4, .int (mV bb mz (nx bb mz (nx bb mz (nx bb mz u9))))), (3, .int (mV bb mz (nx bb mz (nx bb mz (nx bb mz u9))))), (2, .int (nI (num bb (nf bb mz (nx bb mz (nx bb mz u9))) (nx bb mz (nx bb mz (nx bb mz u9)))))), (1, .int (nI (num bb (nf bb mz (nx bb mz u9)) (nx bb mz (nx bb mz u9))))), (0, .ref h0)]) hx hb dX9_wayItem_185 hl (by decide) rfl (fun ls hl => ?_)
                      have hc1 := okR_N (by omega) h_10
                      have hc2 := okN_of (P := P) (by omega) h_18 (show num bb (nf bb mz (nx bb mz (nx bb mz u9))) (nx bb mz (nx bb mz (nx bb mz u9))) < P by have h9 := num_k h_18 (by omega) h_22; omega)
                      exact W.vret hx hb hr (fun t ht hW => ⟨⟨(nx bb mz (mSt bb mz (nx bb mz (nx bb mz (mSt bb mz (nx bb mz (nx bb mz (nx bb mz u9))))))), 0, (mV bb mz (nx bb mz (nx bb mz (mSt bb mz (nx bb mz (nx bb mz (nx bb mz u9))))))), ms2_210, upd (upd fal (10 * (num bb (nf bb mz (nx bb mz u9)) (nx bb mz (nx bb mz u9))) + (num bb (nf bb mz (nx bb mz (nx bb mz u9))) (nx bb mz (nx bb mz (nx bb mz u9))))) (mV bb mz (nx bb mz (nx bb mz (nx bb mz u9))))) (10 * (num bb (nf bb mz (nx bb mz (nx bb mz u9))) (nx bb mz (nx bb mz (nx bb mz u9)))) + (num bb (nf bb mz (nx bb mz u9)) (nx bb mz (nx bb mz u9)))) (mV bb mz (nx bb mz (nx bb mz (mSt bb mz (nx bb mz (nx bb mz (nx bb mz u9))))))), upd (upd fau (10 * (num bb (nf bb mz (nx bb mz u9)) (nx bb mz (nx bb mz u9))) + (num bb (nf bb mz (nx bb mz (nx bb mz u9))) (nx bb mz (nx bb mz (nx bb mz u9))))) (mV bb mz (nx bb mz (nx bb mz (nx bb mz u9))))) (10 * (num bb (nf bb mz (nx bb mz (nx bb mz u9))) (nx bb mz (nx bb mz (nx bb mz u9)))) + (num bb (nf bb mz (nx bb mz u9)) (nx bb mz (nx bb mz u9)))) (mV bb mz (nx bb mz (nx bb mz (mSt bb mz (nx bb mz (nx bb mz (nx bb mz u9))))))), upd (upd fao (10 * (num bb (nf bb mz (nx bb mz u9)) (nx bb mz (nx bb mz u9))) + (num bb (nf bb mz (nx bb mz (nx bb mz u9))) (nx bb mz (nx bb mz (nx bb mz u9))))) 1) (10 * (num bb (nf bb mz (nx bb mz (nx bb mz u9))) (nx bb mz (nx bb mz (nx bb mz u9)))) + (num bb (nf bb mz (nx bb mz u9)) (nx bb mz (nx bb mz u9)))) 1), rfl, ⟨Or.inl ⟨(cif_pos (hc1.1)).trans ((cif_pos (⟨hc2.1, fun h => nc_26 ((hc2.2.symm.trans h).trans hc1.2.2)⟩)).trans ((cif_pos (h_43)).trans ((cif_neg (h_52)).trans ((cif_pos (h_159)).trans (cif_pos (h_171)))))), rfl, by omega, wy2_Y (wyV2_n (b := bb) (z := mz) (u := u9) h_52) h_159 (congr (congrArg (fun a b => 10 * a + b) hc1.2.2.symm) hc2.2.symm) (congr (congrArg (fun a b => 10 * a + b) hc2.2.symm) hc1.2.2.symm) rfl (wyBk_e (wyV2_n (b := bb) (z := mz) (u := u9) h_52)), wy2_Y (wyV2_n (b := bb) (z := mz) (u := u9) h_52) h_159 (congr (congrArg (fun a b => 10 * a + b) hc1.2.2.symm) hc2.2.symm) (congr (congrArg (fun a b => 10 * a + b) hc2.2.symm) hc1.2.2.symm) (wyHi_n (b := bb) (z := mz) (u := u9) h_52) (wyBk_e (wyV2_n (b := bb) (z := mz) (u := u9) h_52)), wy2_Y (wyV2_n (b := bb) (z := mz) (u := u9) h_52) h_159 (congr (congrArg (fun a b => 10 * a + b) hc1.2.2.symm) hc2.2.symm) (congr (congrArg (fun a b => 10 * a + b) hc2.2.symm) hc1.2.2.symm) rfl rfl⟩, (by first | assumption | omega), i_211, i_212, i_213, i_214, i_215, i_216, i_217, i_218, i_219, i_220⟩, by rw [ht]; exact hP.sub [1, 2, 0] rfl, hD.sub [1, 2, 0] (by decide) rfl⟩, hS.F ht⟩) hS.2.2 dX9_wayItem_187 hlk
                · skip
                  subst h_176
                  subst h_177
                  refine lv_aload_n hx hb dX9_wayItem_141 rfl (lv_at hl 5 rfl) ?_
                  refine xg hF kf_X9_266 hK hP 1 rfl rfl dX9_wayItem_142 ?_
                  refine lv_if_ne (tgt := 187) hx hb dX9_wayItem_145 (by decide) (fun c_223 => ?_) (fun c_223 => absurd c_223 (by decide))
                  have hc1 := okR_N (by omega) h_10
                  have hc2 := okN_of (P := P) (by omega) h_18 (show num bb (nf bb mz (nx bb mz (nx bb mz u9))) (nx bb mz (nx bb mz (nx bb mz u9))) < P by have h9 := num_k h_18 (by omega) h_22; omega)
                  exact W.vret hx hb hr (fun t ht hW => ⟨⟨(mSt bb mz (nx bb mz (nx bb mz (mSt bb mz (nx bb mz (nx bb mz (nx bb mz u9)))))), 1, v2_168, ms, fal, fau, fao), rfl, ⟨Or.inr ⟨(cif_pos (hc1.1)).trans ((cif_pos (⟨hc2.1, fun h => nc_26 ((hc2.2.symm.trans h).trans hc1.2.2)⟩)).trans ((cif_pos (h_43)).trans ((cif_neg (h_52)).trans ((cif_pos (h_159)).trans (cif_neg (h_175)))))), rfl⟩, (by first | assumption | omega), hs0, hs1, hs2, hsS, hsM, hsp, hsr, hsw, hsR, hsG⟩, by rw [ht]; exact hP.sub [1, 0, 2] rfl, hD.sub [1, 0, 2] (by decide) rfl⟩, hS.F ht⟩) hS.2.2 dX9_wayItem_187 hlk
              · skip
                refine lv_istore (lv' := [(5, .int 0), (4, .int (mV bb mz (nx bb mz (nx bb mz (nx bb mz u9))))), (3, .int (mV bb mz (nx bb mz (nx bb mz (nx bb mz u9))))), (2, .int (nI (num bb (nf bb mz (nx bb mz (nx bb mz u9))) (nx bb mz (nx bb mz (nx bb mz u9)))))), (1, .int (nI (num bb (nf bb mz (nx bb mz u9)) (nx bb mz (nx bb mz u9))))), (0, .ref h0)]) hx hb dX9_wayItem_120 hl (by decide) rfl (fun ls hl => ?_)
                refine lv_iload hx hb dX9_wayItem_122 (lv_at hl 0 rfl) ?_
                refine lv_if_eq (tgt := 141) hx hb dX9_wayItem_124 (by decide) (fun c_224 => ?_) (fun c_224 => absurd (by decide) c_224)
                refine lv_aload_n hx hb dX9_wayItem_141 rfl (lv_at hl 5 rfl) ?_
                refine xg hF kf_X9_266 hK hP 1 rfl rfl dX9_wayItem_142 ?_
                refine lv_if_ne (tgt := 187) hx hb dX9_wayItem_145 (by decide) (fun c_225 => absurd (by decide) c_225) (fun c_225 => ?_)
                have hone : num bb (nf bb mz (nx bb mz u9)) (nx bb mz (nx bb mz u9)) < P := (okR_N (by omega) h_10).2.1
                have htwo : num bb (nf bb mz (nx bb mz (nx bb mz u9))) (nx bb mz (nx bb mz (nx bb mz u9))) < P := by have h9 := num_k h_18 (by omega) h_22; omega
                refine lv_aload_n hx hb dX9_wayItem_148 rfl (lv_at hl 5 rfl) ?_
                refine lv_iload_n hx hb dX9_wayItem_149 rfl (lv_at hl 4 rfl) ?_
                refine lv_iload_n hx hb dX9_wayItem_150 rfl (lv_at hl 3 rfl) ?_
                refine lv_iload_n hx hb dX9_wayItem_151 rfl (lv_at hl 2 rfl) ?_
                refine lv_iload hx hb dX9_wayItem_152 (lv_at hl 1 rfl) ?_
                refine xc_Vi (wr := [(yta, .inl (cI, 120, .inl tp))]) hF (c_X9_makes l D cI cJ cZ cS ta sa sv H.size h0 ys yk yo yt mk0 yfa yfe mL mS mM yro yhe ygr mF mC mY yta mz (nf bb mz (nx bb mz (mSt bb mz (nx bb mz (nx bb mz (nx bb mz u9)))))) (nx bb mz (nx bb mz (mSt bb mz (nx bb mz (nx bb mz (nx bb mz u9)))))) (mV bb mz (nx bb mz (nx bb mz (nx bb mz u9)))) 0 ywa ybi ysi ynu ymo ms P Rn Wn fae fal fau fao farn farp fak fawn fawp fat fas (num bb (nf bb mz (nx bb mz u9)) (nx bb mz (nx bb mz u9))) (num bb (nf bb mz (nx bb mz (nx bb mz u9))) (nx bb mz (nx bb mz (nx bb mz u9)))) (mV bb mz (nx bb mz (nx bb mz (nx bb mz u9)))) (mV bb mz (nx bb mz (nx bb mz (nx bb mz u9)))) (by omega) (by omega) (mV_in99 h_43) hs0 hs1 hs2 hsS hsM hsp hsr hsw hsR hsG) kv_X9_87 ⟨rfl, rfl, Nat.le_of_ble_eq_true rfl, Nat.le_of_ble_eq_true rfl⟩ ⟨Nat.le_of_ble_eq_true rfl, Nat.le_of_ble_eq_true rfl⟩ hK hN hZ hP hD hS hA [1, 0] [2] rfl rfl rfl rfl (by decide) 0 rfl rfl rfl rfl hl.1 rfl (Nat.le_of_ble_eq_true rfl) dX9_wayItem_154 (fun r_226 u_r_226 H locs hw_r_226 hP hD hS => ?_)
                obtain ⟨ms2_227, rfl⟩ : ∃ z, z = u_r_226 := ⟨_, rfl⟩
                try dsimp only at hw_r_226
                obtain ⟨hw_r_226, i_228, i_229, i_230, i_231, i_232, i_233, i_234, i_235, i_236, i_237⟩ := hw_r_226
                have hP : va_P D vwCl [(yta, .inl (cI, 120, .inl tp)), (h0, .inr (9, [.ref ys, .ref yk, .ref yo, .ref yt, .int mk0, .ref yfa, .ref yfe, .int mL, .int mS, .int mM, .ref yro, .ref yhe, .ref ygr, .int mF, .int mC, .int mY, .ref yta, .int (nI (mz)), .int (nI ((nf bb mz (nx bb mz (mSt bb mz (nx bb mz (nx bb mz (nx bb mz u9)))))))), .int (nI ((nx bb mz (nx bb mz (mSt bb mz (nx bb mz (nx bb mz (nx bb mz u9)))))))), .int (mV bb mz (nx bb mz (nx bb mz (nx bb mz u9)))), .int 0, .ref ywa, .ref ybi, .ref ysi, .ref ynu, .ref ymo])), (ys, .inl (cI, 449, .inl ms2_227))] H := hP
                have hD : va_D A [(yta, .inl (cI, 120, .inl tp)), (h0, .inr (9, [.ref ys, .ref yk, .ref yo, .ref yt, .int mk0, .ref yfa, .ref yfe, .int mL, .int mS, .int mM, .ref yro, .ref yhe, .ref ygr, .int mF, .int mC, .int mY, .ref yta, .int (nI (mz)), .int (nI ((nf bb mz (nx bb mz (mSt bb mz (nx bb mz (nx bb mz (nx bb mz u9)))))))), .int (nI ((nx bb mz (nx bb mz (mSt bb mz (nx bb mz (nx bb mz (nx bb mz u9)))))))), .int (mV bb mz (nx bb mz (nx bb mz (nx bb mz u9)))), .int 0, .ref ywa, .ref ybi, .ref ysi, .ref ynu, .ref ymo])), (ys, .inl (cI, 449, .inl ms2_227))] := hD
                rcases hw_r_226 with ⟨rfl, h_238⟩ | ⟨rfl, h_239⟩
                · skip
                  refine lv_istore (lv' := [(6, .int 1), (5, .int 0), (4, .int (mV bb mz (nx bb mz (nx bb mz (nx bb mz u9))))), (3, .int (mV bb mz (nx bb mz (nx bb mz (nx bb mz u9))))), (2, .int (nI (num bb (nf bb mz (nx bb mz (nx bb mz u9))) (nx bb mz (nx bb mz (nx bb mz u9)))))), (1, .int (nI (num bb (nf bb mz (nx bb mz u9)) (nx bb mz (nx bb mz u9))))), (0, .ref h0)]) hx hb dX9_wayItem_157 hl (by decide) rfl (fun ls hl => ?_)
                  refine lv_iload hx hb dX9_wayItem_159 (lv_at hl 0 rfl) ?_
                  refine lv_iload hx hb dX9_wayItem_161 (lv_at hl 1 rfl) ?_
                  refine lv_if_eq (tgt := 183) hx hb dX9_wayItem_163 (by decide) (fun c_240 => ?_) (fun c_240 => absurd (by decide) c_240)
                  refine lv_iconst (v := 0) hx hb dX9_wayItem_183 (by decide) ?_
                  refine lv_iadd hx hb dX9_wayItem_184 ?_
                  refine xl_i (y := 1) (by decide) ?_
                  refine lv_istore (lv' := [(6, .int 1), (5, .int 0), (4, .int (mV bb mz (nx bb mz (nx bb mz (nx bb mz u9))))), (3, .int (mV bb mz (nx bb mz (nx bb mz (nx bb mz u9))))), (2, .int (nI (num bb (nf bb mz (nx bb mz (nx bb mz u9))) (nx bb mz (nx bb mz (nx bb mz u9)))))), (1, .int (nI (num bb (nf bb mz (nx bb mz u9)) (nx bb mz (nx bb mz u9))))), (0, .ref h0)]) hx hb dX9_wayItem_185 hl (by decide) rfl (fun ls hl => ?_)
                  have hc1 := okR_N (by omega) h_10
                  have hc2 := okN_of (P := P) (by omega) h_18 (show num bb (nf bb mz (nx bb mz (nx bb mz u9))) (nx bb mz (nx bb mz (nx bb mz u9))) < P by have h9 := num_k h_18 (by omega) h_22; omega)
                  exact W.vret hx hb hr (fun t ht hW => ⟨⟨(nx bb mz (mSt bb mz (nx bb mz (nx bb mz (nx bb mz u9)))), 0, (mV bb mz (nx bb mz (nx bb mz (nx bb mz u9)))), ms2_227, upd fal (10 * (num bb (nf bb mz (nx bb mz u9)) (nx bb mz (nx bb mz u9))) + (num bb (nf bb mz (nx bb mz (nx bb mz u9))) (nx bb mz (nx bb mz (nx bb mz u9))))) (mV bb mz (nx bb mz (nx bb mz (nx bb mz u9)))), upd fau (10 * (num bb (nf bb mz (nx bb mz u9)) (nx bb mz (nx bb mz u9))) + (num bb (nf bb mz (nx bb mz (nx bb mz u9))) (nx bb mz (nx bb mz (nx bb mz u9))))) (mV bb mz (nx bb mz (nx bb mz (nx bb mz u9)))), upd fao (10 * (num bb (nf bb mz (nx bb mz u9)) (nx bb mz (nx bb mz u9))) + (num bb (nf bb mz (nx bb mz (nx bb mz u9))) (nx bb mz (nx bb mz (nx bb mz u9))))) 1), rfl, ⟨Or.inl ⟨(cif_pos (hc1.1)).trans ((cif_pos (⟨hc2.1, fun h => nc_26 ((hc2.2.symm.trans h).trans hc1.2.2)⟩)).trans ((cif_pos (h_43)).trans ((cif_neg (h_52)).trans (cif_neg (h_160))))), rfl, by omega, wy2_N (wyV2_n (b := bb) (z := mz) (u := u9) h_52) h_160 (congr (congrArg (fun a b => 10 * a + b) hc1.2.2.symm) hc2.2.symm) rfl, wy2_N (wyV2_n (b := bb) (z := mz) (u := u9) h_52) h_160 (congr (congrArg (fun a b => 10 * a + b) hc1.2.2.symm) hc2.2.symm) (wyHi_n (b := bb) (z := mz) (u := u9) h_52), wy2_N (wyV2_n (b := bb) (z := mz) (u := u9) h_52) h_160 (congr (congrArg (fun a b => 10 * a + b) hc1.2.2.symm) hc2.2.symm) rfl⟩, (by first | assumption | omega), i_228, i_229, i_230, i_231, i_232, i_233, i_234, i_235, i_236, i_237⟩, by rw [ht]; exact hP.sub [1, 2, 0] rfl, hD.sub [1, 2, 0] (by decide) rfl⟩, hS.F ht⟩) hS.2.2 dX9_wayItem_187 hlk
                · skip
                  refine lv_istore (lv' := [(6, .int 0), (5, .int 0), (4, .int (mV bb mz (nx bb mz (nx bb mz (nx bb mz u9))))), (3, .int (mV bb mz (nx bb mz (nx bb mz (nx bb mz u9))))), (2, .int (nI (num bb (nf bb mz (nx bb mz (nx bb mz u9))) (nx bb mz (nx bb mz (nx bb mz u9)))))), (1, .int (nI (num bb (nf bb mz (nx bb mz u9)) (nx bb mz (nx bb mz u9))))), (0, .ref h0)]) hx hb dX9_wayItem_157 hl (by decide) rfl (fun ls hl => ?_)
                  refine lv_iload hx hb dX9_wayItem_159 (lv_at hl 0 rfl) ?_
                  refine lv_iload hx hb dX9_wayItem_161 (lv_at hl 1 rfl) ?_
                  refine lv_if_eq (tgt := 183) hx hb dX9_wayItem_163 (by decide) (fun c_241 => ?_) (fun c_241 => absurd (by decide) c_241)
                  refine lv_iconst (v := 0) hx hb dX9_wayItem_183 (by decide) ?_
                  refine lv_iadd hx hb dX9_wayItem_184 ?_
                  refine xl_i (y := 0) (by decide) ?_
                  refine lv_istore (lv' := [(6, .int 0), (5, .int 0), (4, .int (mV bb mz (nx bb mz (nx bb mz (nx bb mz u9))))), (3, .int (mV bb mz (nx bb mz (nx bb mz (nx bb mz u9))))), (2, .int (nI (num bb (nf bb mz (nx bb mz (nx bb mz u9))) (nx bb mz (nx bb mz (nx bb mz u9)))))), (1, .int (nI (num bb (nf bb mz (nx bb mz u9)) (nx bb mz (nx bb mz u9))))), (0, .ref h0)]) hx hb dX9_wayItem_185 hl (by decide) rfl (fun ls hl => ?_)
                  have hc1 := okR_N (by omega) h_10
                  have hc2 := okN_of (P := P) (by omega) h_18 (show num bb (nf bb mz (nx bb mz (nx bb mz u9))) (nx bb mz (nx bb mz (nx bb mz u9))) < P by have h9 := num_k h_18 (by omega) h_22; omega)
                  exact W.vret hx hb hr (fun t ht hW => ⟨⟨(nx bb mz (mSt bb mz (nx bb mz (nx bb mz (nx bb mz u9)))), 0, (mV bb mz (nx bb mz (nx bb mz (nx bb mz u9)))), ms2_227, upd fal (10 * (num bb (nf bb mz (nx bb mz u9)) (nx bb mz (nx bb mz u9))) + (num bb (nf bb mz (nx bb mz (nx bb mz u9))) (nx bb mz (nx bb mz (nx bb mz u9))))) (mV bb mz (nx bb mz (nx bb mz (nx bb mz u9)))), upd fau (10 * (num bb (nf bb mz (nx bb mz u9)) (nx bb mz (nx bb mz u9))) + (num bb (nf bb mz (nx bb mz (nx bb mz u9))) (nx bb mz (nx bb mz (nx bb mz u9))))) (mV bb mz (nx bb mz (nx bb mz (nx bb mz u9)))), upd fao (10 * (num bb (nf bb mz (nx bb mz u9)) (nx bb mz (nx bb mz u9))) + (num bb (nf bb mz (nx bb mz (nx bb mz u9))) (nx bb mz (nx bb mz (nx bb mz u9))))) 1), rfl, ⟨Or.inl ⟨(cif_pos (hc1.1)).trans ((cif_pos (⟨hc2.1, fun h => nc_26 ((hc2.2.symm.trans h).trans hc1.2.2)⟩)).trans ((cif_pos (h_43)).trans ((cif_neg (h_52)).trans (cif_neg (h_160))))), rfl, by omega, wy2_N (wyV2_n (b := bb) (z := mz) (u := u9) h_52) h_160 (congr (congrArg (fun a b => 10 * a + b) hc1.2.2.symm) hc2.2.symm) rfl, wy2_N (wyV2_n (b := bb) (z := mz) (u := u9) h_52) h_160 (congr (congrArg (fun a b => 10 * a + b) hc1.2.2.symm) hc2.2.symm) (wyHi_n (b := bb) (z := mz) (u := u9) h_52), wy2_N (wyV2_n (b := bb) (z := mz) (u := u9) h_52) h_160 (congr (congrArg (fun a b => 10 * a + b) hc1.2.2.symm) hc2.2.symm) rfl⟩, (by first | assumption | omega), i_228, i_229, i_230, i_231, i_232, i_233, i_234, i_235, i_236, i_237⟩, by rw [ht]; exact hP.sub [1, 2, 0] rfl, hD.sub [1, 2, 0] (by decide) rfl⟩, hS.F ht⟩) hS.2.2 dX9_wayItem_187 hlk
          · skip
            subst h_48
            subst h_49
            refine lv_aload_n hx hb dX9_wayItem_59 rfl (lv_at hl 2 rfl) ?_
            refine xg hF kf_X9_275 hK hP 1 rfl rfl dX9_wayItem_60 ?_
            refine lv_istore_n (lv' := [(3, .int v2_40), (2, .int (nI (num bb (nf bb mz (nx bb mz (nx bb mz u9))) (nx bb mz (nx bb mz (nx bb mz u9)))))), (1, .int (nI (num bb (nf bb mz (nx bb mz u9)) (nx bb mz (nx bb mz u9))))), (0, .ref h0)]) hx hb dX9_wayItem_63 rfl hl (by decide) rfl (fun ls hl => ?_)
            refine lv_aload_n hx hb dX9_wayItem_64 rfl (lv_at hl 3 rfl) ?_
            refine xg hF kf_X9_275 hK hP 1 rfl rfl dX9_wayItem_65 ?_
            refine lv_istore (lv' := [(4, .int v2_40), (3, .int v2_40), (2, .int (nI (num bb (nf bb mz (nx bb mz (nx bb mz u9))) (nx bb mz (nx bb mz (nx bb mz u9)))))), (1, .int (nI (num bb (nf bb mz (nx bb mz u9)) (nx bb mz (nx bb mz u9))))), (0, .ref h0)]) hx hb dX9_wayItem_68 hl (by decide) rfl (fun ls hl => ?_)
            refine lv_aload_n hx hb dX9_wayItem_70 rfl (lv_at hl 4 rfl) ?_
            refine lv_bipush (v := 116) hx hb dX9_wayItem_71 (by decide) ?_
            refine lv_bipush (v := 111) hx hb dX9_wayItem_73 (by decide) ?_
            refine lv_iconst (v := 0) hx hb dX9_wayItem_75 (by decide) ?_
            refine lv_iconst (v := 0) hx hb dX9_wayItem_76 (by decide) ?_
            refine lv_iconst (v := 0) hx hb dX9_wayItem_77 (by decide) ?_
            refine lv_iconst (v := 0) hx hb dX9_wayItem_78 (by decide) ?_
            refine lv_iconst (v := 0) hx hb dX9_wayItem_79 (by decide) ?_
            refine xc_Vr hF (c_X9_isWordW l D cI cJ cZ cS ta sa sv H.size h0 ys yk yo yt mk0 yfa yfe mL mS mM yro yhe ygr mF mC mY yta mz v2_40 ywa ybi ysi ynu ymo tp 116 111 0 0 0 0 0 (mSt bb mz (nx bb mz (nx bb mz (nx bb mz u9)))) bb (by omega) hbb (by omega)) kv_X9_290 ⟨rfl, rfl, Nat.le_of_ble_eq_true rfl, Nat.le_of_ble_eq_true rfl⟩ ⟨Nat.le_of_ble_eq_true rfl, Nat.le_of_ble_eq_true rfl⟩ hK hN hZ hP hD hS hA [1, 2] rfl rfl 0 rfl rfl rfl rfl hl.1 rfl (Nat.le_of_ble_eq_true rfl) dX9_wayItem_80 (fun r_242 hw_r_242 => ?_)
            subst hw_r_242
            refine lv_if_eq (tgt := 105) hx hb dX9_wayItem_83 (by decide) (fun c_243 => ?_) (fun c_243 => absurd (by decide) c_243)
            refine lv_aload_n hx hb dX9_wayItem_105 rfl (lv_at hl 4 rfl) ?_
            refine lv_bipush (v := 98) hx hb dX9_wayItem_106 (by decide) ?_
            refine lv_bipush (v := 97) hx hb dX9_wayItem_108 (by decide) ?_
            refine lv_bipush (v := 99) hx hb dX9_wayItem_110 (by decide) ?_
            refine lv_bipush (v := 107) hx hb dX9_wayItem_112 (by decide) ?_
            refine lv_iconst (v := 0) hx hb dX9_wayItem_114 (by decide) ?_
            refine lv_iconst (v := 0) hx hb dX9_wayItem_115 (by decide) ?_
            refine lv_iconst (v := 0) hx hb dX9_wayItem_116 (by decide) ?_
            refine xc_Vr hF (c_X9_isWordW l D cI cJ cZ cS ta sa sv H.size h0 ys yk yo yt mk0 yfa yfe mL mS mM yro yhe ygr mF mC mY yta mz v2_40 ywa ybi ysi ynu ymo tp 98 97 99 107 0 0 0 (mSt bb mz (nx bb mz (nx bb mz (nx bb mz u9)))) bb (by omega) hbb (by omega)) kv_X9_290 ⟨rfl, rfl, Nat.le_of_ble_eq_true rfl, Nat.le_of_ble_eq_true rfl⟩ ⟨Nat.le_of_ble_eq_true rfl, Nat.le_of_ble_eq_true rfl⟩ hK hN hZ hP hD hS hA [1, 2] rfl rfl 0 rfl rfl rfl rfl hl.1 rfl (Nat.le_of_ble_eq_true rfl) dX9_wayItem_117 (fun r_244 hw_r_244 => ?_)
            subst hw_r_244
            refine lv_istore (lv' := [(5, .int 0), (4, .int v2_40), (3, .int v2_40), (2, .int (nI (num bb (nf bb mz (nx bb mz (nx bb mz u9))) (nx bb mz (nx bb mz (nx bb mz u9)))))), (1, .int (nI (num bb (nf bb mz (nx bb mz u9)) (nx bb mz (nx bb mz u9))))), (0, .ref h0)]) hx hb dX9_wayItem_120 hl (by decide) rfl (fun ls hl => ?_)
            refine lv_iload hx hb dX9_wayItem_122 (lv_at hl 0 rfl) ?_
            refine lv_if_eq (tgt := 141) hx hb dX9_wayItem_124 (by decide) (fun c_245 => ?_) (fun c_245 => absurd (by decide) c_245)
            refine lv_aload_n hx hb dX9_wayItem_141 rfl (lv_at hl 5 rfl) ?_
            refine xg hF kf_X9_266 hK hP 1 rfl rfl dX9_wayItem_142 ?_
            refine lv_if_ne (tgt := 187) hx hb dX9_wayItem_145 (by decide) (fun c_246 => ?_) (fun c_246 => absurd c_246 (by decide))
            have hc1 := okR_N (by omega) h_10
            have hc2 := okN_of (P := P) (by omega) h_18 (show num bb (nf bb mz (nx bb mz (nx bb mz u9))) (nx bb mz (nx bb mz (nx bb mz u9))) < P by have h9 := num_k h_18 (by omega) h_22; omega)
            exact W.vret hx hb hr (fun t ht hW => ⟨⟨(mSt bb mz (nx bb mz (nx bb mz (nx bb mz u9))), 1, v2_40, ms, fal, fau, fao), rfl, ⟨Or.inr ⟨(cif_pos (hc1.1)).trans ((cif_pos (⟨hc2.1, fun h => nc_26 ((hc2.2.symm.trans h).trans hc1.2.2)⟩)).trans (cif_neg (h_47))), rfl⟩, (by first | assumption | omega), hs0, hs1, hs2, hsS, hsM, hsp, hsr, hsw, hsR, hsG⟩, by rw [ht]; exact hP.sub [1, 0, 2] rfl, hD.sub [1, 0, 2] (by decide) rfl⟩, hS.F ht⟩) hS.2.2 dX9_wayItem_187 hlk
      · skip
        refine lv_if_eq (tgt := 46) hx hb dX9_wayItem_34 (by decide) (fun c_247 => ?_) (fun c_247 => absurd (by decide) c_247)
        refine lv_iconst (v := 0) hx hb dX9_wayItem_46 (by decide) ?_
        refine xc_Vv (wr := [(ys, .inl (cI, 449, .inl ms))]) hF (c_X9_needs0 l D cI cJ cZ cS ta sa sv H.size h0 ys yk yo yt mk0 yfa yfe mL mS mM yro yhe ygr mF mC mY yta mz (nI (num bb (nf bb mz (nx bb mz u9)) (nx bb mz (nx bb mz u9)))) ywa ybi ysi ynu ymo tp (nx bb mz (nx bb mz u9)) bb (by omega) hbb (by omega)) kv_X9_278 ⟨rfl, rfl, Nat.le_of_ble_eq_true rfl, Nat.le_of_ble_eq_true rfl⟩ ⟨Nat.le_of_ble_eq_true rfl, Nat.le_of_ble_eq_true rfl⟩ hK hN hZ hP hD hS hA [1, 2] [0] rfl rfl rfl rfl (by decide) 0 rfl rfl rfl rfl hl.1 rfl (Nat.le_of_ble_eq_true rfl) dX9_wayItem_47 (fun u_r_248 H locs hw_r_248 hP hD hS => ?_)
        have hP : va_P D vwCl [(ys, .inl (cI, 449, .inl ms)), (h0, .inr (9, [.ref ys, .ref yk, .ref yo, .ref yt, .int mk0, .ref yfa, .ref yfe, .int mL, .int mS, .int mM, .ref yro, .ref yhe, .ref ygr, .int mF, .int mC, .int mY, .ref yta, .int (nI (mz)), .int (nI (nf bb mz (nx bb mz (nx bb mz u9)))), .int (nI (nx bb mz (nx bb mz (nx bb mz u9)))), .int (nI (num bb (nf bb mz (nx bb mz u9)) (nx bb mz (nx bb mz u9)))), .int 1, .ref ywa, .ref ybi, .ref ysi, .ref ynu, .ref ymo])), (yta, .inl (cI, 120, .inl tp))] H := hP
        have hD : va_D A [(ys, .inl (cI, 449, .inl ms)), (h0, .inr (9, [.ref ys, .ref yk, .ref yo, .ref yt, .int mk0, .ref yfa, .ref yfe, .int mL, .int mS, .int mM, .ref yro, .ref yhe, .ref ygr, .int mF, .int mC, .int mY, .ref yta, .int (nI (mz)), .int (nI (nf bb mz (nx bb mz (nx bb mz u9)))), .int (nI (nx bb mz (nx bb mz (nx bb mz u9)))), .int (nI (num bb (nf bb mz (nx bb mz u9)) (nx bb mz (nx bb mz u9)))), .int 1, .ref ywa, .ref ybi, .ref ysi, .ref ynu, .ref ymo])), (yta, .inl (cI, 120, .inl tp))] := hD
        refine lv_aload_n hx hb dX9_wayItem_50 rfl (lv_at hl 2 rfl) ?_
        refine lv_bipush (v := (-99)) hx hb dX9_wayItem_51 (by decide) ?_
        refine lv_sipush (v := 999) hx hb dX9_wayItem_53 (by decide) ?_
        refine xc_Vv (wr := [(ys, .inl (cI, 449, .inl ms))]) hF (c_X9_mileW l D cI cJ cZ cS ta sa sv H.size h0 ys yk yo yt mk0 yfa yfe mL mS mM yro yhe ygr mF mC mY yta mz (nI (num bb (nf bb mz (nx bb mz u9)) (nx bb mz (nx bb mz u9)))) ywa ybi ysi ynu ymo tp (-99) 999 (nx bb mz (nx bb mz u9)) bb (by omega) hbb (by omega)) kv_X9_287 ⟨rfl, rfl, Nat.le_of_ble_eq_true rfl, Nat.le_of_ble_eq_true rfl⟩ ⟨Nat.le_of_ble_eq_true rfl, Nat.le_of_ble_eq_true rfl⟩ hK hN hZ hP hD hS hA [1, 2] [0] rfl rfl rfl rfl (by decide) 0 rfl rfl rfl rfl hl.1 rfl (Nat.le_of_ble_eq_true rfl) dX9_wayItem_56 (fun u_r_249 H locs hw_r_249 hP hD hS => ?_)
        have hP : va_P D vwCl [(ys, .inl (cI, 449, .inl ms)), (h0, .inr (9, [.ref ys, .ref yk, .ref yo, .ref yt, .int mk0, .ref yfa, .ref yfe, .int mL, .int mS, .int mM, .ref yro, .ref yhe, .ref ygr, .int mF, .int mC, .int mY, .ref yta, .int (nI (mz)), .int (nI (nf bb mz (nx bb mz (nx bb mz u9)))), .int (nI (nx bb mz (nx bb mz (nx bb mz u9)))), .int (nI (num bb (nf bb mz (nx bb mz u9)) (nx bb mz (nx bb mz u9)))), .int 1, .ref ywa, .ref ybi, .ref ysi, .ref ynu, .ref ymo])), (yta, .inl (cI, 120, .inl tp))] H := hP
        have hD : va_D A [(ys, .inl (cI, 449, .inl ms)), (h0, .inr (9, [.ref ys, .ref yk, .ref yo, .ref yt, .int mk0, .ref yfa, .ref yfe, .int mL, .int mS, .int mM, .ref yro, .ref yhe, .ref ygr, .int mF, .int mC, .int mY, .ref yta, .int (nI (mz)), .int (nI (nf bb mz (nx bb mz (nx bb mz u9)))), .int (nI (nx bb mz (nx bb mz (nx bb mz u9)))), .int (nI (num bb (nf bb mz (nx bb mz u9)) (nx bb mz (nx bb mz u9)))), .int 1, .ref ywa, .ref ybi, .ref ysi, .ref ynu, .ref ymo])), (yta, .inl (cI, 120, .inl tp))] := hD
        refine lv_aload_n hx hb dX9_wayItem_59 rfl (lv_at hl 2 rfl) ?_
        refine xg hF kf_X9_275 hK hP 1 rfl rfl dX9_wayItem_60 ?_
        refine lv_istore_n (lv' := [(3, .int (nI (num bb (nf bb mz (nx bb mz u9)) (nx bb mz (nx bb mz u9))))), (2, .int (nI (num bb (nf bb mz (nx bb mz (nx bb mz u9))) (nx bb mz (nx bb mz (nx bb mz u9)))))), (1, .int (nI (num bb (nf bb mz (nx bb mz u9)) (nx bb mz (nx bb mz u9))))), (0, .ref h0)]) hx hb dX9_wayItem_63 rfl hl (by decide) rfl (fun ls hl => ?_)
        refine lv_aload_n hx hb dX9_wayItem_64 rfl (lv_at hl 3 rfl) ?_
        refine xg hF kf_X9_275 hK hP 1 rfl rfl dX9_wayItem_65 ?_
        refine lv_istore (lv' := [(4, .int (nI (num bb (nf bb mz (nx bb mz u9)) (nx bb mz (nx bb mz u9))))), (3, .int (nI (num bb (nf bb mz (nx bb mz u9)) (nx bb mz (nx bb mz u9))))), (2, .int (nI (num bb (nf bb mz (nx bb mz (nx bb mz u9))) (nx bb mz (nx bb mz (nx bb mz u9)))))), (1, .int (nI (num bb (nf bb mz (nx bb mz u9)) (nx bb mz (nx bb mz u9))))), (0, .ref h0)]) hx hb dX9_wayItem_68 hl (by decide) rfl (fun ls hl => ?_)
        refine lv_aload_n hx hb dX9_wayItem_70 rfl (lv_at hl 4 rfl) ?_
        refine lv_bipush (v := 116) hx hb dX9_wayItem_71 (by decide) ?_
        refine lv_bipush (v := 111) hx hb dX9_wayItem_73 (by decide) ?_
        refine lv_iconst (v := 0) hx hb dX9_wayItem_75 (by decide) ?_
        refine lv_iconst (v := 0) hx hb dX9_wayItem_76 (by decide) ?_
        refine lv_iconst (v := 0) hx hb dX9_wayItem_77 (by decide) ?_
        refine lv_iconst (v := 0) hx hb dX9_wayItem_78 (by decide) ?_
        refine lv_iconst (v := 0) hx hb dX9_wayItem_79 (by decide) ?_
        refine xc_Vr hF (c_X9_isWordW l D cI cJ cZ cS ta sa sv H.size h0 ys yk yo yt mk0 yfa yfe mL mS mM yro yhe ygr mF mC mY yta mz (nI (num bb (nf bb mz (nx bb mz u9)) (nx bb mz (nx bb mz u9)))) ywa ybi ysi ynu ymo tp 116 111 0 0 0 0 0 (nx bb mz (nx bb mz u9)) bb (by omega) hbb (by omega)) kv_X9_290 ⟨rfl, rfl, Nat.le_of_ble_eq_true rfl, Nat.le_of_ble_eq_true rfl⟩ ⟨Nat.le_of_ble_eq_true rfl, Nat.le_of_ble_eq_true rfl⟩ hK hN hZ hP hD hS hA [1, 2] rfl rfl 0 rfl rfl rfl rfl hl.1 rfl (Nat.le_of_ble_eq_true rfl) dX9_wayItem_80 (fun r_250 hw_r_250 => ?_)
        subst hw_r_250
        refine lv_if_eq (tgt := 105) hx hb dX9_wayItem_83 (by decide) (fun c_251 => ?_) (fun c_251 => absurd (by decide) c_251)
        refine lv_aload_n hx hb dX9_wayItem_105 rfl (lv_at hl 4 rfl) ?_
        refine lv_bipush (v := 98) hx hb dX9_wayItem_106 (by decide) ?_
        refine lv_bipush (v := 97) hx hb dX9_wayItem_108 (by decide) ?_
        refine lv_bipush (v := 99) hx hb dX9_wayItem_110 (by decide) ?_
        refine lv_bipush (v := 107) hx hb dX9_wayItem_112 (by decide) ?_
        refine lv_iconst (v := 0) hx hb dX9_wayItem_114 (by decide) ?_
        refine lv_iconst (v := 0) hx hb dX9_wayItem_115 (by decide) ?_
        refine lv_iconst (v := 0) hx hb dX9_wayItem_116 (by decide) ?_
        refine xc_Vr hF (c_X9_isWordW l D cI cJ cZ cS ta sa sv H.size h0 ys yk yo yt mk0 yfa yfe mL mS mM yro yhe ygr mF mC mY yta mz (nI (num bb (nf bb mz (nx bb mz u9)) (nx bb mz (nx bb mz u9)))) ywa ybi ysi ynu ymo tp 98 97 99 107 0 0 0 (nx bb mz (nx bb mz u9)) bb (by omega) hbb (by omega)) kv_X9_290 ⟨rfl, rfl, Nat.le_of_ble_eq_true rfl, Nat.le_of_ble_eq_true rfl⟩ ⟨Nat.le_of_ble_eq_true rfl, Nat.le_of_ble_eq_true rfl⟩ hK hN hZ hP hD hS hA [1, 2] rfl rfl 0 rfl rfl rfl rfl hl.1 rfl (Nat.le_of_ble_eq_true rfl) dX9_wayItem_117 (fun r_252 hw_r_252 => ?_)
        subst hw_r_252
        refine lv_istore (lv' := [(5, .int 0), (4, .int (nI (num bb (nf bb mz (nx bb mz u9)) (nx bb mz (nx bb mz u9))))), (3, .int (nI (num bb (nf bb mz (nx bb mz u9)) (nx bb mz (nx bb mz u9))))), (2, .int (nI (num bb (nf bb mz (nx bb mz (nx bb mz u9))) (nx bb mz (nx bb mz (nx bb mz u9)))))), (1, .int (nI (num bb (nf bb mz (nx bb mz u9)) (nx bb mz (nx bb mz u9))))), (0, .ref h0)]) hx hb dX9_wayItem_120 hl (by decide) rfl (fun ls hl => ?_)
        refine lv_iload hx hb dX9_wayItem_122 (lv_at hl 0 rfl) ?_
        refine lv_if_eq (tgt := 141) hx hb dX9_wayItem_124 (by decide) (fun c_253 => ?_) (fun c_253 => absurd (by decide) c_253)
        refine lv_aload_n hx hb dX9_wayItem_141 rfl (lv_at hl 5 rfl) ?_
        refine xg hF kf_X9_266 hK hP 1 rfl rfl dX9_wayItem_142 ?_
        refine lv_if_ne (tgt := 187) hx hb dX9_wayItem_145 (by decide) (fun c_254 => ?_) (fun c_254 => absurd c_254 (by decide))
        have hc1 := okR_N (by omega) h_10
        exact W.vret hx hb hr (fun t ht hW => ⟨⟨(nx bb mz (nx bb mz u9), 1, (nI (num bb (nf bb mz (nx bb mz u9)) (nx bb mz (nx bb mz u9)))), ms, fal, fau, fao), rfl, ⟨Or.inr ⟨(cif_pos (hc1.1)).trans (cif_neg (fun h => h_24 (okN_isP (by omega) h.1))), rfl⟩, (by first | assumption | omega), hs0, hs1, hs2, hsS, hsM, hsp, hsr, hsw, hsR, hsG⟩, by rw [ht]; exact hP.sub [1, 0, 2] rfl, hD.sub [1, 0, 2] (by decide) rfl⟩, hS.F ht⟩) hS.2.2 dX9_wayItem_187 hlk
    · skip
      refine lv_istore_n (lv' := [(2, .int (-1)), (1, .int (nI (num bb (nf bb mz (nx bb mz u9)) (nx bb mz (nx bb mz u9))))), (0, .ref h0)]) hx hb dX9_wayItem_27 rfl hl (by decide) rfl (fun ls hl => ?_)
      refine lv_aload_n hx hb dX9_wayItem_28 rfl (lv_at hl 2 rfl) ?_
      refine lv_aload_n hx hb dX9_wayItem_29 rfl (lv_at hl 2 rfl) ?_
      refine lv_iload_n hx hb dX9_wayItem_30 rfl (lv_at hl 0 rfl) ?_
      refine xc_Vr hF (c_X9_isPlaceM l D cI cJ cZ cS ta sa sv H.size h0 ys yk yo yt mk0 yfa yfe mL mS mM yro yhe ygr mF mC mY yta mz (nf bb mz (nx bb mz (nx bb mz u9))) (nx bb mz (nx bb mz (nx bb mz u9))) (nI (num bb (nf bb mz (nx bb mz u9)) (nx bb mz (nx bb mz u9)))) 0 ywa ybi ysi ynu ymo ms P Rn Wn fae fal fau fao farn farp fak fawn fawp fat fas hs0 hs1 hs2 hsS hsM hsp hsr hsw hsR hsG) kv_X9_61 ⟨rfl, rfl, Nat.le_of_ble_eq_true rfl, Nat.le_of_ble_eq_true rfl⟩ ⟨Nat.le_of_ble_eq_true rfl, Nat.le_of_ble_eq_true rfl⟩ hK hN hZ hP hD hS hA [1, 0] rfl rfl 0 rfl rfl rfl rfl hl.1 rfl (Nat.le_of_ble_eq_true rfl) dX9_wayItem_31 (fun r_255 hw_r_255 => ?_)
      subst hw_r_255
      refine lv_if_eq (tgt := 46) hx hb dX9_wayItem_34 (by decide) (fun c_256 => ?_) (fun c_256 => absurd (by decide) c_256)
      refine lv_iconst (v := 0) hx hb dX9_wayItem_46 (by decide) ?_
      refine xc_Vv (wr := [(ys, .inl (cI, 449, .inl ms))]) hF (c_X9_needs0 l D cI cJ cZ cS ta sa sv H.size h0 ys yk yo yt mk0 yfa yfe mL mS mM yro yhe ygr mF mC mY yta mz (nI (num bb (nf bb mz (nx bb mz u9)) (nx bb mz (nx bb mz u9)))) ywa ybi ysi ynu ymo tp (nx bb mz (nx bb mz u9)) bb (by omega) hbb (by omega)) kv_X9_278 ⟨rfl, rfl, Nat.le_of_ble_eq_true rfl, Nat.le_of_ble_eq_true rfl⟩ ⟨Nat.le_of_ble_eq_true rfl, Nat.le_of_ble_eq_true rfl⟩ hK hN hZ hP hD hS hA [1, 2] [0] rfl rfl rfl rfl (by decide) 0 rfl rfl rfl rfl hl.1 rfl (Nat.le_of_ble_eq_true rfl) dX9_wayItem_47 (fun u_r_257 H locs hw_r_257 hP hD hS => ?_)
      have hP : va_P D vwCl [(ys, .inl (cI, 449, .inl ms)), (h0, .inr (9, [.ref ys, .ref yk, .ref yo, .ref yt, .int mk0, .ref yfa, .ref yfe, .int mL, .int mS, .int mM, .ref yro, .ref yhe, .ref ygr, .int mF, .int mC, .int mY, .ref yta, .int (nI (mz)), .int (nI (nf bb mz (nx bb mz (nx bb mz u9)))), .int (nI (nx bb mz (nx bb mz (nx bb mz u9)))), .int (nI (num bb (nf bb mz (nx bb mz u9)) (nx bb mz (nx bb mz u9)))), .int 1, .ref ywa, .ref ybi, .ref ysi, .ref ynu, .ref ymo])), (yta, .inl (cI, 120, .inl tp))] H := hP
      have hD : va_D A [(ys, .inl (cI, 449, .inl ms)), (h0, .inr (9, [.ref ys, .ref yk, .ref yo, .ref yt, .int mk0, .ref yfa, .ref yfe, .int mL, .int mS, .int mM, .ref yro, .ref yhe, .ref ygr, .int mF, .int mC, .int mY, .ref yta, .int (nI (mz)), .int (nI (nf bb mz (nx bb mz (nx bb mz u9)))), .int (nI (nx bb mz (nx bb mz (nx bb mz u9)))), .int (nI (num bb (nf bb mz (nx bb mz u9)) (nx bb mz (nx bb mz u9)))), .int 1, .ref ywa, .ref ybi, .ref ysi, .ref ynu, .ref ymo])), (yta, .inl (cI, 120, .inl tp))] := hD
      refine lv_aload_n hx hb dX9_wayItem_50 rfl (lv_at hl 2 rfl) ?_
      refine lv_bipush (v := (-99)) hx hb dX9_wayItem_51 (by decide) ?_
      refine lv_sipush (v := 999) hx hb dX9_wayItem_53 (by decide) ?_
      refine xc_Vv (wr := [(ys, .inl (cI, 449, .inl ms))]) hF (c_X9_mileW l D cI cJ cZ cS ta sa sv H.size h0 ys yk yo yt mk0 yfa yfe mL mS mM yro yhe ygr mF mC mY yta mz (nI (num bb (nf bb mz (nx bb mz u9)) (nx bb mz (nx bb mz u9)))) ywa ybi ysi ynu ymo tp (-99) 999 (nx bb mz (nx bb mz u9)) bb (by omega) hbb (by omega)) kv_X9_287 ⟨rfl, rfl, Nat.le_of_ble_eq_true rfl, Nat.le_of_ble_eq_true rfl⟩ ⟨Nat.le_of_ble_eq_true rfl, Nat.le_of_ble_eq_true rfl⟩ hK hN hZ hP hD hS hA [1, 2] [0] rfl rfl rfl rfl (by decide) 0 rfl rfl rfl rfl hl.1 rfl (Nat.le_of_ble_eq_true rfl) dX9_wayItem_56 (fun u_r_258 H locs hw_r_258 hP hD hS => ?_)
      have hP : va_P D vwCl [(ys, .inl (cI, 449, .inl ms)), (h0, .inr (9, [.ref ys, .ref yk, .ref yo, .ref yt, .int mk0, .ref yfa, .ref yfe, .int mL, .int mS, .int mM, .ref yro, .ref yhe, .ref ygr, .int mF, .int mC, .int mY, .ref yta, .int (nI (mz)), .int (nI (nf bb mz (nx bb mz (nx bb mz u9)))), .int (nI (nx bb mz (nx bb mz (nx bb mz u9)))), .int (nI (num bb (nf bb mz (nx bb mz u9)) (nx bb mz (nx bb mz u9)))), .int 1, .ref ywa, .ref ybi, .ref ysi, .ref ynu, .ref ymo])), (yta, .inl (cI, 120, .inl tp))] H := hP
      have hD : va_D A [(ys, .inl (cI, 449, .inl ms)), (h0, .inr (9, [.ref ys, .ref yk, .ref yo, .ref yt, .int mk0, .ref yfa, .ref yfe, .int mL, .int mS, .int mM, .ref yro, .ref yhe, .ref ygr, .int mF, .int mC, .int mY, .ref yta, .int (nI (mz)), .int (nI (nf bb mz (nx bb mz (nx bb mz u9)))), .int (nI (nx bb mz (nx bb mz (nx bb mz u9)))), .int (nI (num bb (nf bb mz (nx bb mz u9)) (nx bb mz (nx bb mz u9)))), .int 1, .ref ywa, .ref ybi, .ref ysi, .ref ynu, .ref ymo])), (yta, .inl (cI, 120, .inl tp))] := hD
      refine lv_aload_n hx hb dX9_wayItem_59 rfl (lv_at hl 2 rfl) ?_
      refine xg hF kf_X9_275 hK hP 1 rfl rfl dX9_wayItem_60 ?_
      refine lv_istore_n (lv' := [(3, .int (nI (num bb (nf bb mz (nx bb mz u9)) (nx bb mz (nx bb mz u9))))), (2, .int (-1)), (1, .int (nI (num bb (nf bb mz (nx bb mz u9)) (nx bb mz (nx bb mz u9))))), (0, .ref h0)]) hx hb dX9_wayItem_63 rfl hl (by decide) rfl (fun ls hl => ?_)
      refine lv_aload_n hx hb dX9_wayItem_64 rfl (lv_at hl 3 rfl) ?_
      refine xg hF kf_X9_275 hK hP 1 rfl rfl dX9_wayItem_65 ?_
      refine lv_istore (lv' := [(4, .int (nI (num bb (nf bb mz (nx bb mz u9)) (nx bb mz (nx bb mz u9))))), (3, .int (nI (num bb (nf bb mz (nx bb mz u9)) (nx bb mz (nx bb mz u9))))), (2, .int (-1)), (1, .int (nI (num bb (nf bb mz (nx bb mz u9)) (nx bb mz (nx bb mz u9))))), (0, .ref h0)]) hx hb dX9_wayItem_68 hl (by decide) rfl (fun ls hl => ?_)
      refine lv_aload_n hx hb dX9_wayItem_70 rfl (lv_at hl 4 rfl) ?_
      refine lv_bipush (v := 116) hx hb dX9_wayItem_71 (by decide) ?_
      refine lv_bipush (v := 111) hx hb dX9_wayItem_73 (by decide) ?_
      refine lv_iconst (v := 0) hx hb dX9_wayItem_75 (by decide) ?_
      refine lv_iconst (v := 0) hx hb dX9_wayItem_76 (by decide) ?_
      refine lv_iconst (v := 0) hx hb dX9_wayItem_77 (by decide) ?_
      refine lv_iconst (v := 0) hx hb dX9_wayItem_78 (by decide) ?_
      refine lv_iconst (v := 0) hx hb dX9_wayItem_79 (by decide) ?_
      refine xc_Vr hF (c_X9_isWordW l D cI cJ cZ cS ta sa sv H.size h0 ys yk yo yt mk0 yfa yfe mL mS mM yro yhe ygr mF mC mY yta mz (nI (num bb (nf bb mz (nx bb mz u9)) (nx bb mz (nx bb mz u9)))) ywa ybi ysi ynu ymo tp 116 111 0 0 0 0 0 (nx bb mz (nx bb mz u9)) bb (by omega) hbb (by omega)) kv_X9_290 ⟨rfl, rfl, Nat.le_of_ble_eq_true rfl, Nat.le_of_ble_eq_true rfl⟩ ⟨Nat.le_of_ble_eq_true rfl, Nat.le_of_ble_eq_true rfl⟩ hK hN hZ hP hD hS hA [1, 2] rfl rfl 0 rfl rfl rfl rfl hl.1 rfl (Nat.le_of_ble_eq_true rfl) dX9_wayItem_80 (fun r_259 hw_r_259 => ?_)
      subst hw_r_259
      refine lv_if_eq (tgt := 105) hx hb dX9_wayItem_83 (by decide) (fun c_260 => ?_) (fun c_260 => absurd (by decide) c_260)
      refine lv_aload_n hx hb dX9_wayItem_105 rfl (lv_at hl 4 rfl) ?_
      refine lv_bipush (v := 98) hx hb dX9_wayItem_106 (by decide) ?_
      refine lv_bipush (v := 97) hx hb dX9_wayItem_108 (by decide) ?_
      refine lv_bipush (v := 99) hx hb dX9_wayItem_110 (by decide) ?_
      refine lv_bipush (v := 107) hx hb dX9_wayItem_112 (by decide) ?_
      refine lv_iconst (v := 0) hx hb dX9_wayItem_114 (by decide) ?_
      refine lv_iconst (v := 0) hx hb dX9_wayItem_115 (by decide) ?_
      refine lv_iconst (v := 0) hx hb dX9_wayItem_116 (by decide) ?_
      refine xc_Vr hF (c_X9_isWordW l D cI cJ cZ cS ta sa sv H.size h0 ys yk yo yt mk0 yfa yfe mL mS mM yro yhe ygr mF mC mY yta mz (nI (num bb (nf bb mz (nx bb mz u9)) (nx bb mz (nx bb mz u9)))) ywa ybi ysi ynu ymo tp 98 97 99 107 0 0 0 (nx bb mz (nx bb mz u9)) bb (by omega) hbb (by omega)) kv_X9_290 ⟨rfl, rfl, Nat.le_of_ble_eq_true rfl, Nat.le_of_ble_eq_true rfl⟩ ⟨Nat.le_of_ble_eq_true rfl, Nat.le_of_ble_eq_true rfl⟩ hK hN hZ hP hD hS hA [1, 2] rfl rfl 0 rfl rfl rfl rfl hl.1 rfl (Nat.le_of_ble_eq_true rfl) dX9_wayItem_117 (fun r_261 hw_r_261 => ?_)
      subst hw_r_261
      refine lv_istore (lv' := [(5, .int 0), (4, .int (nI (num bb (nf bb mz (nx bb mz u9)) (nx bb mz (nx bb mz u9))))), (3, .int (nI (num bb (nf bb mz (nx bb mz u9)) (nx bb mz (nx bb mz u9))))), (2, .int (-1)), (1, .int (nI (num bb (nf bb mz (nx bb mz u9)) (nx bb mz (nx bb mz u9))))), (0, .ref h0)]) hx hb dX9_wayItem_120 hl (by decide) rfl (fun ls hl => ?_)
      refine lv_iload hx hb dX9_wayItem_122 (lv_at hl 0 rfl) ?_
      refine lv_if_eq (tgt := 141) hx hb dX9_wayItem_124 (by decide) (fun c_262 => ?_) (fun c_262 => absurd (by decide) c_262)
      refine lv_aload_n hx hb dX9_wayItem_141 rfl (lv_at hl 5 rfl) ?_
      refine xg hF kf_X9_266 hK hP 1 rfl rfl dX9_wayItem_142 ?_
      refine lv_if_ne (tgt := 187) hx hb dX9_wayItem_145 (by decide) (fun c_263 => ?_) (fun c_263 => absurd c_263 (by decide))
      have hc1 := okR_N (by omega) h_10
      exact W.vret hx hb hr (fun t ht hW => ⟨⟨(nx bb mz (nx bb mz u9), 1, (nI (num bb (nf bb mz (nx bb mz u9)) (nx bb mz (nx bb mz u9)))), ms, fal, fau, fao), rfl, ⟨Or.inr ⟨(cif_pos (hc1.1)).trans (cif_neg (fun h => h_19 h.1.1)), rfl⟩, (by first | assumption | omega), hs0, hs1, hs2, hsS, hsM, hsp, hsr, hsw, hsR, hsG⟩, by rw [ht]; exact hP.sub [1, 0, 2] rfl, hD.sub [1, 0, 2] (by decide) rfl⟩, hS.F ht⟩) hS.2.2 dX9_wayItem_187 hlk
  · skip
    subst h_15
    subst h_16
    refine lv_aload_n hx hb dX9_wayItem_18 rfl (lv_at hl 0 rfl) ?_
    refine xg hF kf_X9_275 hK hP 1 rfl rfl dX9_wayItem_19 ?_
    refine lv_istore_n (lv' := [(1, .int v2_7), (0, .ref h0)]) hx hb dX9_wayItem_22 rfl hl (by decide) rfl (fun ls hl => ?_)
    refine lv_aload_n hx hb dX9_wayItem_23 rfl (lv_at hl 1 rfl) ?_
    refine xc_Vr hF (c_X9_numberHereW l D cI cJ cZ cS ta sa sv H.size h0 ys yk yo yt mk0 yfa yfe mL mS mM yro yhe ygr mF mC mY yta mz v2_7 ywa ybi ysi ynu ymo tp (nx bb mz u9) bb (by omega) hbb (by omega)) kv_X9_284 ⟨rfl, rfl, Nat.le_of_ble_eq_true rfl, Nat.le_of_ble_eq_true rfl⟩ ⟨Nat.le_of_ble_eq_true rfl, Nat.le_of_ble_eq_true rfl⟩ hK hN hZ hP hD hS hA [1, 2] rfl rfl 0 rfl rfl rfl rfl hl.1 rfl (Nat.le_of_ble_eq_true rfl) dX9_wayItem_24 (fun r_264 hw_r_264 => ?_)
    subst hw_r_264
    refine lv_istore_n (lv' := [(2, .int (-1)), (1, .int v2_7), (0, .ref h0)]) hx hb dX9_wayItem_27 rfl hl (by decide) rfl (fun ls hl => ?_)
    refine lv_aload_n hx hb dX9_wayItem_28 rfl (lv_at hl 2 rfl) ?_
    refine lv_aload_n hx hb dX9_wayItem_29 rfl (lv_at hl 2 rfl) ?_
    refine lv_iload_n hx hb dX9_wayItem_30 rfl (lv_at hl 0 rfl) ?_
    refine xc_Vr hF (c_X9_isPlaceM l D cI cJ cZ cS ta sa sv H.size h0 ys yk yo yt mk0 yfa yfe mL mS mM yro yhe ygr mF mC mY yta mz (nf bb mz (nx bb mz u9)) (nx bb mz (nx bb mz u9)) v2_7 1 ywa ybi ysi ynu ymo ms P Rn Wn fae fal fau fao farn farp fak fawn fawp fat fas hs0 hs1 hs2 hsS hsM hsp hsr hsw hsR hsG) kv_X9_61 ⟨rfl, rfl, Nat.le_of_ble_eq_true rfl, Nat.le_of_ble_eq_true rfl⟩ ⟨Nat.le_of_ble_eq_true rfl, Nat.le_of_ble_eq_true rfl⟩ hK hN hZ hP hD hS hA [1, 0] rfl rfl 0 rfl rfl rfl rfl hl.1 rfl (Nat.le_of_ble_eq_true rfl) dX9_wayItem_31 (fun r_265 hw_r_265 => ?_)
    subst hw_r_265
    refine lv_if_eq (tgt := 46) hx hb dX9_wayItem_34 (by decide) (fun c_266 => ?_) (fun c_266 => absurd (by decide) c_266)
    refine lv_iconst (v := 0) hx hb dX9_wayItem_46 (by decide) ?_
    refine xc_Vv (wr := [(ys, .inl (cI, 449, .inl ms))]) hF (c_X9_needsW l D cI cJ cZ cS ta sa sv H.size h0 ys yk yo yt mk0 yfa yfe mL mS mM yro yhe ygr mF mC mY yta mz v2_7 ywa ybi ysi ynu ymo tp 0 (nx bb mz u9) bb (by omega) hbb (by omega)) kv_X9_278 ⟨rfl, rfl, Nat.le_of_ble_eq_true rfl, Nat.le_of_ble_eq_true rfl⟩ ⟨Nat.le_of_ble_eq_true rfl, Nat.le_of_ble_eq_true rfl⟩ hK hN hZ hP hD hS hA [1, 2] [0] rfl rfl rfl rfl (by decide) 0 rfl rfl rfl rfl hl.1 rfl (Nat.le_of_ble_eq_true rfl) dX9_wayItem_47 (fun u_r_267 H locs hw_r_267 hP hD hS => ?_)
    have hP : va_P D vwCl [(ys, .inl (cI, 449, .inl ms)), (h0, .inr (9, [.ref ys, .ref yk, .ref yo, .ref yt, .int mk0, .ref yfa, .ref yfe, .int mL, .int mS, .int mM, .ref yro, .ref yhe, .ref ygr, .int mF, .int mC, .int mY, .ref yta, .int (nI (mz)), .int (nI (nf bb mz (nx bb mz u9))), .int (nI (nx bb mz (nx bb mz u9))), .int v2_7, .int 1, .ref ywa, .ref ybi, .ref ysi, .ref ynu, .ref ymo])), (yta, .inl (cI, 120, .inl tp))] H := hP
    have hD : va_D A [(ys, .inl (cI, 449, .inl ms)), (h0, .inr (9, [.ref ys, .ref yk, .ref yo, .ref yt, .int mk0, .ref yfa, .ref yfe, .int mL, .int mS, .int mM, .ref yro, .ref yhe, .ref ygr, .int mF, .int mC, .int mY, .ref yta, .int (nI (mz)), .int (nI (nf bb mz (nx bb mz u9))), .int (nI (nx bb mz (nx bb mz u9))), .int v2_7, .int 1, .ref ywa, .ref ybi, .ref ysi, .ref ynu, .ref ymo])), (yta, .inl (cI, 120, .inl tp))] := hD
    refine lv_aload_n hx hb dX9_wayItem_50 rfl (lv_at hl 2 rfl) ?_
    refine lv_bipush (v := (-99)) hx hb dX9_wayItem_51 (by decide) ?_
    refine lv_sipush (v := 999) hx hb dX9_wayItem_53 (by decide) ?_
    refine xc_Vv (wr := [(ys, .inl (cI, 449, .inl ms))]) hF (c_X9_mileW l D cI cJ cZ cS ta sa sv H.size h0 ys yk yo yt mk0 yfa yfe mL mS mM yro yhe ygr mF mC mY yta mz v2_7 ywa ybi ysi ynu ymo tp (-99) 999 (nx bb mz u9) bb (by omega) hbb (by omega)) kv_X9_287 ⟨rfl, rfl, Nat.le_of_ble_eq_true rfl, Nat.le_of_ble_eq_true rfl⟩ ⟨Nat.le_of_ble_eq_true rfl, Nat.le_of_ble_eq_true rfl⟩ hK hN hZ hP hD hS hA [1, 2] [0] rfl rfl rfl rfl (by decide) 0 rfl rfl rfl rfl hl.1 rfl (Nat.le_of_ble_eq_true rfl) dX9_wayItem_56 (fun u_r_268 H locs hw_r_268 hP hD hS => ?_)
    have hP : va_P D vwCl [(ys, .inl (cI, 449, .inl ms)), (h0, .inr (9, [.ref ys, .ref yk, .ref yo, .ref yt, .int mk0, .ref yfa, .ref yfe, .int mL, .int mS, .int mM, .ref yro, .ref yhe, .ref ygr, .int mF, .int mC, .int mY, .ref yta, .int (nI (mz)), .int (nI (nf bb mz (nx bb mz u9))), .int (nI (nx bb mz (nx bb mz u9))), .int v2_7, .int 1, .ref ywa, .ref ybi, .ref ysi, .ref ynu, .ref ymo])), (yta, .inl (cI, 120, .inl tp))] H := hP
    have hD : va_D A [(ys, .inl (cI, 449, .inl ms)), (h0, .inr (9, [.ref ys, .ref yk, .ref yo, .ref yt, .int mk0, .ref yfa, .ref yfe, .int mL, .int mS, .int mM, .ref yro, .ref yhe, .ref ygr, .int mF, .int mC, .int mY, .ref yta, .int (nI (mz)), .int (nI (nf bb mz (nx bb mz u9))), .int (nI (nx bb mz (nx bb mz u9))), .int v2_7, .int 1, .ref ywa, .ref ybi, .ref ysi, .ref ynu, .ref ymo])), (yta, .inl (cI, 120, .inl tp))] := hD
    refine lv_aload_n hx hb dX9_wayItem_59 rfl (lv_at hl 2 rfl) ?_
    refine xg hF kf_X9_275 hK hP 1 rfl rfl dX9_wayItem_60 ?_
    refine lv_istore_n (lv' := [(3, .int v2_7), (2, .int (-1)), (1, .int v2_7), (0, .ref h0)]) hx hb dX9_wayItem_63 rfl hl (by decide) rfl (fun ls hl => ?_)
    refine lv_aload_n hx hb dX9_wayItem_64 rfl (lv_at hl 3 rfl) ?_
    refine xg hF kf_X9_275 hK hP 1 rfl rfl dX9_wayItem_65 ?_
    refine lv_istore (lv' := [(4, .int v2_7), (3, .int v2_7), (2, .int (-1)), (1, .int v2_7), (0, .ref h0)]) hx hb dX9_wayItem_68 hl (by decide) rfl (fun ls hl => ?_)
    refine lv_aload_n hx hb dX9_wayItem_70 rfl (lv_at hl 4 rfl) ?_
    refine lv_bipush (v := 116) hx hb dX9_wayItem_71 (by decide) ?_
    refine lv_bipush (v := 111) hx hb dX9_wayItem_73 (by decide) ?_
    refine lv_iconst (v := 0) hx hb dX9_wayItem_75 (by decide) ?_
    refine lv_iconst (v := 0) hx hb dX9_wayItem_76 (by decide) ?_
    refine lv_iconst (v := 0) hx hb dX9_wayItem_77 (by decide) ?_
    refine lv_iconst (v := 0) hx hb dX9_wayItem_78 (by decide) ?_
    refine lv_iconst (v := 0) hx hb dX9_wayItem_79 (by decide) ?_
    refine xc_Vr hF (c_X9_isWordW l D cI cJ cZ cS ta sa sv H.size h0 ys yk yo yt mk0 yfa yfe mL mS mM yro yhe ygr mF mC mY yta mz v2_7 ywa ybi ysi ynu ymo tp 116 111 0 0 0 0 0 (nx bb mz u9) bb (by omega) hbb (by omega)) kv_X9_290 ⟨rfl, rfl, Nat.le_of_ble_eq_true rfl, Nat.le_of_ble_eq_true rfl⟩ ⟨Nat.le_of_ble_eq_true rfl, Nat.le_of_ble_eq_true rfl⟩ hK hN hZ hP hD hS hA [1, 2] rfl rfl 0 rfl rfl rfl rfl hl.1 rfl (Nat.le_of_ble_eq_true rfl) dX9_wayItem_80 (fun r_269 hw_r_269 => ?_)
    subst hw_r_269
    refine lv_if_eq (tgt := 105) hx hb dX9_wayItem_83 (by decide) (fun c_270 => ?_) (fun c_270 => absurd (by decide) c_270)
    refine lv_aload_n hx hb dX9_wayItem_105 rfl (lv_at hl 4 rfl) ?_
    refine lv_bipush (v := 98) hx hb dX9_wayItem_106 (by decide) ?_
    refine lv_bipush (v := 97) hx hb dX9_wayItem_108 (by decide) ?_
    refine lv_bipush (v := 99) hx hb dX9_wayItem_110 (by decide) ?_
    refine lv_bipush (v := 107) hx hb dX9_wayItem_112 (by decide) ?_
    refine lv_iconst (v := 0) hx hb dX9_wayItem_114 (by decide) ?_
    refine lv_iconst (v := 0) hx hb dX9_wayItem_115 (by decide) ?_
    refine lv_iconst (v := 0) hx hb dX9_wayItem_116 (by decide) ?_
    refine xc_Vr hF (c_X9_isWordW l D cI cJ cZ cS ta sa sv H.size h0 ys yk yo yt mk0 yfa yfe mL mS mM yro yhe ygr mF mC mY yta mz v2_7 ywa ybi ysi ynu ymo tp 98 97 99 107 0 0 0 (nx bb mz u9) bb (by omega) hbb (by omega)) kv_X9_290 ⟨rfl, rfl, Nat.le_of_ble_eq_true rfl, Nat.le_of_ble_eq_true rfl⟩ ⟨Nat.le_of_ble_eq_true rfl, Nat.le_of_ble_eq_true rfl⟩ hK hN hZ hP hD hS hA [1, 2] rfl rfl 0 rfl rfl rfl rfl hl.1 rfl (Nat.le_of_ble_eq_true rfl) dX9_wayItem_117 (fun r_271 hw_r_271 => ?_)
    subst hw_r_271
    refine lv_istore (lv' := [(5, .int 0), (4, .int v2_7), (3, .int v2_7), (2, .int (-1)), (1, .int v2_7), (0, .ref h0)]) hx hb dX9_wayItem_120 hl (by decide) rfl (fun ls hl => ?_)
    refine lv_iload hx hb dX9_wayItem_122 (lv_at hl 0 rfl) ?_
    refine lv_if_eq (tgt := 141) hx hb dX9_wayItem_124 (by decide) (fun c_272 => ?_) (fun c_272 => absurd (by decide) c_272)
    refine lv_aload_n hx hb dX9_wayItem_141 rfl (lv_at hl 5 rfl) ?_
    refine xg hF kf_X9_266 hK hP 1 rfl rfl dX9_wayItem_142 ?_
    refine lv_if_ne (tgt := 187) hx hb dX9_wayItem_145 (by decide) (fun c_273 => ?_) (fun c_273 => absurd c_273 (by decide))
    exact W.vret hx hb hr (fun t ht hW => ⟨⟨(nx bb mz u9, 1, v2_7, ms, fal, fau, fao), rfl, ⟨Or.inr ⟨cif_neg (fun h => h_14 (okN_R (by omega) h)), rfl⟩, (by first | assumption | omega), hs0, hs1, hs2, hsS, hsM, hsp, hsr, hsw, hsR, hsG⟩, by rw [ht]; exact hP.sub [1, 0, 2] rfl, hD.sub [1, 0, 2] (by decide) rfl⟩, hS.F ht⟩) hS.2.2 dX9_wayItem_187 hlk
set_option maxHeartbeats 4000000 in
set_option maxRecDepth 100000 in
theorem c_X9_walkItem (l : Launch) (D : va_G) (cI cJ cZ cS : ClassId) (ta : Nat) (sa sv : Nat → Nat) (sz : Nat) (h0 : Nat) (ys : Nat) (yk : Nat) (yo : Nat) (yt : Nat) (mk0 : Int32) (yfa : Nat) (yfe : Nat) (mL : Int32) (mS : Int32) (mM : Int32) (yro : Nat) (yhe : Nat) (ygr : Nat) (mF : Int32) (mC : Int32) (mY : Int32) (yta : Nat) (mz : Nat) (mv : Int32) (ywa : Nat) (ybi : Nat) (ysi : Nat) (ynu : Nat) (ymo : Nat) (ms : Nat → Int32) (tp : Nat → Int32) (wa : Nat → Int32) (P : Nat) (Rn : Nat) (Wn : Nat) (fae : Nat → Int32) (fal : Nat → Int32) (fau : Nat → Int32) (fao : Nat → Int32) (farn : Nat → Int32) (farp : Nat → Int32) (fak : Nat → Int32) (fawn : Nat → Int32) (fawp : Nat → Int32) (fat : Nat → Int32) (fas : Nat → Int32) (u9 : Nat) (bb : Nat → Int32) (hz : mz ≤ 120) (hbb : bA tp mz = bb) (hu9 : u9 ≤ mz) (hs0 : ms 0 = nI P) (hs1 : ms 1 = nI Rn) (hs2 : ms 2 = nI Wn) (hsS : SI ms) (hsM : MI ms) (hsp : P ≤ 10) (hsr : Rn ≤ 8) (hsw : Wn ≤ 8) (hsR : RI Rn ms) (hsG : FR P ms fae fal fau fao farn farp fak fawn fawp fat fas) : Met l yX9_walkItem (Cond.code yX9_walkItem cX9_walkItem 6 none :: wsU) ({ frames := 6, cells := 0, slots := 0, locals := 136 }) (va_Pc [.ref h0] (XW D (xT cI cJ cZ cS) ta sa sv [(h0, .inr (9, [.ref ys, .ref yk, .ref yo, .ref yt, .int mk0, .ref yfa, .ref yfe, .int mL, .int mS, .int mM, .ref yro, .ref yhe, .ref ygr, .int mF, .int mC, .int mY, .ref yta, .int (nI (mz)), .int (nI (nf bb mz u9)), .int (nI (nx bb mz u9)), .int mv, .int 0, .ref ywa, .ref ybi, .ref ysi, .ref ynu, .ref ymo])), (ys, .inl (cI, 449, .inl ms)), (yta, .inl (cI, 120, .inl tp)), (ywa, .inl (cI, 6, .inl wa))] sz)) (XQv (fun (u : Nat × Int32 × Int32 × (Nat → Int32) × Nat × (Nat → Int32) × (Nat → Int32) × (Nat → Int32) × (Nat → Int32) × (Nat → Int32)) => match u with | (u2, w2, v2, ms2, W2, wa2, gwn, gwp, gt, gs) => (((spWalk bb mz u9 P Wn = Sum.inr u2) ∧ (w2 = 0) ∧ (W2 = Wn + 1) ∧ (nx bb mz u9 ≤ u2) ∧ (gwn = upd fawn Wn (nI (wkC bb mz u9))) ∧ (gwp = wkR bb mz u9 Wn (wkC bb mz u9) fawp) ∧ (gt = upd fat Wn (wkTo bb mz u9)) ∧ (gs = upd fas Wn (wkSl bb mz u9))) ∨ ((spWalk bb mz u9 P Wn = Sum.inl u2) ∧ (w2 = 1))) ∧ (u2 ≤ mz) ∧ (ms2 0 = nI P) ∧ (ms2 1 = nI Rn) ∧ (ms2 2 = nI W2) ∧ (SI ms2) ∧ (MI ms2) ∧ (P ≤ 10) ∧ (Rn ≤ 8) ∧ (W2 ≤ 8) ∧ (RI Rn ms2) ∧ (FR P ms2 fae fal fau fao farn farp fak gwn gwp gt gs)) D (fun (u : Nat × Int32 × Int32 × (Nat → Int32) × Nat × (Nat → Int32) × (Nat → Int32) × (Nat → Int32) × (Nat → Int32) × (Nat → Int32)) => match u with | (u2, w2, v2, ms2, W2, wa2, gwn, gwp, gt, gs) => [(h0, .inr (9, [.ref ys, .ref yk, .ref yo, .ref yt, .int mk0, .ref yfa, .ref yfe, .int mL, .int mS, .int mM, .ref yro, .ref yhe, .ref ygr, .int mF, .int mC, .int mY, .ref yta, .int (nI (mz)), .int (nI (nf bb mz u2)), .int (nI (nx bb mz u2)), .int v2, .int w2, .ref ywa, .ref ybi, .ref ysi, .ref ynu, .ref ymo])), (ys, .inl (cI, 449, .inl ms2)), (yta, .inl (cI, 120, .inl tp)), (ywa, .inl (cI, 6, .inl wa2))]) (va_A [(h0, .inr (9, [.ref ys, .ref yk, .ref yo, .ref yt, .int mk0, .ref yfa, .ref yfe, .int mL, .int mS, .int mM, .ref yro, .ref yhe, .ref ygr, .int mF, .int mC, .int mY, .ref yta, .int (nI (mz)), .int (nI (nf bb mz u9)), .int (nI (nx bb mz u9)), .int mv, .int 0, .ref ywa, .ref ybi, .ref ysi, .ref ynu, .ref ymo])), (ys, .inl (cI, 449, .inl ms)), (yta, .inl (cI, 120, .inl tp)), (ywa, .inl (cI, 6, .inl wa))] sz)) 0 0 (va_A [(h0, .inr (9, [.ref ys, .ref yk, .ref yo, .ref yt, .int mk0, .ref yfa, .ref yfe, .int mL, .int mS, .int mM, .ref yro, .ref yhe, .ref ygr, .int mF, .int mC, .int mY, .ref yta, .int (nI (mz)), .int (nI (nf bb mz u9)), .int (nI (nx bb mz u9)), .int mv, .int 0, .ref ywa, .ref ybi, .ref ysi, .ref ynu, .ref ymo])), (ys, .inl (cI, 449, .inl ms)), (yta, .inl (cI, 120, .inl tp)), (ywa, .inl (cI, 6, .inl wa))] sz) := by
  refine xh (QA := fun A => XQv (fun (u : Nat × Int32 × Int32 × (Nat → Int32) × Nat × (Nat → Int32) × (Nat → Int32) × (Nat → Int32) × (Nat → Int32) × (Nat → Int32)) => match u with | (u2, w2, v2, ms2, W2, wa2, gwn, gwp, gt, gs) => (((spWalk bb mz u9 P Wn = Sum.inr u2) ∧ (w2 = 0) ∧ (W2 = Wn + 1) ∧ (nx bb mz u9 ≤ u2) ∧ (gwn = upd fawn Wn (nI (wkC bb mz u9))) ∧ (gwp = wkR bb mz u9 Wn (wkC bb mz u9) fawp) ∧ (gt = upd fat Wn (wkTo bb mz u9)) ∧ (gs = upd fas Wn (wkSl bb mz u9))) ∨ ((spWalk bb mz u9 P Wn = Sum.inl u2) ∧ (w2 = 1))) ∧ (u2 ≤ mz) ∧ (ms2 0 = nI P) ∧ (ms2 1 = nI Rn) ∧ (ms2 2 = nI W2) ∧ (SI ms2) ∧ (MI ms2) ∧ (P ≤ 10) ∧ (Rn ≤ 8) ∧ (W2 ≤ 8) ∧ (RI Rn ms2) ∧ (FR P ms2 fae fal fau fao farn farp fak gwn gwp gt gs)) D (fun (u : Nat × Int32 × Int32 × (Nat → Int32) × Nat × (Nat → Int32) × (Nat → Int32) × (Nat → Int32) × (Nat → Int32) × (Nat → Int32)) => match u with | (u2, w2, v2, ms2, W2, wa2, gwn, gwp, gt, gs) => [(h0, .inr (9, [.ref ys, .ref yk, .ref yo, .ref yt, .int mk0, .ref yfa, .ref yfe, .int mL, .int mS, .int mM, .ref yro, .ref yhe, .ref ygr, .int mF, .int mC, .int mY, .ref yta, .int (nI (mz)), .int (nI (nf bb mz u2)), .int (nI (nx bb mz u2)), .int v2, .int w2, .ref ywa, .ref ybi, .ref ysi, .ref ynu, .ref ymo])), (ys, .inl (cI, 449, .inl ms2)), (yta, .inl (cI, 120, .inl tp)), (ywa, .inl (cI, 6, .inl wa2))]) A) (fr := fun A => A) (by decide) (Nat.le_of_ble_eq_true rfl) ?_
  intro p e s m below meth c ls A hF hr hlk hin hsz hP hK hD hN hZ hA hS hl
  have hF : CallFix p m c cX9_walkItem 6 s _ _ RX9 := hF
  have hx := hF.1
  have hb := hF.2.1
  have hml := hF.2.2.1
  have hown := hF.2.2.2.1
  have hu : ∀ w ∈ wsU, w.before _ s = true := fun w h => hF.2.2.2.2 w (List.mem_cons_of_mem _ h)
  have hl : lv_has ls 6 [(0, .ref h0)] := hl
  have htk := tk_le (b := bb) hu9
  refine lv_aload_n hx hb dX9_walkItem_0 rfl (lv_at hl 0 rfl) ?_
  refine lv_aload_n hx hb dX9_walkItem_1 rfl (lv_at hl 0 rfl) ?_
  refine xg hF kf_X9_7 hK hP 0 rfl rfl dX9_walkItem_2 ?_
  refine lv_iconst (v := 2) hx hb dX9_walkItem_5 (by decide) ?_
  refine va_iald hx hb hK hP 1 0 rfl rfl (xin 2 449 (by decide) (by decide)) dX9_walkItem_6 ?_
  refine xl_i (y := nI (Wn)) hs2 ?_
  refine lv_bipush (v := 8) hx hb dX9_walkItem_7 (by decide) ?_
  refine lv_icmp_ge (tgt := 16) hx hb dX9_walkItem_9 (by decide) (fun c_1 => ?_) (fun c_1 => ?_)
  · skip
    have nc_1 : 8 ≤ Wn := xn_le (a := 8) (b := Wn) (by omega) (by omega) c_1
    refine lv_iconst (v := 0) hx hb dX9_walkItem_16 (by decide) ?_
    refine xc_Vv (wr := [(ys, .inl (cI, 449, .inl ms)), (ywa, .inl (cI, 6, .inl wa))]) hF (c_X9_needs0 l D cI cJ cZ cS ta sa sv s.heap.size h0 ys yk yo yt mk0 yfa yfe mL mS mM yro yhe ygr mF mC mY yta mz mv ywa ybi ysi ynu ymo tp u9 bb (by omega) hbb (by omega)) kv_X9_278 ⟨rfl, rfl, Nat.le_of_ble_eq_true rfl, Nat.le_of_ble_eq_true rfl⟩ ⟨Nat.le_of_ble_eq_true rfl, Nat.le_of_ble_eq_true rfl⟩ hK hN hZ hP hD hS hA [0, 2] [1, 3] rfl rfl rfl rfl (by decide) 0 rfl rfl rfl rfl hl.1 rfl (Nat.le_of_ble_eq_true rfl) dX9_walkItem_17 (fun u_r_2 H locs hw_r_2 hP hD hS => ?_)
    have hP : va_P D vwCl [(ys, .inl (cI, 449, .inl ms)), (ywa, .inl (cI, 6, .inl wa)), (h0, .inr (9, [.ref ys, .ref yk, .ref yo, .ref yt, .int mk0, .ref yfa, .ref yfe, .int mL, .int mS, .int mM, .ref yro, .ref yhe, .ref ygr, .int mF, .int mC, .int mY, .ref yta, .int (nI (mz)), .int (nI (nf bb mz u9)), .int (nI (nx bb mz u9)), .int mv, .int 1, .ref ywa, .ref ybi, .ref ysi, .ref ynu, .ref ymo])), (yta, .inl (cI, 120, .inl tp))] H := hP
    have hD : va_D A [(ys, .inl (cI, 449, .inl ms)), (ywa, .inl (cI, 6, .inl wa)), (h0, .inr (9, [.ref ys, .ref yk, .ref yo, .ref yt, .int mk0, .ref yfa, .ref yfe, .int mL, .int mS, .int mM, .ref yro, .ref yhe, .ref ygr, .int mF, .int mC, .int mY, .ref yta, .int (nI (mz)), .int (nI (nf bb mz u9)), .int (nI (nx bb mz u9)), .int mv, .int 1, .ref ywa, .ref ybi, .ref ysi, .ref ynu, .ref ymo])), (yta, .inl (cI, 120, .inl tp))] := hD
    refine lv_iconst (v := 0) hx hb dX9_walkItem_20 (by decide) ?_
    refine lv_istore_n (lv' := [(1, .int 0), (0, .ref h0)]) hx hb dX9_walkItem_21 rfl hl (by decide) rfl (fun ls hl => ?_)
    refine lv_aload_n hx hb dX9_walkItem_22 rfl (lv_at hl 1 rfl) ?_
    refine xg hF kf_X9_266 hK hP 2 rfl rfl dX9_walkItem_23 ?_
    refine lv_if_ne (tgt := 105) hx hb dX9_walkItem_26 (by decide) (fun c_3 => ?_) (fun c_3 => absurd c_3 (by decide))
    refine lv_aload_n hx hb dX9_walkItem_105 rfl (lv_at hl 1 rfl) ?_
    refine lv_aload_n hx hb dX9_walkItem_106 rfl (lv_at hl 1 rfl) ?_
    refine lv_bipush (v := 97) hx hb dX9_walkItem_107 (by decide) ?_
    refine lv_bipush (v := 108) hx hb dX9_walkItem_109 (by decide) ?_
    refine lv_bipush (v := 108) hx hb dX9_walkItem_111 (by decide) ?_
    refine lv_iconst (v := 0) hx hb dX9_walkItem_113 (by decide) ?_
    refine lv_iconst (v := 0) hx hb dX9_walkItem_114 (by decide) ?_
    refine lv_iconst (v := 0) hx hb dX9_walkItem_115 (by decide) ?_
    refine lv_iconst (v := 0) hx hb dX9_walkItem_116 (by decide) ?_
    refine xc_Vr hF (c_X9_isWordW l D cI cJ cZ cS ta sa sv H.size h0 ys yk yo yt mk0 yfa yfe mL mS mM yro yhe ygr mF mC mY yta mz mv ywa ybi ysi ynu ymo tp 97 108 108 0 0 0 0 u9 bb (by omega) hbb (by omega)) kv_X9_290 ⟨rfl, rfl, Nat.le_of_ble_eq_true rfl, Nat.le_of_ble_eq_true rfl⟩ ⟨Nat.le_of_ble_eq_true rfl, Nat.le_of_ble_eq_true rfl⟩ hK hN hZ hP hD hS hA [2, 3] rfl rfl 0 rfl rfl rfl rfl hl.1 rfl (Nat.le_of_ble_eq_true rfl) dX9_walkItem_117 (fun r_4 hw_r_4 => ?_)
    subst hw_r_4
    refine xc_Vv (wr := [(ys, .inl (cI, 449, .inl ms)), (ywa, .inl (cI, 6, .inl wa))]) hF (c_X9_needsW l D cI cJ cZ cS ta sa sv H.size h0 ys yk yo yt mk0 yfa yfe mL mS mM yro yhe ygr mF mC mY yta mz mv ywa ybi ysi ynu ymo tp 0 u9 bb (by omega) hbb (by omega)) kv_X9_278 ⟨rfl, rfl, Nat.le_of_ble_eq_true rfl, Nat.le_of_ble_eq_true rfl⟩ ⟨Nat.le_of_ble_eq_true rfl, Nat.le_of_ble_eq_true rfl⟩ hK hN hZ hP hD hS hA [2, 3] [0, 1] rfl rfl rfl rfl (by decide) 0 rfl rfl rfl rfl hl.1 rfl (Nat.le_of_ble_eq_true rfl) dX9_walkItem_120 (fun u_r_5 H locs hw_r_5 hP hD hS => ?_)
    have hP : va_P D vwCl [(ys, .inl (cI, 449, .inl ms)), (ywa, .inl (cI, 6, .inl wa)), (h0, .inr (9, [.ref ys, .ref yk, .ref yo, .ref yt, .int mk0, .ref yfa, .ref yfe, .int mL, .int mS, .int mM, .ref yro, .ref yhe, .ref ygr, .int mF, .int mC, .int mY, .ref yta, .int (nI (mz)), .int (nI (nf bb mz u9)), .int (nI (nx bb mz u9)), .int mv, .int 1, .ref ywa, .ref ybi, .ref ysi, .ref ynu, .ref ymo])), (yta, .inl (cI, 120, .inl tp))] H := hP
    have hD : va_D A [(ys, .inl (cI, 449, .inl ms)), (ywa, .inl (cI, 6, .inl wa)), (h0, .inr (9, [.ref ys, .ref yk, .ref yo, .ref yt, .int mk0, .ref yfa, .ref yfe, .int mL, .int mS, .int mM, .ref yro, .ref yhe, .ref ygr, .int mF, .int mC, .int mY, .ref yta, .int (nI (mz)), .int (nI (nf bb mz u9)), .int (nI (nx bb mz u9)), .int mv, .int 1, .ref ywa, .ref ybi, .ref ysi, .ref ynu, .ref ymo])), (yta, .inl (cI, 120, .inl tp))] := hD
    refine lv_aload_n hx hb dX9_walkItem_123 rfl (lv_at hl 1 rfl) ?_
    refine lv_sipush (v := (-9999)) hx hb dX9_walkItem_124 (by decide) ?_
    refine lv_sipush (v := 9999) hx hb dX9_walkItem_127 (by decide) ?_
    refine xc_Vv (wr := [(ys, .inl (cI, 449, .inl ms)), (ywa, .inl (cI, 6, .inl wa))]) hF (c_X9_mileW l D cI cJ cZ cS ta sa sv H.size h0 ys yk yo yt mk0 yfa yfe mL mS mM yro yhe ygr mF mC mY yta mz mv ywa ybi ysi ynu ymo tp (-9999) 9999 u9 bb (by omega) hbb (by omega)) kv_X9_287 ⟨rfl, rfl, Nat.le_of_ble_eq_true rfl, Nat.le_of_ble_eq_true rfl⟩ ⟨Nat.le_of_ble_eq_true rfl, Nat.le_of_ble_eq_true rfl⟩ hK hN hZ hP hD hS hA [2, 3] [0, 1] rfl rfl rfl rfl (by decide) 0 rfl rfl rfl rfl hl.1 rfl (Nat.le_of_ble_eq_true rfl) dX9_walkItem_130 (fun u_r_6 H locs hw_r_6 hP hD hS => ?_)
    have hP : va_P D vwCl [(ys, .inl (cI, 449, .inl ms)), (ywa, .inl (cI, 6, .inl wa)), (h0, .inr (9, [.ref ys, .ref yk, .ref yo, .ref yt, .int mk0, .ref yfa, .ref yfe, .int mL, .int mS, .int mM, .ref yro, .ref yhe, .ref ygr, .int mF, .int mC, .int mY, .ref yta, .int (nI (mz)), .int (nI (nf bb mz u9)), .int (nI (nx bb mz u9)), .int mv, .int 1, .ref ywa, .ref ybi, .ref ysi, .ref ynu, .ref ymo])), (yta, .inl (cI, 120, .inl tp))] H := hP
    have hD : va_D A [(ys, .inl (cI, 449, .inl ms)), (ywa, .inl (cI, 6, .inl wa)), (h0, .inr (9, [.ref ys, .ref yk, .ref yo, .ref yt, .int mk0, .ref yfa, .ref yfe, .int mL, .int mS, .int mM, .ref yro, .ref yhe, .ref ygr, .int mF, .int mC, .int mY, .ref yta, .int (nI (mz)), .int (nI (nf bb mz u9)), .int (nI (nx bb mz u9)), .int mv, .int 1, .ref ywa, .ref ybi, .ref ysi, .ref ynu, .ref ymo])), (yta, .inl (cI, 120, .inl tp))] := hD
    refine lv_aload_n hx hb dX9_walkItem_133 rfl (lv_at hl 1 rfl) ?_
    refine xg hF kf_X9_275 hK hP 2 rfl rfl dX9_walkItem_134 ?_
    refine lv_istore_n (lv' := [(2, .int mv), (1, .int 0), (0, .ref h0)]) hx hb dX9_walkItem_137 rfl hl (by decide) rfl (fun ls hl => ?_)
    refine lv_iconst (v := 0) hx hb dX9_walkItem_138 (by decide) ?_
    refine lv_istore_n (lv' := [(3, .int 0), (2, .int mv), (1, .int 0), (0, .ref h0)]) hx hb dX9_walkItem_139 rfl hl (by decide) rfl (fun ls hl => ?_)
    refine lv_aload_n hx hb dX9_walkItem_140 rfl (lv_at hl 3 rfl) ?_
    refine lv_bipush (v := 115) hx hb dX9_walkItem_141 (by decide) ?_
    refine lv_bipush (v := 108) hx hb dX9_walkItem_143 (by decide) ?_
    refine lv_bipush (v := 97) hx hb dX9_walkItem_145 (by decide) ?_
    refine lv_bipush (v := 99) hx hb dX9_walkItem_147 (by decide) ?_
    refine lv_bipush (v := 107) hx hb dX9_walkItem_149 (by decide) ?_
    refine lv_iconst (v := 0) hx hb dX9_walkItem_151 (by decide) ?_
    refine lv_iconst (v := 0) hx hb dX9_walkItem_152 (by decide) ?_
    refine xc_Vr hF (c_X9_isWordW l D cI cJ cZ cS ta sa sv H.size h0 ys yk yo yt mk0 yfa yfe mL mS mM yro yhe ygr mF mC mY yta mz mv ywa ybi ysi ynu ymo tp 115 108 97 99 107 0 0 u9 bb (by omega) hbb (by omega)) kv_X9_290 ⟨rfl, rfl, Nat.le_of_ble_eq_true rfl, Nat.le_of_ble_eq_true rfl⟩ ⟨Nat.le_of_ble_eq_true rfl, Nat.le_of_ble_eq_true rfl⟩ hK hN hZ hP hD hS hA [2, 3] rfl rfl 0 rfl rfl rfl rfl hl.1 rfl (Nat.le_of_ble_eq_true rfl) dX9_walkItem_153 (fun r_7 hw_r_7 => ?_)
    subst hw_r_7
    refine lv_if_eq (tgt := 176) hx hb dX9_walkItem_156 (by decide) (fun c_8 => ?_) (fun c_8 => absurd (by decide) c_8)
    refine lv_aload_n hx hb dX9_walkItem_176 rfl (lv_at hl 3 rfl) ?_
    refine xg hF kf_X9_266 hK hP 2 rfl rfl dX9_walkItem_177 ?_
    refine lv_if_ne (tgt := 252) hx hb dX9_walkItem_180 (by decide) (fun c_9 => ?_) (fun c_9 => absurd c_9 (by decide))
    exact W.vret hx hb hr (fun t ht hW => ⟨⟨(u9, 1, mv, ms, Wn, wa, fawn, fawp, fat, fas), rfl, ⟨Or.inr ⟨cif_neg (show ¬ Wn < 8 by omega), rfl⟩, (by first | assumption | omega), hs0, hs1, hs2, hsS, hsM, hsp, hsr, hsw, hsR, hsG⟩, by rw [ht]; exact hP.sub [2, 0, 3, 1] rfl, hD.sub [2, 0, 3, 1] (by decide) rfl⟩, hS.F ht⟩) hS.2.2 dX9_walkItem_252 hlk
  · skip
    have nc_1 : Wn < 8 := xn_nle (a := 8) (b := Wn) (by omega) (by omega) c_1
    refine lv_iconst (v := 1) hx hb dX9_walkItem_12 (by decide) ?_
    refine lv_goto (tgt := 17) hx hb dX9_walkItem_13 (by decide) ?_
    refine xc_Vv (wr := [(ys, .inl (cI, 449, .inl ms)), (ywa, .inl (cI, 6, .inl wa))]) hF (c_X9_needs1 l D cI cJ cZ cS ta sa sv s.heap.size h0 ys yk yo yt mk0 yfa yfe mL mS mM yro yhe ygr mF mC mY yta mz mv ywa ybi ysi ynu ymo tp u9 bb (by omega) hbb (by omega)) kv_X9_278 ⟨rfl, rfl, Nat.le_of_ble_eq_true rfl, Nat.le_of_ble_eq_true rfl⟩ ⟨Nat.le_of_ble_eq_true rfl, Nat.le_of_ble_eq_true rfl⟩ hK hN hZ hP hD hS hA [0, 2] [1, 3] rfl rfl rfl rfl (by decide) 0 rfl rfl rfl rfl hl.1 rfl (Nat.le_of_ble_eq_true rfl) dX9_walkItem_17 (fun u_r_10 H locs hw_r_10 hP hD hS => ?_)
    obtain ⟨i_11, i_12⟩ := hw_r_10
    have hP : va_P D vwCl [(ys, .inl (cI, 449, .inl ms)), (ywa, .inl (cI, 6, .inl wa)), (h0, .inr (9, [.ref ys, .ref yk, .ref yo, .ref yt, .int mk0, .ref yfa, .ref yfe, .int mL, .int mS, .int mM, .ref yro, .ref yhe, .ref ygr, .int mF, .int mC, .int mY, .ref yta, .int (nI (mz)), .int (nI (nf bb mz (nx bb mz u9))), .int (nI (nx bb mz (nx bb mz u9))), .int mv, .int 0, .ref ywa, .ref ybi, .ref ysi, .ref ynu, .ref ymo])), (yta, .inl (cI, 120, .inl tp))] H := hP
    have hD : va_D A [(ys, .inl (cI, 449, .inl ms)), (ywa, .inl (cI, 6, .inl wa)), (h0, .inr (9, [.ref ys, .ref yk, .ref yo, .ref yt, .int mk0, .ref yfa, .ref yfe, .int mL, .int mS, .int mM, .ref yro, .ref yhe, .ref ygr, .int mF, .int mC, .int mY, .ref yta, .int (nI (mz)), .int (nI (nf bb mz (nx bb mz u9))), .int (nI (nx bb mz (nx bb mz u9))), .int mv, .int 0, .ref ywa, .ref ybi, .ref ysi, .ref ynu, .ref ymo])), (yta, .inl (cI, 120, .inl tp))] := hD
    refine lv_iconst (v := 0) hx hb dX9_walkItem_20 (by decide) ?_
    refine lv_istore_n (lv' := [(1, .int 0), (0, .ref h0)]) hx hb dX9_walkItem_21 rfl hl (by decide) rfl (fun ls hl => ?_)
    refine lv_aload_n hx hb dX9_walkItem_22 rfl (lv_at hl 1 rfl) ?_
    refine xg hF kf_X9_266 hK hP 2 rfl rfl dX9_walkItem_23 ?_
    refine lv_if_ne (tgt := 105) hx hb dX9_walkItem_26 (by decide) (fun c_13 => absurd (by decide) c_13) (fun c_13 => ?_)
    refine lv_iload_n hx hb dX9_walkItem_29 rfl (lv_at hl 0 rfl) ?_
    refine lv_bipush (v := 6) hx hb dX9_walkItem_30 (by decide) ?_
    refine lv_icmp_ge (tgt := 105) hx hb dX9_walkItem_32 (by decide) (fun c_14 => absurd c_14 (by decide)) (fun c_14 => ?_)
    refine lv_iload_n hx hb dX9_walkItem_35 rfl (lv_at hl 0 rfl) ?_
    refine lv_iconst (v := 2) hx hb dX9_walkItem_36 (by decide) ?_
    refine lv_icmp_lt (tgt := 54) hx hb dX9_walkItem_37 (by decide) (fun c_15 => ?_) (fun c_15 => absurd (by decide) c_15)
    refine lv_aload_n hx hb dX9_walkItem_54 rfl (lv_at hl 1 rfl) ?_
    refine xc_Vr hF (c_X9_numberHere0 l D cI cJ cZ cS ta sa sv H.size h0 ys yk yo yt mk0 yfa yfe mL mS mM yro yhe ygr mF mC mY yta mz mv ywa ybi ysi ynu ymo tp (nx bb mz u9) bb (by omega) hbb (by omega)) kv_X9_284 ⟨rfl, rfl, Nat.le_of_ble_eq_true rfl, Nat.le_of_ble_eq_true rfl⟩ ⟨Nat.le_of_ble_eq_true rfl, Nat.le_of_ble_eq_true rfl⟩ hK hN hZ hP hD hS hA [2, 3] rfl rfl 0 rfl rfl rfl rfl hl.1 rfl (Nat.le_of_ble_eq_true rfl) dX9_walkItem_55 (fun r_16 hw_r_16 => ?_)
    rcases hw_r_16 with ⟨rfl, h_17⟩ | ⟨rfl, h_18⟩
    · skip
      refine lv_istore_n (lv' := [(2, .int (nI (num bb (nf bb mz (nx bb mz u9)) (nx bb mz (nx bb mz u9))))), (1, .int 0), (0, .ref h0)]) hx hb dX9_walkItem_58 rfl hl (by decide) rfl (fun ls hl => ?_)
      refine lv_aload_n hx hb dX9_walkItem_59 rfl (lv_at hl 2 rfl) ?_
      refine lv_aload_n hx hb dX9_walkItem_60 rfl (lv_at hl 2 rfl) ?_
      refine lv_iload_n hx hb dX9_walkItem_61 rfl (lv_at hl 0 rfl) ?_
      refine xc_Vr hF (c_X9_isPlace l D cI cJ cZ cS ta sa sv H.size h0 ys yk yo yt mk0 yfa yfe mL mS mM yro yhe ygr mF mC mY yta mz (nf bb mz (nx bb mz u9)) (nx bb mz (nx bb mz u9)) mv 0 ywa ybi ysi ynu ymo ms P Rn Wn fae fal fau fao farn farp fak fawn fawp fat fas (nI (num bb (nf bb mz (nx bb mz u9)) (nx bb mz (nx bb mz u9)))) hs0 hs1 hs2 hsS hsM hsp hsr hsw hsR hsG) kv_X9_61 ⟨rfl, rfl, Nat.le_of_ble_eq_true rfl, Nat.le_of_ble_eq_true rfl⟩ ⟨Nat.le_of_ble_eq_true rfl, Nat.le_of_ble_eq_true rfl⟩ hK hN hZ hP hD hS hA [2, 0] rfl rfl 0 rfl rfl rfl rfl hl.1 rfl (Nat.le_of_ble_eq_true rfl) dX9_walkItem_62 (fun r_19 hw_r_19 => ?_)
      rcases hw_r_19 with ⟨k_20, rfl, h_21, h_22⟩ | ⟨rfl, h_23⟩
      · skip
        refine lv_if_eq (tgt := 88) hx hb dX9_walkItem_65 (by decide) (fun c_24 => absurd c_24 (by decide)) (fun c_24 => ?_)
        refine lv_iload_n hx hb dX9_walkItem_68 rfl (lv_at hl 1 rfl) ?_
        refine lv_if_eq (tgt := 84) hx hb dX9_walkItem_69 (by decide) (fun c_25 => ?_) (fun c_25 => absurd (by decide) c_25)
        refine lv_iconst (v := 1) hx hb dX9_walkItem_84 (by decide) ?_
        refine lv_goto (tgt := 89) hx hb dX9_walkItem_85 (by decide) ?_
        refine xc_Vv (wr := [(ys, .inl (cI, 449, .inl ms)), (ywa, .inl (cI, 6, .inl wa))]) hF (c_X9_needs1 l D cI cJ cZ cS ta sa sv H.size h0 ys yk yo yt mk0 yfa yfe mL mS mM yro yhe ygr mF mC mY yta mz mv ywa ybi ysi ynu ymo tp (nx bb mz u9) bb (by omega) hbb (by omega)) kv_X9_278 ⟨rfl, rfl, Nat.le_of_ble_eq_true rfl, Nat.le_of_ble_eq_true rfl⟩ ⟨Nat.le_of_ble_eq_true rfl, Nat.le_of_ble_eq_true rfl⟩ hK hN hZ hP hD hS hA [2, 3] [0, 1] rfl rfl rfl rfl (by decide) 0 rfl rfl rfl rfl hl.1 rfl (Nat.le_of_ble_eq_true rfl) dX9_walkItem_89 (fun u_r_26 H locs hw_r_26 hP hD hS => ?_)
        obtain ⟨i_27, i_28⟩ := hw_r_26
        have hP : va_P D vwCl [(ys, .inl (cI, 449, .inl ms)), (ywa, .inl (cI, 6, .inl wa)), (h0, .inr (9, [.ref ys, .ref yk, .ref yo, .ref yt, .int mk0, .ref yfa, .ref yfe, .int mL, .int mS, .int mM, .ref yro, .ref yhe, .ref ygr, .int mF, .int mC, .int mY, .ref yta, .int (nI (mz)), .int (nI (nf bb mz (nx bb mz (nx bb mz u9)))), .int (nI (nx bb mz (nx bb mz (nx bb mz u9)))), .int mv, .int 0, .ref ywa, .ref ybi, .ref ysi, .ref ynu, .ref ymo])), (yta, .inl (cI, 120, .inl tp))] H := hP
        have hD : va_D A [(ys, .inl (cI, 449, .inl ms)), (ywa, .inl (cI, 6, .inl wa)), (h0, .inr (9, [.ref ys, .ref yk, .ref yo, .ref yt, .int mk0, .ref yfa, .ref yfe, .int mL, .int mS, .int mM, .ref yro, .ref yhe, .ref ygr, .int mF, .int mC, .int mY, .ref yta, .int (nI (mz)), .int (nI (nf bb mz (nx bb mz (nx bb mz u9)))), .int (nI (nx bb mz (nx bb mz (nx bb mz u9)))), .int mv, .int 0, .ref ywa, .ref ybi, .ref ysi, .ref ynu, .ref ymo])), (yta, .inl (cI, 120, .inl tp))] := hD
        refine lv_aload_n hx hb dX9_walkItem_92 rfl (lv_at hl 2 rfl) ?_
        refine xg hF kf_X9_40 hK hP 2 rfl rfl dX9_walkItem_93 ?_
        refine lv_iload_n hx hb dX9_walkItem_96 rfl (lv_at hl 1 rfl) ?_
        refine lv_iload_n hx hb dX9_walkItem_97 rfl (lv_at hl 0 rfl) ?_
        refine va_iast hx hb hK hP hD hS 1 0 rfl rfl (xin 0 6 (by decide) (by decide)) dX9_walkItem_98 (fun H locs hP hD hS => ?_)
        obtain ⟨f_29, ef_29⟩ : ∃ g, g = upd wa 0 (nI (num bb (nf bb mz (nx bb mz u9)) (nx bb mz (nx bb mz u9)))) := ⟨_, rfl⟩
        have hP : va_P D vwCl [(ys, .inl (cI, 449, .inl ms)), (ywa, .inl (cI, 6, .inl (upd wa 0 (nI (num bb (nf bb mz (nx bb mz u9)) (nx bb mz (nx bb mz u9))))))), (h0, .inr (9, [.ref ys, .ref yk, .ref yo, .ref yt, .int mk0, .ref yfa, .ref yfe, .int mL, .int mS, .int mM, .ref yro, .ref yhe, .ref ygr, .int mF, .int mC, .int mY, .ref yta, .int (nI (mz)), .int (nI (nf bb mz (nx bb mz (nx bb mz u9)))), .int (nI (nx bb mz (nx bb mz (nx bb mz u9)))), .int mv, .int 0, .ref ywa, .ref ybi, .ref ysi, .ref ynu, .ref ymo])), (yta, .inl (cI, 120, .inl tp))] H := hP
        have hD : va_D A [(ys, .inl (cI, 449, .inl ms)), (ywa, .inl (cI, 6, .inl (upd wa 0 (nI (num bb (nf bb mz (nx bb mz u9)) (nx bb mz (nx bb mz u9))))))), (h0, .inr (9, [.ref ys, .ref yk, .ref yo, .ref yt, .int mk0, .ref yfa, .ref yfe, .int mL, .int mS, .int mM, .ref yro, .ref yhe, .ref ygr, .int mF, .int mC, .int mY, .ref yta, .int (nI (mz)), .int (nI (nf bb mz (nx bb mz (nx bb mz u9)))), .int (nI (nx bb mz (nx bb mz (nx bb mz u9)))), .int mv, .int 0, .ref ywa, .ref ybi, .ref ysi, .ref ynu, .ref ymo])), (yta, .inl (cI, 120, .inl tp))] := hD
        rw [← ef_29] at hP hD
        have hP : va_P D vwCl [(ys, .inl (cI, 449, .inl ms)), (ywa, .inl (cI, 6, .inl f_29)), (h0, .inr (9, [.ref ys, .ref yk, .ref yo, .ref yt, .int mk0, .ref yfa, .ref yfe, .int mL, .int mS, .int mM, .ref yro, .ref yhe, .ref ygr, .int mF, .int mC, .int mY, .ref yta, .int (nI (mz)), .int (nI (nf bb mz (nx bb mz (nx bb mz u9)))), .int (nI (nx bb mz (nx bb mz (nx bb mz u9)))), .int mv, .int 0, .ref ywa, .ref ybi, .ref ysi, .ref ynu, .ref ymo])), (yta, .inl (cI, 120, .inl tp))] H := hP
        have hD : va_D A [(ys, .inl (cI, 449, .inl ms)), (ywa, .inl (cI, 6, .inl f_29)), (h0, .inr (9, [.ref ys, .ref yk, .ref yo, .ref yt, .int mk0, .ref yfa, .ref yfe, .int mL, .int mS, .int mM, .ref yro, .ref yhe, .ref ygr, .int mF, .int mC, .int mY, .ref yta, .int (nI (mz)), .int (nI (nf bb mz (nx bb mz (nx bb mz u9)))), .int (nI (nx bb mz (nx bb mz (nx bb mz u9)))), .int mv, .int 0, .ref ywa, .ref ybi, .ref ysi, .ref ynu, .ref ymo])), (yta, .inl (cI, 120, .inl tp))] := hD
        refine lv_iinc (v := 1) (lv' := [(1, .int 1), (2, .int (nI (num bb (nf bb mz (nx bb mz u9)) (nx bb mz (nx bb mz u9))))), (0, .ref h0)]) hx hb dX9_walkItem_99 hl (k := 1) rfl (by decide) (by decide) rfl (fun ls hl => ?_)
        refine lv_goto (tgt := 22) hx hb dX9_walkItem_102 (by decide) ?_
        have hc9 := okN_of (P := P) (by omega) h_17 (show num bb (nf bb mz (nx bb mz u9)) (nx bb mz (nx bb mz u9)) < P by have h9 := num_k h_17 (by omega) h_21; omega)
        have hc8 : num bb (nf bb mz (nx bb mz u9)) (nx bb mz (nx bb mz u9)) < P := by have h9 := num_k h_17 (by omega) h_21; omega
        have hc7 : cv bb mz (nf bb mz (nx bb mz u9)) (nx bb mz (nx bb mz u9)) = num bb (nf bb mz (nx bb mz u9)) (nx bb mz (nx bb mz u9)) := hc9.2
        suffices loop_22 : ∀ (n_22 : Nat) (n8 : Nat) (u8 : Nat) (v8 : Nat) (a8 : Nat → Int32) (H : Heap) (locs : List Loc) (ls : Array Slot), 6 - n8 < n_22 → (1 ≤ n8) → (n8 ≤ 6) → (u8 ≤ mz) → (nx bb mz u9 ≤ u8) → (v8 < 10) → (a8 (n8 - 1) = nI v8) → (wk_A n8 0 a8) → (spWalk bb mz u9 P Wn = spSt bb mz P (6 - n8) u8 v8 n8) → (wkC bb mz u9 = wkn bb mz (6 - n8) u8 n8) → (u8 = itN bb mz n8 (nx bb mz u9)) → (∀ j, j < n8 → a8 j = nI (tC bb mz (itN bb mz j (nx bb mz u9)))) → va_P D vwCl [(ys, .inl (cI, 449, .inl ms)), (ywa, .inl (cI, 6, .inl a8)), (h0, .inr (9, [.ref ys, .ref yk, .ref yo, .ref yt, .int mk0, .ref yfa, .ref yfe, .int mL, .int mS, .int mM, .ref yro, .ref yhe, .ref ygr, .int mF, .int mC, .int mY, .ref yta, .int (nI (mz)), .int (nI (nf bb mz u8)), .int (nI (nx bb mz u8)), .int mv, .int 0, .ref ywa, .ref ybi, .ref ysi, .ref ynu, .ref ymo])), (yta, .inl (cI, 120, .inl tp))] H → va_D A [(ys, .inl (cI, 449, .inl ms)), (ywa, .inl (cI, 6, .inl a8)), (h0, .inr (9, [.ref ys, .ref yk, .ref yo, .ref yt, .int mk0, .ref yfa, .ref yfe, .int mL, .int mS, .int mM, .ref yro, .ref yhe, .ref ygr, .int mF, .int mC, .int mY, .ref yta, .int (nI (mz)), .int (nI (nf bb mz u8)), .int (nI (nx bb mz u8)), .int mv, .int 0, .ref ywa, .ref ybi, .ref ysi, .ref ynu, .ref ymo])), (yta, .inl (cI, 120, .inl tp))] → va_S A s.heap H locs → lv_has ls 6 [(1, .int (nI (n8))), (0, .ref h0)] → W p l e ({ frames := 6, cells := 0, slots := 0, locals := 136 }) s m ([.ref h0] : List Value).toArray below meth c H locs 0 0 (MQ below (XQv (fun (u : Nat × Int32 × Int32 × (Nat → Int32) × Nat × (Nat → Int32) × (Nat → Int32) × (Nat → Int32) × (Nat → Int32) × (Nat → Int32)) => match u with | (u2, w2, v2, ms2, W2, wa2, gwn, gwp, gt, gs) => (((spWalk bb mz u9 P Wn = Sum.inr u2) ∧ (w2 = 0) ∧ (W2 = Wn + 1) ∧ (nx bb mz u9 ≤ u2) ∧ (gwn = upd fawn Wn (nI (wkC bb mz u9))) ∧ (gwp = wkR bb mz u9 Wn (wkC bb mz u9) fawp) ∧ (gt = upd fat Wn (wkTo bb mz u9)) ∧ (gs = upd fas Wn (wkSl bb mz u9))) ∨ ((spWalk bb mz u9 P Wn = Sum.inl u2) ∧ (w2 = 1))) ∧ (u2 ≤ mz) ∧ (ms2 0 = nI P) ∧ (ms2 1 = nI Rn) ∧ (ms2 2 = nI W2) ∧ (SI ms2) ∧ (MI ms2) ∧ (P ≤ 10) ∧ (Rn ≤ 8) ∧ (W2 ≤ 8) ∧ (RI Rn ms2) ∧ (FR P ms2 fae fal fau fao farn farp fak gwn gwp gt gs)) D (fun (u : Nat × Int32 × Int32 × (Nat → Int32) × Nat × (Nat → Int32) × (Nat → Int32) × (Nat → Int32) × (Nat → Int32) × (Nat → Int32)) => match u with | (u2, w2, v2, ms2, W2, wa2, gwn, gwp, gt, gs) => [(h0, .inr (9, [.ref ys, .ref yk, .ref yo, .ref yt, .int mk0, .ref yfa, .ref yfe, .int mL, .int mS, .int mM, .ref yro, .ref yhe, .ref ygr, .int mF, .int mC, .int mY, .ref yta, .int (nI (mz)), .int (nI (nf bb mz u2)), .int (nI (nx bb mz u2)), .int v2, .int w2, .ref ywa, .ref ybi, .ref ysi, .ref ynu, .ref ymo])), (ys, .inl (cI, 449, .inl ms2)), (yta, .inl (cI, 120, .inl tp)), (ywa, .inl (cI, 6, .inl wa2))]) A) ([.ref h0] : List Value).toArray s 0 0 A) (F0 m 22 ls []) by
          exact loop_22 _ 1 (nx bb mz (nx bb mz u9)) (cv bb mz (nf bb mz (nx bb mz u9)) (nx bb mz (nx bb mz u9))) f_29 _ _ _ (Nat.lt_succ_self _) (by omega) (by omega) (by omega) (by omega) (by omega) (by rw [ef_29]; exact pk_us.trans (congrArg nI hc9.2.symm)) (wk_A.put (w := 0) wk_A.zero rfl (show num bb (nf bb mz (nx bb mz u9)) (nx bb mz (nx bb mz u9)) < 10 by omega) ef_29) ((cif_pos (show Wn < 8 by omega)).trans (cif_pos hc9.1)) rfl rfl (wkA_put (n := 0) (g := fun j => nI (tC bb mz (itN bb mz j (nx bb mz u9)))) (fun j hj => absurd hj (Nat.not_lt_zero j)) ef_29 (congrArg nI hc9.2.symm)) hP hD hS (lv_sub hl [0, 2] rfl)
        intro n_22
        induction n_22 with
        | zero =>
          intro n8 u8 v8 a8 H locs ls hm_22
          exact absurd hm_22 (Nat.not_lt_zero _)
        | succ n_22 ih_22 =>
          intro n8 u8 v8 a8 H locs ls hm_22 hn1 hn8 hu8 hj8 hvb hv8 hA8 hL8 hN8 hu8x hA9 hP hD hS hl
          refine lv_aload_n hx hb dX9_walkItem_22 rfl (lv_at hl 1 rfl) ?_
          refine xg hF kf_X9_266 hK hP 2 rfl rfl dX9_walkItem_23 ?_
          refine lv_if_ne (tgt := 105) hx hb dX9_walkItem_26 (by decide) (fun c_30 => absurd (by decide) c_30) (fun c_30 => ?_)
          refine lv_iload_n hx hb dX9_walkItem_29 rfl (lv_at hl 0 rfl) ?_
          refine lv_bipush (v := 6) hx hb dX9_walkItem_30 (by decide) ?_
          refine lv_icmp_ge (tgt := 105) hx hb dX9_walkItem_32 (by decide) (fun c_31 => ?_) (fun c_31 => ?_)
          · skip
            have nc_31 : 6 ≤ n8 := xn_le (a := 6) (b := n8) (by omega) (by omega) c_31
            refine lv_aload_n hx hb dX9_walkItem_105 rfl (lv_at hl 1 rfl) ?_
            refine lv_aload_n hx hb dX9_walkItem_106 rfl (lv_at hl 1 rfl) ?_
            refine lv_bipush (v := 97) hx hb dX9_walkItem_107 (by decide) ?_
            refine lv_bipush (v := 108) hx hb dX9_walkItem_109 (by decide) ?_
            refine lv_bipush (v := 108) hx hb dX9_walkItem_111 (by decide) ?_
            refine lv_iconst (v := 0) hx hb dX9_walkItem_113 (by decide) ?_
            refine lv_iconst (v := 0) hx hb dX9_walkItem_114 (by decide) ?_
            refine lv_iconst (v := 0) hx hb dX9_walkItem_115 (by decide) ?_
            refine lv_iconst (v := 0) hx hb dX9_walkItem_116 (by decide) ?_
            refine xc_Vr hF (c_X9_isWord_6 l D cI cJ cZ cS ta sa sv H.size h0 ys yk yo yt mk0 yfa yfe mL mS mM yro yhe ygr mF mC mY yta mz mv ywa ybi ysi ynu ymo tp u8 bb (by omega) hbb (by omega)) kv_X9_290 ⟨rfl, rfl, Nat.le_of_ble_eq_true rfl, Nat.le_of_ble_eq_true rfl⟩ ⟨Nat.le_of_ble_eq_true rfl, Nat.le_of_ble_eq_true rfl⟩ hK hN hZ hP hD hS hA [2, 3] rfl rfl 0 rfl rfl rfl rfl hl.1 rfl (Nat.le_of_ble_eq_true rfl) dX9_walkItem_117 (fun r_32 hw_r_32 => ?_)
            rcases hw_r_32 with ⟨rfl, h_33⟩ | ⟨rfl, h_34⟩
            · skip
              refine xc_Vv (wr := [(ys, .inl (cI, 449, .inl ms)), (ywa, .inl (cI, 6, .inl a8))]) hF (c_X9_needs1 l D cI cJ cZ cS ta sa sv H.size h0 ys yk yo yt mk0 yfa yfe mL mS mM yro yhe ygr mF mC mY yta mz mv ywa ybi ysi ynu ymo tp u8 bb (by omega) hbb (by omega)) kv_X9_278 ⟨rfl, rfl, Nat.le_of_ble_eq_true rfl, Nat.le_of_ble_eq_true rfl⟩ ⟨Nat.le_of_ble_eq_true rfl, Nat.le_of_ble_eq_true rfl⟩ hK hN hZ hP hD hS hA [2, 3] [0, 1] rfl rfl rfl rfl (by decide) 0 rfl rfl rfl rfl hl.1 rfl (Nat.le_of_ble_eq_true rfl) dX9_walkItem_120 (fun u_r_35 H locs hw_r_35 hP hD hS => ?_)
              obtain ⟨i_36, i_37⟩ := hw_r_35
              have hP : va_P D vwCl [(ys, .inl (cI, 449, .inl ms)), (ywa, .inl (cI, 6, .inl a8)), (h0, .inr (9, [.ref ys, .ref yk, .ref yo, .ref yt, .int mk0, .ref yfa, .ref yfe, .int mL, .int mS, .int mM, .ref yro, .ref yhe, .ref ygr, .int mF, .int mC, .int mY, .ref yta, .int (nI (mz)), .int (nI (nf bb mz (nx bb mz u8))), .int (nI (nx bb mz (nx bb mz u8))), .int mv, .int 0, .ref ywa, .ref ybi, .ref ysi, .ref ynu, .ref ymo])), (yta, .inl (cI, 120, .inl tp))] H := hP
              have hD : va_D A [(ys, .inl (cI, 449, .inl ms)), (ywa, .inl (cI, 6, .inl a8)), (h0, .inr (9, [.ref ys, .ref yk, .ref yo, .ref yt, .int mk0, .ref yfa, .ref yfe, .int mL, .int mS, .int mM, .ref yro, .ref yhe, .ref ygr, .int mF, .int mC, .int mY, .ref yta, .int (nI (mz)), .int (nI (nf bb mz (nx bb mz u8))), .int (nI (nx bb mz (nx bb mz u8))), .int mv, .int 0, .ref ywa, .ref ybi, .ref ysi, .ref ynu, .ref ymo])), (yta, .inl (cI, 120, .inl tp))] := hD
              refine lv_aload_n hx hb dX9_walkItem_123 rfl (lv_at hl 1 rfl) ?_
              refine lv_sipush (v := (-9999)) hx hb dX9_walkItem_124 (by decide) ?_
              refine lv_sipush (v := 9999) hx hb dX9_walkItem_127 (by decide) ?_
              refine xc_Vv (wr := [(ys, .inl (cI, 449, .inl ms)), (ywa, .inl (cI, 6, .inl a8))]) hF (c_X9_mile0 l D cI cJ cZ cS ta sa sv H.size h0 ys yk yo yt mk0 yfa yfe mL mS mM yro yhe ygr mF mC mY yta mz mv ywa ybi ysi ynu ymo tp (-9999) 9999 (nx bb mz u8) bb (by omega) hbb (by omega) (by decide) (by decide) (by decide) (by decide)) kv_X9_287 ⟨rfl, rfl, Nat.le_of_ble_eq_true rfl, Nat.le_of_ble_eq_true rfl⟩ ⟨Nat.le_of_ble_eq_true rfl, Nat.le_of_ble_eq_true rfl⟩ hK hN hZ hP hD hS hA [2, 3] [0, 1] rfl rfl rfl rfl (by decide) 0 rfl rfl rfl rfl hl.1 rfl (Nat.le_of_ble_eq_true rfl) dX9_walkItem_130 (fun u_r_38 H locs hw_r_38 hP hD hS => ?_)
              obtain ⟨u2_39, w2_40, v2_41⟩ := u_r_38
              try dsimp only at hw_r_38
              obtain ⟨hw_r_38, i_42, i_43⟩ := hw_r_38
              have hP : va_P D vwCl [(ys, .inl (cI, 449, .inl ms)), (ywa, .inl (cI, 6, .inl a8)), (h0, .inr (9, [.ref ys, .ref yk, .ref yo, .ref yt, .int mk0, .ref yfa, .ref yfe, .int mL, .int mS, .int mM, .ref yro, .ref yhe, .ref ygr, .int mF, .int mC, .int mY, .ref yta, .int (nI (mz)), .int (nI (nf bb mz u2_39)), .int (nI (nx bb mz u2_39)), .int v2_41, .int w2_40, .ref ywa, .ref ybi, .ref ysi, .ref ynu, .ref ymo])), (yta, .inl (cI, 120, .inl tp))] H := hP
              have hD : va_D A [(ys, .inl (cI, 449, .inl ms)), (ywa, .inl (cI, 6, .inl a8)), (h0, .inr (9, [.ref ys, .ref yk, .ref yo, .ref yt, .int mk0, .ref yfa, .ref yfe, .int mL, .int mS, .int mM, .ref yro, .ref yhe, .ref ygr, .int mF, .int mC, .int mY, .ref yta, .int (nI (mz)), .int (nI (nf bb mz u2_39)), .int (nI (nx bb mz u2_39)), .int v2_41, .int w2_40, .ref ywa, .ref ybi, .ref ysi, .ref ynu, .ref ymo])), (yta, .inl (cI, 120, .inl tp))] := hD
              rcases hw_r_38 with ⟨h_44, h_45, h_46, h_47⟩ | ⟨h_48, h_49, h_50⟩
              · skip
                subst h_45
                subst h_46
                subst h_47
                refine lv_aload_n hx hb dX9_walkItem_133 rfl (lv_at hl 1 rfl) ?_
                refine xg hF kf_X9_275 hK hP 2 rfl rfl dX9_walkItem_134 ?_
                refine lv_istore_n (lv' := [(2, .int (mV bb mz (nx bb mz u8))), (1, .int (nI (n8))), (0, .ref h0)]) hx hb dX9_walkItem_137 rfl hl (by decide) rfl (fun ls hl => ?_)
                refine lv_iconst (v := 0) hx hb dX9_walkItem_138 (by decide) ?_
                refine lv_istore_n (lv' := [(3, .int 0), (2, .int (mV bb mz (nx bb mz u8))), (1, .int (nI (n8))), (0, .ref h0)]) hx hb dX9_walkItem_139 rfl hl (by decide) rfl (fun ls hl => ?_)
                refine lv_aload_n hx hb dX9_walkItem_140 rfl (lv_at hl 3 rfl) ?_
                refine lv_bipush (v := 115) hx hb dX9_walkItem_141 (by decide) ?_
                refine lv_bipush (v := 108) hx hb dX9_walkItem_143 (by decide) ?_
                refine lv_bipush (v := 97) hx hb dX9_walkItem_145 (by decide) ?_
                refine lv_bipush (v := 99) hx hb dX9_walkItem_147 (by decide) ?_
                refine lv_bipush (v := 107) hx hb dX9_walkItem_149 (by decide) ?_
                refine lv_iconst (v := 0) hx hb dX9_walkItem_151 (by decide) ?_
                refine lv_iconst (v := 0) hx hb dX9_walkItem_152 (by decide) ?_
                refine xc_Vr hF (c_X9_isWord_7 l D cI cJ cZ cS ta sa sv H.size h0 ys yk yo yt mk0 yfa yfe mL mS mM yro yhe ygr mF mC mY yta mz (mV bb mz (nx bb mz u8)) ywa ybi ysi ynu ymo tp (nx bb mz (mSt bb mz (nx bb mz u8))) bb (by omega) hbb (by omega)) kv_X9_290 ⟨rfl, rfl, Nat.le_of_ble_eq_true rfl, Nat.le_of_ble_eq_true rfl⟩ ⟨Nat.le_of_ble_eq_true rfl, Nat.le_of_ble_eq_true rfl⟩ hK hN hZ hP hD hS hA [2, 3] rfl rfl 0 rfl rfl rfl rfl hl.1 rfl (Nat.le_of_ble_eq_true rfl) dX9_walkItem_153 (fun r_51 hw_r_51 => ?_)
                rcases hw_r_51 with ⟨rfl, h_52⟩ | ⟨rfl, h_53⟩
                · skip
                  refine lv_if_eq (tgt := 176) hx hb dX9_walkItem_156 (by decide) (fun c_54 => absurd c_54 (by decide)) (fun c_54 => ?_)
                  refine lv_aload_n hx hb dX9_walkItem_159 rfl (lv_at hl 3 rfl) ?_
                  refine lv_iconst (v := 1) hx hb dX9_walkItem_160 (by decide) ?_
                  refine xc_Vv (wr := [(ys, .inl (cI, 449, .inl ms)), (ywa, .inl (cI, 6, .inl a8))]) hF (c_X9_needs1 l D cI cJ cZ cS ta sa sv H.size h0 ys yk yo yt mk0 yfa yfe mL mS mM yro yhe ygr mF mC mY yta mz (mV bb mz (nx bb mz u8)) ywa ybi ysi ynu ymo tp (nx bb mz (mSt bb mz (nx bb mz u8))) bb (by omega) hbb (by omega)) kv_X9_278 ⟨rfl, rfl, Nat.le_of_ble_eq_true rfl, Nat.le_of_ble_eq_true rfl⟩ ⟨Nat.le_of_ble_eq_true rfl, Nat.le_of_ble_eq_true rfl⟩ hK hN hZ hP hD hS hA [2, 3] [0, 1] rfl rfl rfl rfl (by decide) 0 rfl rfl rfl rfl hl.1 rfl (Nat.le_of_ble_eq_true rfl) dX9_walkItem_161 (fun u_r_55 H locs hw_r_55 hP hD hS => ?_)
                  obtain ⟨i_56, i_57⟩ := hw_r_55
                  have hP : va_P D vwCl [(ys, .inl (cI, 449, .inl ms)), (ywa, .inl (cI, 6, .inl a8)), (h0, .inr (9, [.ref ys, .ref yk, .ref yo, .ref yt, .int mk0, .ref yfa, .ref yfe, .int mL, .int mS, .int mM, .ref yro, .ref yhe, .ref ygr, .int mF, .int mC, .int mY, .ref yta, .int (nI (mz)), .int (nI (nf bb mz (nx bb mz (nx bb mz (mSt bb mz (nx bb mz u8)))))), .int (nI (nx bb mz (nx bb mz (nx bb mz (mSt bb mz (nx bb mz u8)))))), .int (mV bb mz (nx bb mz u8)), .int 0, .ref ywa, .ref ybi, .ref ysi, .ref ynu, .ref ymo])), (yta, .inl (cI, 120, .inl tp))] H := hP
                  have hD : va_D A [(ys, .inl (cI, 449, .inl ms)), (ywa, .inl (cI, 6, .inl a8)), (h0, .inr (9, [.ref ys, .ref yk, .ref yo, .ref yt, .int mk0, .ref yfa, .ref yfe, .int mL, .int mS, .int mM, .ref yro, .ref yhe, .ref ygr, .int mF, .int mC, .int mY, .ref yta, .int (nI (mz)), .int (nI (nf bb mz (nx bb mz (nx bb mz (mSt bb mz (nx bb mz u8)))))), .int (nI (nx bb mz (nx bb mz (nx bb mz (mSt bb mz (nx bb mz u8)))))), .int (mV bb mz (nx bb mz u8)), .int 0, .ref ywa, .ref ybi, .ref ysi, .ref ynu, .ref ymo])), (yta, .inl (cI, 120, .inl tp))] := hD
                  refine lv_aload_n hx hb dX9_walkItem_164 rfl (lv_at hl 3 rfl) ?_
                  refine lv_iconst (v := 0) hx hb dX9_walkItem_165 (by decide) ?_
                  refine lv_bipush (v := 99) hx hb dX9_walkItem_166 (by decide) ?_
                  refine xc_Vv (wr := [(ys, .inl (cI, 449, .inl ms)), (ywa, .inl (cI, 6, .inl a8))]) hF (c_X9_number0 l D cI cJ cZ cS ta sa sv H.size h0 ys yk yo yt mk0 yfa yfe mL mS mM yro yhe ygr mF mC mY yta mz (mV bb mz (nx bb mz u8)) ywa ybi ysi ynu ymo tp 0 99 (nx bb mz (nx bb mz (mSt bb mz (nx bb mz u8)))) bb (by omega) hbb (by omega)) kv_X9_282 ⟨rfl, rfl, Nat.le_of_ble_eq_true rfl, Nat.le_of_ble_eq_true rfl⟩ ⟨Nat.le_of_ble_eq_true rfl, Nat.le_of_ble_eq_true rfl⟩ hK hN hZ hP hD hS hA [2, 3] [0, 1] rfl rfl rfl rfl (by decide) 0 rfl rfl rfl rfl hl.1 rfl (Nat.le_of_ble_eq_true rfl) dX9_walkItem_168 (fun u_r_58 H locs hw_r_58 hP hD hS => ?_)
                  obtain ⟨u2_59, w2_60, v2_61⟩ := u_r_58
                  try dsimp only at hw_r_58
                  obtain ⟨hw_r_58, i_62, i_63⟩ := hw_r_58
                  have hP : va_P D vwCl [(ys, .inl (cI, 449, .inl ms)), (ywa, .inl (cI, 6, .inl a8)), (h0, .inr (9, [.ref ys, .ref yk, .ref yo, .ref yt, .int mk0, .ref yfa, .ref yfe, .int mL, .int mS, .int mM, .ref yro, .ref yhe, .ref ygr, .int mF, .int mC, .int mY, .ref yta, .int (nI (mz)), .int (nI (nf bb mz u2_59)), .int (nI (nx bb mz u2_59)), .int v2_61, .int w2_60, .ref ywa, .ref ybi, .ref ysi, .ref ynu, .ref ymo])), (yta, .inl (cI, 120, .inl tp))] H := hP
                  have hD : va_D A [(ys, .inl (cI, 449, .inl ms)), (ywa, .inl (cI, 6, .inl a8)), (h0, .inr (9, [.ref ys, .ref yk, .ref yo, .ref yt, .int mk0, .ref yfa, .ref yfe, .int mL, .int mS, .int mM, .ref yro, .ref yhe, .ref ygr, .int mF, .int mC, .int mY, .ref yta, .int (nI (mz)), .int (nI (nf bb mz u2_59)), .int (nI (nx bb mz u2_59)), .int v2_61, .int w2_60, .ref ywa, .ref ybi, .ref ysi, .ref ynu, .ref ymo])), (yta, .inl (cI, 120, .inl tp))] := hD
                  rcases hw_r_58 with ⟨h_64, h_65, h_66, h_67⟩ | ⟨h_68, h_69, h_70⟩
                  · skip
                    subst h_65
                    subst h_66
                    subst h_67
                    refine lv_aload_n hx hb dX9_walkItem_171 rfl (lv_at hl 3 rfl) ?_
                    refine xg hF kf_X9_275 hK hP 2 rfl rfl dX9_walkItem_172 ?_
                    refine lv_istore_n (lv' := [(3, .int (nI (num bb (nf bb mz (nx bb mz (nx bb mz (mSt bb mz (nx bb mz u8))))) (nx bb mz (nx bb mz (nx bb mz (mSt bb mz (nx bb mz u8)))))))), (2, .int (mV bb mz (nx bb mz u8))), (1, .int (nI (n8))), (0, .ref h0)]) hx hb dX9_walkItem_175 rfl hl (by decide) rfl (fun ls hl => ?_)
                    refine lv_aload_n hx hb dX9_walkItem_176 rfl (lv_at hl 3 rfl) ?_
                    refine xg hF kf_X9_266 hK hP 2 rfl rfl dX9_walkItem_177 ?_
                    refine lv_if_ne (tgt := 252) hx hb dX9_walkItem_180 (by decide) (fun c_71 => absurd (by decide) c_71) (fun c_71 => ?_)
                    refine lv_sipush (v := 377) hx hb dX9_walkItem_183 (by decide) ?_
                    refine lv_bipush (v := 9) hx hb dX9_walkItem_186 (by decide) ?_
                    refine lv_aload_n hx hb dX9_walkItem_188 rfl (lv_at hl 3 rfl) ?_
                    refine lv_aload_n hx hb dX9_walkItem_189 rfl (lv_at hl 3 rfl) ?_
                    refine xg hF kf_X9_40 hK hP 2 rfl rfl dX9_walkItem_190 ?_
                    refine lv_iconst (v := 0) hx hb dX9_walkItem_193 (by decide) ?_
                    refine va_iald hx hb hK hP 1 0 rfl rfl (xin 0 6 (by decide) (by decide)) dX9_walkItem_194 ?_
                    refine xl_i (y := a8 0) (congrArg a8 rfl) ?_
                    obtain ⟨z_72, ez_72, hz_720⟩ := wk_A.get hA8 rfl (show 0 < n8 by omega)
                    refine xl_i (y := nI (z_72)) ez_72 ?_
                    refine lv_aload_n hx hb dX9_walkItem_195 rfl (lv_at hl 3 rfl) ?_
                    refine xg hF kf_X9_40 hK hP 2 rfl rfl dX9_walkItem_196 ?_
                    refine lv_iconst (v := 1) hx hb dX9_walkItem_199 (by decide) ?_
                    refine va_iald hx hb hK hP 1 0 rfl rfl (xin 1 6 (by decide) (by decide)) dX9_walkItem_200 ?_
                    refine xl_i (y := a8 1) (congrArg a8 rfl) ?_
                    obtain ⟨z_73, ez_73, hz_730⟩ := wk_A.get hA8 rfl (show 1 < n8 by omega)
                    refine xl_i (y := nI (z_73)) ez_73 ?_
                    refine lv_iload_n hx hb dX9_walkItem_201 rfl (lv_at hl 1 rfl) ?_
                    refine lv_iload_n hx hb dX9_walkItem_202 rfl (lv_at hl 0 rfl) ?_
                    refine xc_Vi (wr := [(ywa, .inl (cI, 6, .inl a8)), (yta, .inl (cI, 120, .inl tp))]) hF (c_X9_newWalk l D cI cJ cZ cS ta sa sv H.size h0 ys yk yo yt mk0 yfa yfe mL mS mM yro yhe ygr mF mC mY yta mz (nf bb mz (nx bb mz (nx bb mz (nx bb mz (mSt bb mz (nx bb mz u8)))))) (nx bb mz (nx bb mz (nx bb mz (nx bb mz (mSt bb mz (nx bb mz u8)))))) (nI (num bb (nf bb mz (nx bb mz (nx bb mz (mSt bb mz (nx bb mz u8))))) (nx bb mz (nx bb mz (nx bb mz (mSt bb mz (nx bb mz u8))))))) 0 ywa ybi ysi ynu ymo ms P Rn Wn fae fal fau fao farn farp fak fawn fawp fat fas z_72 z_73 (mV bb mz (nx bb mz u8)) (nI (num bb (nf bb mz (nx bb mz (nx bb mz (mSt bb mz (nx bb mz u8))))) (nx bb mz (nx bb mz (nx bb mz (mSt bb mz (nx bb mz u8))))))) (by omega) (by omega) (by omega) hs0 hs1 hs2 hsS hsM hsp hsr hsw hsR hsG) kv_X9_196 ⟨rfl, rfl, Nat.le_of_ble_eq_true rfl, Nat.le_of_ble_eq_true rfl⟩ ⟨Nat.le_of_ble_eq_true rfl, Nat.le_of_ble_eq_true rfl⟩ hK hN hZ hP hD hS hA [2, 0] [1, 3] rfl rfl rfl rfl (by decide) 0 rfl rfl rfl rfl hl.1 rfl (Nat.le_of_ble_eq_true rfl) dX9_walkItem_203 (fun r_74 u_r_74 H locs hw_r_74 hP hD hS => ?_)
                    obtain ⟨ms2_75, rfl⟩ : ∃ z, z = u_r_74 := ⟨_, rfl⟩
                    try dsimp only at hw_r_74
                    obtain ⟨hw_r_74, i_76, i_77, i_78, i_79, i_80, i_81, i_82, i_83, i_84, i_85⟩ := hw_r_74
                    have hP : va_P D vwCl [(ywa, .inl (cI, 6, .inl a8)), (yta, .inl (cI, 120, .inl tp)), (h0, .inr (9, [.ref ys, .ref yk, .ref yo, .ref yt, .int mk0, .ref yfa, .ref yfe, .int mL, .int mS, .int mM, .ref yro, .ref yhe, .ref ygr, .int mF, .int mC, .int mY, .ref yta, .int (nI (mz)), .int (nI ((nf bb mz (nx bb mz (nx bb mz (nx bb mz (mSt bb mz (nx bb mz u8)))))))), .int (nI ((nx bb mz (nx bb mz (nx bb mz (nx bb mz (mSt bb mz (nx bb mz u8)))))))), .int (nI (num bb (nf bb mz (nx bb mz (nx bb mz (mSt bb mz (nx bb mz u8))))) (nx bb mz (nx bb mz (nx bb mz (mSt bb mz (nx bb mz u8))))))), .int 0, .ref ywa, .ref ybi, .ref ysi, .ref ynu, .ref ymo])), (ys, .inl (cI, 449, .inl ms2_75))] H := hP
                    have hD : va_D A [(ywa, .inl (cI, 6, .inl a8)), (yta, .inl (cI, 120, .inl tp)), (h0, .inr (9, [.ref ys, .ref yk, .ref yo, .ref yt, .int mk0, .ref yfa, .ref yfe, .int mL, .int mS, .int mM, .ref yro, .ref yhe, .ref ygr, .int mF, .int mC, .int mY, .ref yta, .int (nI (mz)), .int (nI ((nf bb mz (nx bb mz (nx bb mz (nx bb mz (mSt bb mz (nx bb mz u8)))))))), .int (nI ((nx bb mz (nx bb mz (nx bb mz (nx bb mz (mSt bb mz (nx bb mz u8)))))))), .int (nI (num bb (nf bb mz (nx bb mz (nx bb mz (mSt bb mz (nx bb mz u8))))) (nx bb mz (nx bb mz (nx bb mz (mSt bb mz (nx bb mz u8))))))), .int 0, .ref ywa, .ref ybi, .ref ysi, .ref ynu, .ref ymo])), (ys, .inl (cI, 449, .inl ms2_75))] := hD
                    subst hw_r_74
                    refine lv_imul hx hb dX9_walkItem_206 ?_
                    refine xl_i (y := nI (9 * Wn)) (pk_mul 9 Wn) ?_
                    refine lv_iadd hx hb dX9_walkItem_207 ?_
                    refine xl_i (y := nI (377 + (9 * Wn))) (nI_add 377 (9 * Wn)) ?_
                    refine lv_istore (lv' := [(4, .int (nI (377 + (9 * Wn)))), (3, .int (nI (num bb (nf bb mz (nx bb mz (nx bb mz (mSt bb mz (nx bb mz u8))))) (nx bb mz (nx bb mz (nx bb mz (mSt bb mz (nx bb mz u8)))))))), (2, .int (mV bb mz (nx bb mz u8))), (1, .int (nI (n8))), (0, .ref h0)]) hx hb dX9_walkItem_208 hl (by decide) rfl (fun ls hl => ?_)
                    refine lv_aload_n hx hb dX9_walkItem_210 rfl (lv_at hl 4 rfl) ?_
                    refine xg hF kf_X9_7 hK hP 2 rfl rfl dX9_walkItem_211 ?_
                    refine lv_iload hx hb dX9_walkItem_214 (lv_at hl 0 rfl) ?_
                    refine lv_iload_n hx hb dX9_walkItem_216 rfl (lv_at hl 3 rfl) ?_
                    refine va_iast hx hb hK hP hD hS 3 0 rfl rfl (vp_in_nI (show 377 + (9 * Wn) < 449 by omega) (by decide)) dX9_walkItem_217 (fun H locs hP hD hS => ?_)
                    rw [nI_clamp (show 377 + (9 * Wn) < 2 ^ 31 by omega)] at hP hD
                    obtain ⟨f_86, ef_86⟩ : ∃ g, g = upd ms2_75 (377 + (9 * Wn)) (nI (n8)) := ⟨_, rfl⟩
                    rw [← ef_86] at hP hD
                    have k0_f_86 : f_86 0 = nI P := by rw [ef_86]; exact (pk_un (show 0 ≠ (377 + (9 * Wn)) by omega)).trans i_76
                    have k1_f_86 : f_86 1 = nI Rn := by rw [ef_86]; exact (pk_un (show 1 ≠ (377 + (9 * Wn)) by omega)).trans i_77
                    have k2_f_86 : f_86 2 = nI (Wn + 1) := by rw [ef_86]; exact (pk_un (show 2 ≠ (377 + (9 * Wn)) by omega)).trans i_78
                    have kS_f_86 : SI f_86 := by rw [ef_86]; exact SI.upd i_79 (okS.wl (w := Wn) (q := n8) (by omega) (by omega) (by omega))
                    have kM_f_86 : MI f_86 := by rw [ef_86]; exact MI.upd i_80 (okM.out (show (377 + (9 * Wn)) < 13 ∨ 113 ≤ (377 + (9 * Wn)) by omega))
                    have kR_f_86 : RI Rn f_86 := by rw [ef_86]; exact RI.upd i_84 (fun r9 hr9 e9 => by omega)
                    have kG_f_86 : FR P f_86 fae fal fau fao farn farp fak (upd (upd fawn Wn 2) (Wn) (nI (n8))) (upd (upd fawp (Wn * 6 + 0) (nI z_72)) (Wn * 6 + 1) (nI z_73)) (upd fat Wn (mV bb mz (nx bb mz u8))) (upd fas Wn (nI (num bb (nf bb mz (nx bb mz (nx bb mz (mSt bb mz (nx bb mz u8))))) (nx bb mz (nx bb mz (nx bb mz (mSt bb mz (nx bb mz u8)))))))) := by rw [ef_86]; exact FR.pwn i_85 (show Wn < 8 by omega) (by omega)
                    have hP : va_P D vwCl [(ywa, .inl (cI, 6, .inl a8)), (yta, .inl (cI, 120, .inl tp)), (h0, .inr (9, [.ref ys, .ref yk, .ref yo, .ref yt, .int mk0, .ref yfa, .ref yfe, .int mL, .int mS, .int mM, .ref yro, .ref yhe, .ref ygr, .int mF, .int mC, .int mY, .ref yta, .int (nI (mz)), .int (nI ((nf bb mz (nx bb mz (nx bb mz (nx bb mz (mSt bb mz (nx bb mz u8)))))))), .int (nI ((nx bb mz (nx bb mz (nx bb mz (nx bb mz (mSt bb mz (nx bb mz u8)))))))), .int (nI (num bb (nf bb mz (nx bb mz (nx bb mz (mSt bb mz (nx bb mz u8))))) (nx bb mz (nx bb mz (nx bb mz (mSt bb mz (nx bb mz u8))))))), .int 0, .ref ywa, .ref ybi, .ref ysi, .ref ynu, .ref ymo])), (ys, .inl (cI, 449, .inl f_86))] H := hP
                    have hD : va_D A [(ywa, .inl (cI, 6, .inl a8)), (yta, .inl (cI, 120, .inl tp)), (h0, .inr (9, [.ref ys, .ref yk, .ref yo, .ref yt, .int mk0, .ref yfa, .ref yfe, .int mL, .int mS, .int mM, .ref yro, .ref yhe, .ref ygr, .int mF, .int mC, .int mY, .ref yta, .int (nI (mz)), .int (nI ((nf bb mz (nx bb mz (nx bb mz (nx bb mz (mSt bb mz (nx bb mz u8)))))))), .int (nI ((nx bb mz (nx bb mz (nx bb mz (nx bb mz (mSt bb mz (nx bb mz u8)))))))), .int (nI (num bb (nf bb mz (nx bb mz (nx bb mz (mSt bb mz (nx bb mz u8))))) (nx bb mz (nx bb mz (nx bb mz (mSt bb mz (nx bb mz u8))))))), .int 0, .ref ywa, .ref ybi, .ref ysi, .ref ynu, .ref ymo])), (ys, .inl (cI, 449, .inl f_86))] := hD
                    refine lv_iconst (v := 2) hx hb dX9_walkItem_218 (by decide) ?_
                    refine lv_istore (lv' := [(5, .int 2), (4, .int (nI (377 + (9 * Wn)))), (3, .int (nI (num bb (nf bb mz (nx bb mz (nx bb mz (mSt bb mz (nx bb mz u8))))) (nx bb mz (nx bb mz (nx bb mz (mSt bb mz (nx bb mz u8)))))))), (2, .int (mV bb mz (nx bb mz u8))), (1, .int (nI (n8))), (0, .ref h0)]) hx hb dX9_walkItem_219 hl (by decide) rfl (fun ls hl => ?_)
                    suffices loop_221 : ∀ (n_221 : Nat) (i : Nat) (s8 : Nat → Int32) (w8 : Nat → Int32) (H : Heap) (locs : List Loc) (ls : Array Slot), n8 - i < n_221 → (2 ≤ i) → (i ≤ n8) → (w8 = wkR bb mz u9 Wn i fawp) → (s8 0 = nI P) → (s8 1 = nI Rn) → (s8 2 = nI (Wn + 1)) → (SI s8) → (MI s8) → (P ≤ 10) → (Rn ≤ 8) → (Wn + 1 ≤ 8) → (RI Rn s8) → (FR P s8 fae fal fau fao farn farp fak (upd (upd fawn Wn 2) (Wn) (nI (n8))) w8 (upd fat Wn (mV bb mz (nx bb mz u8))) (upd fas Wn (nI (num bb (nf bb mz (nx bb mz (nx bb mz (mSt bb mz (nx bb mz u8))))) (nx bb mz (nx bb mz (nx bb mz (mSt bb mz (nx bb mz u8))))))))) → va_P D vwCl [(ywa, .inl (cI, 6, .inl a8)), (yta, .inl (cI, 120, .inl tp)), (h0, .inr (9, [.ref ys, .ref yk, .ref yo, .ref yt, .int mk0, .ref yfa, .ref yfe, .int mL, .int mS, .int mM, .ref yro, .ref yhe, .ref ygr, .int mF, .int mC, .int mY, .ref yta, .int (nI (mz)), .int (nI ((nf bb mz (nx bb mz (nx bb mz (nx bb mz (mSt bb mz (nx bb mz u8)))))))), .int (nI ((nx bb mz (nx bb mz (nx bb mz (nx bb mz (mSt bb mz (nx bb mz u8)))))))), .int (nI (num bb (nf bb mz (nx bb mz (nx bb mz (mSt bb mz (nx bb mz u8))))) (nx bb mz (nx bb mz (nx bb mz (mSt bb mz (nx bb mz u8))))))), .int 0, .ref ywa, .ref ybi, .ref ysi, .ref ynu, .ref ymo])), (ys, .inl (cI, 449, .inl s8))] H → va_D A [(ywa, .inl (cI, 6, .inl a8)), (yta, .inl (cI, 120, .inl tp)), (h0, .inr (9, [.ref ys, .ref yk, .ref yo, .ref yt, .int mk0, .ref yfa, .ref yfe, .int mL, .int mS, .int mM, .ref yro, .ref yhe, .ref ygr, .int mF, .int mC, .int mY, .ref yta, .int (nI (mz)), .int (nI ((nf bb mz (nx bb mz (nx bb mz (nx bb mz (mSt bb mz (nx bb mz u8)))))))), .int (nI ((nx bb mz (nx bb mz (nx bb mz (nx bb mz (mSt bb mz (nx bb mz u8)))))))), .int (nI (num bb (nf bb mz (nx bb mz (nx bb mz (mSt bb mz (nx bb mz u8))))) (nx bb mz (nx bb mz (nx bb mz (mSt bb mz (nx bb mz u8))))))), .int 0, .ref ywa, .ref ybi, .ref ysi, .ref ynu, .ref ymo])), (ys, .inl (cI, 449, .inl s8))] → va_S A s.heap H locs → lv_has ls 6 [(5, .int (nI (i))), (4, .int (nI (377 + (9 * Wn)))), (3, .int (nI (num bb (nf bb mz (nx bb mz (nx bb mz (mSt bb mz (nx bb mz u8))))) (nx bb mz (nx bb mz (nx bb mz (mSt bb mz (nx bb mz u8)))))))), (2, .int (mV bb mz (nx bb mz u8))), (1, .int (nI (n8))), (0, .ref h0)] → W p l e ({ frames := 6, cells := 0, slots := 0, locals := 136 }) s m ([.ref h0] : List Value).toArray below meth c H locs 0 0 (MQ below (XQv (fun (u : Nat × Int32 × Int32 × (Nat → Int32) × Nat × (Nat → Int32) × (Nat → Int32) × (Nat → Int32) × (Nat → Int32) × (Nat → Int32)) => match u with | (u2, w2, v2, ms2, W2, wa2, gwn, gwp, gt, gs) => (((spWalk bb mz u9 P Wn = Sum.inr u2) ∧ (w2 = 0) ∧ (W2 = Wn + 1) ∧ (nx bb mz u9 ≤ u2) ∧ (gwn = upd fawn Wn (nI (wkC bb mz u9))) ∧ (gwp = wkR bb mz u9 Wn (wkC bb mz u9) fawp) ∧ (gt = upd fat Wn (wkTo bb mz u9)) ∧ (gs = upd fas Wn (wkSl bb mz u9))) ∨ ((spWalk bb mz u9 P Wn = Sum.inl u2) ∧ (w2 = 1))) ∧ (u2 ≤ mz) ∧ (ms2 0 = nI P) ∧ (ms2 1 = nI Rn) ∧ (ms2 2 = nI W2) ∧ (SI ms2) ∧ (MI ms2) ∧ (P ≤ 10) ∧ (Rn ≤ 8) ∧ (W2 ≤ 8) ∧ (RI Rn ms2) ∧ (FR P ms2 fae fal fau fao farn farp fak gwn gwp gt gs)) D (fun (u : Nat × Int32 × Int32 × (Nat → Int32) × Nat × (Nat → Int32) × (Nat → Int32) × (Nat → Int32) × (Nat → Int32) × (Nat → Int32)) => match u with | (u2, w2, v2, ms2, W2, wa2, gwn, gwp, gt, gs) => [(h0, .inr (9, [.ref ys, .ref yk, .ref yo, .ref yt, .int mk0, .ref yfa, .ref yfe, .int mL, .int mS, .int mM, .ref yro, .ref yhe, .ref ygr, .int mF, .int mC, .int mY, .ref yta, .int (nI (mz)), .int (nI (nf bb mz u2)), .int (nI (nx bb mz u2)), .int v2, .int w2, .ref ywa, .ref ybi, .ref ysi, .ref ynu, .ref ymo])), (ys, .inl (cI, 449, .inl ms2)), (yta, .inl (cI, 120, .inl tp)), (ywa, .inl (cI, 6, .inl wa2))]) A) ([.ref h0] : List Value).toArray s 0 0 A) (F0 m 221 ls []) by
                      exact loop_221 _ 2 f_86 (upd (upd fawp (Wn * 6 + 0) (nI z_72)) (Wn * 6 + 1) (nI z_73)) _ _ _ (Nat.lt_succ_self _) (by omega) (by omega) (wkR_2 (ez_72.symm.trans (hA9 0 (by omega))) (ez_73.symm.trans (hA9 1 (by omega)))) k0_f_86 k1_f_86 k2_f_86 kS_f_86 kM_f_86 i_81 i_82 i_83 kR_f_86 kG_f_86 hP hD hS (lv_sub hl [0, 1, 2, 3, 4, 5] rfl)
                    intro n_221
                    induction n_221 with
                    | zero =>
                      intro i s8 w8 H locs ls hm_221
                      exact absurd hm_221 (Nat.not_lt_zero _)
                    | succ n_221 ih_221 =>
                      intro i s8 w8 H locs ls hm_221 hi2 hi hw8 ht0 ht1 ht2 htS htM htp htr htw htR htG hP hD hS hl
                      refine lv_iload hx hb dX9_walkItem_221 (lv_at hl 0 rfl) ?_
                      refine lv_iload_n hx hb dX9_walkItem_223 rfl (lv_at hl 4 rfl) ?_
                      refine lv_icmp_ge (tgt := 252) hx hb dX9_walkItem_224 (by decide) (fun c_87 => ?_) (fun c_87 => ?_)
                      · skip
                        have nc_87 : n8 ≤ i := xn_le (a := n8) (b := i) (by omega) (by omega) c_87
                        exact W.vret hx hb hr (fun t ht hW => ⟨⟨(nx bb mz (nx bb mz (nx bb mz (mSt bb mz (nx bb mz u8)))), 0, (nI (num bb (nf bb mz (nx bb mz (nx bb mz (mSt bb mz (nx bb mz u8))))) (nx bb mz (nx bb mz (nx bb mz (mSt bb mz (nx bb mz u8))))))), s8, Wn + 1, a8, upd (upd fawn Wn 2) (Wn) (nI (n8)), w8, upd fat Wn (mV bb mz (nx bb mz u8)), upd fas Wn (nI (num bb (nf bb mz (nx bb mz (nx bb mz (mSt bb mz (nx bb mz u8))))) (nx bb mz (nx bb mz (nx bb mz (mSt bb mz (nx bb mz u8)))))))), rfl, ⟨Or.inl ⟨hL8.trans ((spSt_six (by omega)).trans ((cif_pos (show 2 ≤ n8 by omega)).trans ((cif_pos (h_33)).trans ((cif_pos (h_44)).trans ((cif_pos (h_52)).trans (cif_pos (okR_99.mp h_64))))))), rfl, rfl, by omega, (upd_upd.trans (congrArg (fun n => upd fawn Wn (nI n)) (hN8.trans (wkn_six (by omega))).symm)), (hw8.trans (congrArg (fun n => wkR bb mz u9 Wn n fawp) ((show i = n8 by omega).trans (hN8.trans (wkn_six (by omega))).symm))), (congrArg (upd fat Wn) (wkTo_e (wkE_e (hN8.trans (wkn_six (by omega))) hu8x))), (congrArg (upd fas Wn) ((congrArg nI (tC_99 h_64).symm).trans (wkSl_y (wkE_e (hN8.trans (wkn_six (by omega))) hu8x) h_52)))⟩, (by first | assumption | omega), ht0, ht1, ht2, htS, htM, htp, htr, htw, htR, htG⟩, by rw [ht]; exact hP.sub [2, 3, 1, 0] rfl, hD.sub [2, 3, 1, 0] (by decide) rfl⟩, hS.F ht⟩) hS.2.2 dX9_walkItem_252 hlk
                      · skip
                        have nc_87 : i < n8 := xn_nle (a := n8) (b := i) (by omega) (by omega) c_87
                        refine lv_aload_n hx hb dX9_walkItem_227 rfl (lv_at hl 5 rfl) ?_
                        refine xg hF kf_X9_7 hK hP 2 rfl rfl dX9_walkItem_228 ?_
                        refine lv_iload hx hb dX9_walkItem_231 (lv_at hl 1 rfl) ?_
                        refine lv_iconst (v := 3) hx hb dX9_walkItem_233 (by decide) ?_
                        refine lv_iadd hx hb dX9_walkItem_234 ?_
                        refine xl_i (y := nI (377 + (9 * Wn) + 3)) (nI_add (377 + (9 * Wn)) 3) ?_
                        refine lv_iload hx hb dX9_walkItem_235 (lv_at hl 0 rfl) ?_
                        refine lv_iadd hx hb dX9_walkItem_237 ?_
                        refine xl_i (y := nI (377 + (9 * Wn) + 3 + i)) (nI_add (377 + (9 * Wn) + 3) i) ?_
                        refine lv_aload_n hx hb dX9_walkItem_238 rfl (lv_at hl 5 rfl) ?_
                        refine xg hF kf_X9_40 hK hP 2 rfl rfl dX9_walkItem_239 ?_
                        refine lv_iload hx hb dX9_walkItem_242 (lv_at hl 0 rfl) ?_
                        refine va_iald hx hb hK hP 0 0 rfl rfl (vp_in_nI (show i < 6 by omega) (by decide)) dX9_walkItem_244 ?_
                        refine xl_i (y := a8 i) (congrArg a8 (nI_clamp (show i < 2 ^ 31 by omega))) ?_
                        obtain ⟨z_88, ez_88, hz_880⟩ := wk_A.get hA8 rfl (show i < n8 by omega)
                        refine xl_i (y := nI (z_88)) ez_88 ?_
                        refine va_iast hx hb hK hP hD hS 3 0 rfl rfl (vp_in_nI (show 377 + (9 * Wn) + 3 + i < 449 by omega) (by decide)) dX9_walkItem_245 (fun H locs hP hD hS => ?_)
                        rw [nI_clamp (show 377 + (9 * Wn) + 3 + i < 2 ^ 31 by omega)] at hP hD
                        obtain ⟨f_89, ef_89⟩ : ∃ g, g = upd s8 (377 + (9 * Wn) + 3 + i) (nI (z_88)) := ⟨_, rfl⟩
                        rw [← ef_89] at hP hD
                        have k0_f_89 : f_89 0 = nI P := by rw [ef_89]; exact (pk_un (show 0 ≠ (377 + (9 * Wn) + 3 + i) by omega)).trans ht0
                        have k1_f_89 : f_89 1 = nI Rn := by rw [ef_89]; exact (pk_un (show 1 ≠ (377 + (9 * Wn) + 3 + i) by omega)).trans ht1
                        have k2_f_89 : f_89 2 = nI (Wn + 1) := by rw [ef_89]; exact (pk_un (show 2 ≠ (377 + (9 * Wn) + 3 + i) by omega)).trans ht2
                        have kS_f_89 : SI f_89 := by rw [ef_89]; exact SI.upd htS (okS.ws (w := Wn) (i := i) (by omega) (by omega) (by omega) (show z_88 < 10 by omega))
                        have kM_f_89 : MI f_89 := by rw [ef_89]; exact MI.upd htM (okM.out (show (377 + (9 * Wn) + 3 + i) < 13 ∨ 113 ≤ (377 + (9 * Wn) + 3 + i) by omega))
                        have kR_f_89 : RI Rn f_89 := by rw [ef_89]; exact RI.upd htR (fun r9 hr9 e9 => by omega)
                        have kG_f_89 : FR P f_89 fae fal fau fao farn farp fak (upd (upd fawn Wn 2) (Wn) (nI (n8))) (upd w8 (Wn * 6 + i) (nI (z_88))) (upd fat Wn (mV bb mz (nx bb mz u8))) (upd fas Wn (nI (num bb (nf bb mz (nx bb mz (nx bb mz (mSt bb mz (nx bb mz u8))))) (nx bb mz (nx bb mz (nx bb mz (mSt bb mz (nx bb mz u8)))))))) := by rw [ef_89]; exact FR.pwp htG (show Wn < 8 by omega) (show i < 6 by omega) (by omega)
                        have hP : va_P D vwCl [(ywa, .inl (cI, 6, .inl a8)), (yta, .inl (cI, 120, .inl tp)), (h0, .inr (9, [.ref ys, .ref yk, .ref yo, .ref yt, .int mk0, .ref yfa, .ref yfe, .int mL, .int mS, .int mM, .ref yro, .ref yhe, .ref ygr, .int mF, .int mC, .int mY, .ref yta, .int (nI (mz)), .int (nI ((nf bb mz (nx bb mz (nx bb mz (nx bb mz (mSt bb mz (nx bb mz u8)))))))), .int (nI ((nx bb mz (nx bb mz (nx bb mz (nx bb mz (mSt bb mz (nx bb mz u8)))))))), .int (nI (num bb (nf bb mz (nx bb mz (nx bb mz (mSt bb mz (nx bb mz u8))))) (nx bb mz (nx bb mz (nx bb mz (mSt bb mz (nx bb mz u8))))))), .int 0, .ref ywa, .ref ybi, .ref ysi, .ref ynu, .ref ymo])), (ys, .inl (cI, 449, .inl f_89))] H := hP
                        have hD : va_D A [(ywa, .inl (cI, 6, .inl a8)), (yta, .inl (cI, 120, .inl tp)), (h0, .inr (9, [.ref ys, .ref yk, .ref yo, .ref yt, .int mk0, .ref yfa, .ref yfe, .int mL, .int mS, .int mM, .ref yro, .ref yhe, .ref ygr, .int mF, .int mC, .int mY, .ref yta, .int (nI (mz)), .int (nI ((nf bb mz (nx bb mz (nx bb mz (nx bb mz (mSt bb mz (nx bb mz u8)))))))), .int (nI ((nx bb mz (nx bb mz (nx bb mz (nx bb mz (mSt bb mz (nx bb mz u8)))))))), .int (nI (num bb (nf bb mz (nx bb mz (nx bb mz (mSt bb mz (nx bb mz u8))))) (nx bb mz (nx bb mz (nx bb mz (mSt bb mz (nx bb mz u8))))))), .int 0, .ref ywa, .ref ybi, .ref ysi, .ref ynu, .ref ymo])), (ys, .inl (cI, 449, .inl f_89))] := hD
                        refine lv_iinc (v := nI (i + 1)) (lv' := [(5, .int (nI (i + 1))), (4, .int (nI (377 + (9 * Wn)))), (3, .int (nI (num bb (nf bb mz (nx bb mz (nx bb mz (mSt bb mz (nx bb mz u8))))) (nx bb mz (nx bb mz (nx bb mz (mSt bb mz (nx bb mz u8)))))))), (2, .int (mV bb mz (nx bb mz u8))), (1, .int (nI (n8))), (0, .ref h0)]) hx hb dX9_walkItem_246 hl (k := 0) rfl (nI_1 (i)) (by decide) rfl (fun ls hl => ?_)
                        refine lv_goto (tgt := 221) hx hb dX9_walkItem_249 (by decide) ?_
                        exact ih_221 (i + 1) f_89 (upd w8 (Wn * 6 + i) (nI (z_88))) _ _ _ (by omega) (by omega) (by omega) (by rw [hw8]; exact wkR_put rfl (ez_88.symm.trans (hA9 i (by omega)))) k0_f_89 k1_f_89 k2_f_89 kS_f_89 kM_f_89 htp htr htw kR_f_89 kG_f_89 (hP.sub [0, 1, 2, 3] rfl) (hD.sub [0, 1, 2, 3] (by decide) rfl) hS (lv_sub hl [0, 1, 2, 3, 4, 5] rfl)
                  · skip
                    subst h_69
                    subst h_70
                    refine lv_aload_n hx hb dX9_walkItem_171 rfl (lv_at hl 3 rfl) ?_
                    refine xg hF kf_X9_275 hK hP 2 rfl rfl dX9_walkItem_172 ?_
                    refine lv_istore_n (lv' := [(3, .int v2_61), (2, .int (mV bb mz (nx bb mz u8))), (1, .int (nI (n8))), (0, .ref h0)]) hx hb dX9_walkItem_175 rfl hl (by decide) rfl (fun ls hl => ?_)
                    refine lv_aload_n hx hb dX9_walkItem_176 rfl (lv_at hl 3 rfl) ?_
                    refine xg hF kf_X9_266 hK hP 2 rfl rfl dX9_walkItem_177 ?_
                    refine lv_if_ne (tgt := 252) hx hb dX9_walkItem_180 (by decide) (fun c_90 => ?_) (fun c_90 => absurd c_90 (by decide))
                    exact W.vret hx hb hr (fun t ht hW => ⟨⟨(nx bb mz (nx bb mz (mSt bb mz (nx bb mz u8))), 1, v2_61, ms, Wn, a8, fawn, fawp, fat, fas), rfl, ⟨Or.inr ⟨hL8.trans ((spSt_six (by omega)).trans ((cif_pos (show 2 ≤ n8 by omega)).trans ((cif_pos (h_33)).trans ((cif_pos (h_44)).trans ((cif_pos (h_52)).trans (cif_neg (fun h => h_68 (okR_99.mpr h)))))))), rfl⟩, (by first | assumption | omega), hs0, hs1, hs2, hsS, hsM, hsp, hsr, hsw, hsR, hsG⟩, by rw [ht]; exact hP.sub [2, 0, 3, 1] rfl, hD.sub [2, 0, 3, 1] (by decide) rfl⟩, hS.F ht⟩) hS.2.2 dX9_walkItem_252 hlk
                · skip
                  refine lv_if_eq (tgt := 176) hx hb dX9_walkItem_156 (by decide) (fun c_91 => ?_) (fun c_91 => absurd (by decide) c_91)
                  refine lv_aload_n hx hb dX9_walkItem_176 rfl (lv_at hl 3 rfl) ?_
                  refine xg hF kf_X9_266 hK hP 2 rfl rfl dX9_walkItem_177 ?_
                  refine lv_if_ne (tgt := 252) hx hb dX9_walkItem_180 (by decide) (fun c_92 => absurd (by decide) c_92) (fun c_92 => ?_)
                  refine lv_sipush (v := 377) hx hb dX9_walkItem_183 (by decide) ?_
                  refine lv_bipush (v := 9) hx hb dX9_walkItem_186 (by decide) ?_
                  refine lv_aload_n hx hb dX9_walkItem_188 rfl (lv_at hl 3 rfl) ?_
                  refine lv_aload_n hx hb dX9_walkItem_189 rfl (lv_at hl 3 rfl) ?_
                  refine xg hF kf_X9_40 hK hP 2 rfl rfl dX9_walkItem_190 ?_
                  refine lv_iconst (v := 0) hx hb dX9_walkItem_193 (by decide) ?_
                  refine va_iald hx hb hK hP 1 0 rfl rfl (xin 0 6 (by decide) (by decide)) dX9_walkItem_194 ?_
                  refine xl_i (y := a8 0) (congrArg a8 rfl) ?_
                  obtain ⟨z_93, ez_93, hz_930⟩ := wk_A.get hA8 rfl (show 0 < n8 by omega)
                  refine xl_i (y := nI (z_93)) ez_93 ?_
                  refine lv_aload_n hx hb dX9_walkItem_195 rfl (lv_at hl 3 rfl) ?_
                  refine xg hF kf_X9_40 hK hP 2 rfl rfl dX9_walkItem_196 ?_
                  refine lv_iconst (v := 1) hx hb dX9_walkItem_199 (by decide) ?_
                  refine va_iald hx hb hK hP 1 0 rfl rfl (xin 1 6 (by decide) (by decide)) dX9_walkItem_200 ?_
                  refine xl_i (y := a8 1) (congrArg a8 rfl) ?_
                  obtain ⟨z_94, ez_94, hz_940⟩ := wk_A.get hA8 rfl (show 1 < n8 by omega)
                  refine xl_i (y := nI (z_94)) ez_94 ?_
                  refine lv_iload_n hx hb dX9_walkItem_201 rfl (lv_at hl 1 rfl) ?_
                  refine lv_iload_n hx hb dX9_walkItem_202 rfl (lv_at hl 0 rfl) ?_
                  refine xc_Vi (wr := [(ywa, .inl (cI, 6, .inl a8)), (yta, .inl (cI, 120, .inl tp))]) hF (c_X9_newWalk l D cI cJ cZ cS ta sa sv H.size h0 ys yk yo yt mk0 yfa yfe mL mS mM yro yhe ygr mF mC mY yta mz (nf bb mz (nx bb mz (mSt bb mz (nx bb mz u8)))) (nx bb mz (nx bb mz (mSt bb mz (nx bb mz u8)))) (mV bb mz (nx bb mz u8)) 0 ywa ybi ysi ynu ymo ms P Rn Wn fae fal fau fao farn farp fak fawn fawp fat fas z_93 z_94 (mV bb mz (nx bb mz u8)) 0 (by omega) (by omega) (by omega) hs0 hs1 hs2 hsS hsM hsp hsr hsw hsR hsG) kv_X9_196 ⟨rfl, rfl, Nat.le_of_ble_eq_true rfl, Nat.le_of_ble_eq_true rfl⟩ ⟨Nat.le_of_ble_eq_true rfl, Nat.le_of_ble_eq_true rfl⟩ hK hN hZ hP hD hS hA [2, 0] [1, 3] rfl rfl rfl rfl (by decide) 0 rfl rfl rfl rfl hl.1 rfl (Nat.le_of_ble_eq_true rfl) dX9_walkItem_203 (fun r_95 u_r_95 H locs hw_r_95 hP hD hS => ?_)
                  obtain ⟨ms2_96, rfl⟩ : ∃ z, z = u_r_95 := ⟨_, rfl⟩
                  try dsimp only at hw_r_95
                  obtain ⟨hw_r_95, i_97, i_98, i_99, i_100, i_101, i_102, i_103, i_104, i_105, i_106⟩ := hw_r_95
                  have hP : va_P D vwCl [(ywa, .inl (cI, 6, .inl a8)), (yta, .inl (cI, 120, .inl tp)), (h0, .inr (9, [.ref ys, .ref yk, .ref yo, .ref yt, .int mk0, .ref yfa, .ref yfe, .int mL, .int mS, .int mM, .ref yro, .ref yhe, .ref ygr, .int mF, .int mC, .int mY, .ref yta, .int (nI (mz)), .int (nI ((nf bb mz (nx bb mz (mSt bb mz (nx bb mz u8)))))), .int (nI ((nx bb mz (nx bb mz (mSt bb mz (nx bb mz u8)))))), .int (mV bb mz (nx bb mz u8)), .int 0, .ref ywa, .ref ybi, .ref ysi, .ref ynu, .ref ymo])), (ys, .inl (cI, 449, .inl ms2_96))] H := hP
                  have hD : va_D A [(ywa, .inl (cI, 6, .inl a8)), (yta, .inl (cI, 120, .inl tp)), (h0, .inr (9, [.ref ys, .ref yk, .ref yo, .ref yt, .int mk0, .ref yfa, .ref yfe, .int mL, .int mS, .int mM, .ref yro, .ref yhe, .ref ygr, .int mF, .int mC, .int mY, .ref yta, .int (nI (mz)), .int (nI ((nf bb mz (nx bb mz (mSt bb mz (nx bb mz u8)))))), .int (nI ((nx bb mz (nx bb mz (mSt bb mz (nx bb mz u8)))))), .int (mV bb mz (nx bb mz u8)), .int 0, .ref ywa, .ref ybi, .ref ysi, .ref ynu, .ref ymo])), (ys, .inl (cI, 449, .inl ms2_96))] := hD
                  subst hw_r_95
                  refine lv_imul hx hb dX9_walkItem_206 ?_
                  refine xl_i (y := nI (9 * Wn)) (pk_mul 9 Wn) ?_
                  refine lv_iadd hx hb dX9_walkItem_207 ?_
                  refine xl_i (y := nI (377 + (9 * Wn))) (nI_add 377 (9 * Wn)) ?_
                  refine lv_istore (lv' := [(4, .int (nI (377 + (9 * Wn)))), (3, .int 0), (2, .int (mV bb mz (nx bb mz u8))), (1, .int (nI (n8))), (0, .ref h0)]) hx hb dX9_walkItem_208 hl (by decide) rfl (fun ls hl => ?_)
                  refine lv_aload_n hx hb dX9_walkItem_210 rfl (lv_at hl 4 rfl) ?_
                  refine xg hF kf_X9_7 hK hP 2 rfl rfl dX9_walkItem_211 ?_
                  refine lv_iload hx hb dX9_walkItem_214 (lv_at hl 0 rfl) ?_
                  refine lv_iload_n hx hb dX9_walkItem_216 rfl (lv_at hl 3 rfl) ?_
                  refine va_iast hx hb hK hP hD hS 3 0 rfl rfl (vp_in_nI (show 377 + (9 * Wn) < 449 by omega) (by decide)) dX9_walkItem_217 (fun H locs hP hD hS => ?_)
                  rw [nI_clamp (show 377 + (9 * Wn) < 2 ^ 31 by omega)] at hP hD
                  obtain ⟨f_107, ef_107⟩ : ∃ g, g = upd ms2_96 (377 + (9 * Wn)) (nI (n8)) := ⟨_, rfl⟩
                  rw [← ef_107] at hP hD
                  have k0_f_107 : f_107 0 = nI P := by rw [ef_107]; exact (pk_un (show 0 ≠ (377 + (9 * Wn)) by omega)).trans i_97
                  have k1_f_107 : f_107 1 = nI Rn := by rw [ef_107]; exact (pk_un (show 1 ≠ (377 + (9 * Wn)) by omega)).trans i_98
                  have k2_f_107 : f_107 2 = nI (Wn + 1) := by rw [ef_107]; exact (pk_un (show 2 ≠ (377 + (9 * Wn)) by omega)).trans i_99
                  have kS_f_107 : SI f_107 := by rw [ef_107]; exact SI.upd i_100 (okS.wl (w := Wn) (q := n8) (by omega) (by omega) (by omega))
                  have kM_f_107 : MI f_107 := by rw [ef_107]; exact MI.upd i_101 (okM.out (show (377 + (9 * Wn)) < 13 ∨ 113 ≤ (377 + (9 * Wn)) by omega))
                  have kR_f_107 : RI Rn f_107 := by rw [ef_107]; exact RI.upd i_105 (fun r9 hr9 e9 => by omega)
                  have kG_f_107 : FR P f_107 fae fal fau fao farn farp fak (upd (upd fawn Wn 2) (Wn) (nI (n8))) (upd (upd fawp (Wn * 6 + 0) (nI z_93)) (Wn * 6 + 1) (nI z_94)) (upd fat Wn (mV bb mz (nx bb mz u8))) (upd fas Wn 0) := by rw [ef_107]; exact FR.pwn i_106 (show Wn < 8 by omega) (by omega)
                  have hP : va_P D vwCl [(ywa, .inl (cI, 6, .inl a8)), (yta, .inl (cI, 120, .inl tp)), (h0, .inr (9, [.ref ys, .ref yk, .ref yo, .ref yt, .int mk0, .ref yfa, .ref yfe, .int mL, .int mS, .int mM, .ref yro, .ref yhe, .ref ygr, .int mF, .int mC, .int mY, .ref yta, .int (nI (mz)), .int (nI ((nf bb mz (nx bb mz (mSt bb mz (nx bb mz u8)))))), .int (nI ((nx bb mz (nx bb mz (mSt bb mz (nx bb mz u8)))))), .int (mV bb mz (nx bb mz u8)), .int 0, .ref ywa, .ref ybi, .ref ysi, .ref ynu, .ref ymo])), (ys, .inl (cI, 449, .inl f_107))] H := hP
                  have hD : va_D A [(ywa, .inl (cI, 6, .inl a8)), (yta, .inl (cI, 120, .inl tp)), (h0, .inr (9, [.ref ys, .ref yk, .ref yo, .ref yt, .int mk0, .ref yfa, .ref yfe, .int mL, .int mS, .int mM, .ref yro, .ref yhe, .ref ygr, .int mF, .int mC, .int mY, .ref yta, .int (nI (mz)), .int (nI ((nf bb mz (nx bb mz (mSt bb mz (nx bb mz u8)))))), .int (nI ((nx bb mz (nx bb mz (mSt bb mz (nx bb mz u8)))))), .int (mV bb mz (nx bb mz u8)), .int 0, .ref ywa, .ref ybi, .ref ysi, .ref ynu, .ref ymo])), (ys, .inl (cI, 449, .inl f_107))] := hD
                  refine lv_iconst (v := 2) hx hb dX9_walkItem_218 (by decide) ?_
                  refine lv_istore (lv' := [(5, .int 2), (4, .int (nI (377 + (9 * Wn)))), (3, .int 0), (2, .int (mV bb mz (nx bb mz u8))), (1, .int (nI (n8))), (0, .ref h0)]) hx hb dX9_walkItem_219 hl (by decide) rfl (fun ls hl => ?_)
                  suffices loop_221 : ∀ (n_221 : Nat) (i : Nat) (s8 : Nat → Int32) (w8 : Nat → Int32) (H : Heap) (locs : List Loc) (ls : Array Slot), n8 - i < n_221 → (2 ≤ i) → (i ≤ n8) → (w8 = wkR bb mz u9 Wn i fawp) → (s8 0 = nI P) → (s8 1 = nI Rn) → (s8 2 = nI (Wn + 1)) → (SI s8) → (MI s8) → (P ≤ 10) → (Rn ≤ 8) → (Wn + 1 ≤ 8) → (RI Rn s8) → (FR P s8 fae fal fau fao farn farp fak (upd (upd fawn Wn 2) (Wn) (nI (n8))) w8 (upd fat Wn (mV bb mz (nx bb mz u8))) (upd fas Wn 0)) → va_P D vwCl [(ywa, .inl (cI, 6, .inl a8)), (yta, .inl (cI, 120, .inl tp)), (h0, .inr (9, [.ref ys, .ref yk, .ref yo, .ref yt, .int mk0, .ref yfa, .ref yfe, .int mL, .int mS, .int mM, .ref yro, .ref yhe, .ref ygr, .int mF, .int mC, .int mY, .ref yta, .int (nI (mz)), .int (nI ((nf bb mz (nx bb mz (mSt bb mz (nx bb mz u8)))))), .int (nI ((nx bb mz (nx bb mz (mSt bb mz (nx bb mz u8)))))), .int (mV bb mz (nx bb mz u8)), .int 0, .ref ywa, .ref ybi, .ref ysi, .ref ynu, .ref ymo])), (ys, .inl (cI, 449, .inl s8))] H → va_D A [(ywa, .inl (cI, 6, .inl a8)), (yta, .inl (cI, 120, .inl tp)), (h0, .inr (9, [.ref ys, .ref yk, .ref yo, .ref yt, .int mk0, .ref yfa, .ref yfe, .int mL, .int mS, .int mM, .ref yro, .ref yhe, .ref ygr, .int mF, .int mC, .int mY, .ref yta, .int (nI (mz)), .int (nI ((nf bb mz (nx bb mz (mSt bb mz (nx bb mz u8)))))), .int (nI ((nx bb mz (nx bb mz (mSt bb mz (nx bb mz u8)))))), .int (mV bb mz (nx bb mz u8)), .int 0, .ref ywa, .ref ybi, .ref ysi, .ref ynu, .ref ymo])), (ys, .inl (cI, 449, .inl s8))] → va_S A s.heap H locs → lv_has ls 6 [(5, .int (nI (i))), (4, .int (nI (377 + (9 * Wn)))), (3, .int 0), (2, .int (mV bb mz (nx bb mz u8))), (1, .int (nI (n8))), (0, .ref h0)] → W p l e ({ frames := 6, cells := 0, slots := 0, locals := 136 }) s m ([.ref h0] : List Value).toArray below meth c H locs 0 0 (MQ below (XQv (fun (u : Nat × Int32 × Int32 × (Nat → Int32) × Nat × (Nat → Int32) × (Nat → Int32) × (Nat → Int32) × (Nat → Int32) × (Nat → Int32)) => match u with | (u2, w2, v2, ms2, W2, wa2, gwn, gwp, gt, gs) => (((spWalk bb mz u9 P Wn = Sum.inr u2) ∧ (w2 = 0) ∧ (W2 = Wn + 1) ∧ (nx bb mz u9 ≤ u2) ∧ (gwn = upd fawn Wn (nI (wkC bb mz u9))) ∧ (gwp = wkR bb mz u9 Wn (wkC bb mz u9) fawp) ∧ (gt = upd fat Wn (wkTo bb mz u9)) ∧ (gs = upd fas Wn (wkSl bb mz u9))) ∨ ((spWalk bb mz u9 P Wn = Sum.inl u2) ∧ (w2 = 1))) ∧ (u2 ≤ mz) ∧ (ms2 0 = nI P) ∧ (ms2 1 = nI Rn) ∧ (ms2 2 = nI W2) ∧ (SI ms2) ∧ (MI ms2) ∧ (P ≤ 10) ∧ (Rn ≤ 8) ∧ (W2 ≤ 8) ∧ (RI Rn ms2) ∧ (FR P ms2 fae fal fau fao farn farp fak gwn gwp gt gs)) D (fun (u : Nat × Int32 × Int32 × (Nat → Int32) × Nat × (Nat → Int32) × (Nat → Int32) × (Nat → Int32) × (Nat → Int32) × (Nat → Int32)) => match u with | (u2, w2, v2, ms2, W2, wa2, gwn, gwp, gt, gs) => [(h0, .inr (9, [.ref ys, .ref yk, .ref yo, .ref yt, .int mk0, .ref yfa, .ref yfe, .int mL, .int mS, .int mM, .ref yro, .ref yhe, .ref ygr, .int mF, .int mC, .int mY, .ref yta, .int (nI (mz)), .int (nI (nf bb mz u2)), .int (nI (nx bb mz u2)), .int v2, .int w2, .ref ywa, .ref ybi, .ref ysi, .ref ynu, .ref ymo])), (ys, .inl (cI, 449, .inl ms2)), (yta, .inl (cI, 120, .inl tp)), (ywa, .inl (cI, 6, .inl wa2))]) A) ([.ref h0] : List Value).toArray s 0 0 A) (F0 m 221 ls []) by
                    exact loop_221 _ 2 f_107 (upd (upd fawp (Wn * 6 + 0) (nI z_93)) (Wn * 6 + 1) (nI z_94)) _ _ _ (Nat.lt_succ_self _) (by omega) (by omega) (wkR_2 (ez_93.symm.trans (hA9 0 (by omega))) (ez_94.symm.trans (hA9 1 (by omega)))) k0_f_107 k1_f_107 k2_f_107 kS_f_107 kM_f_107 i_102 i_103 i_104 kR_f_107 kG_f_107 hP hD hS (lv_sub hl [0, 1, 2, 3, 4, 5] rfl)
                  intro n_221
                  induction n_221 with
                  | zero =>
                    intro i s8 w8 H locs ls hm_221
                    exact absurd hm_221 (Nat.not_lt_zero _)
                  | succ n_221 ih_221 =>
                    intro i s8 w8 H locs ls hm_221 hi2 hi hw8 ht0 ht1 ht2 htS htM htp htr htw htR htG hP hD hS hl
                    refine lv_iload hx hb dX9_walkItem_221 (lv_at hl 0 rfl) ?_
                    refine lv_iload_n hx hb dX9_walkItem_223 rfl (lv_at hl 4 rfl) ?_
                    refine lv_icmp_ge (tgt := 252) hx hb dX9_walkItem_224 (by decide) (fun c_108 => ?_) (fun c_108 => ?_)
                    · skip
                      have nc_108 : n8 ≤ i := xn_le (a := n8) (b := i) (by omega) (by omega) c_108
                      exact W.vret hx hb hr (fun t ht hW => ⟨⟨(nx bb mz (mSt bb mz (nx bb mz u8)), 0, (mV bb mz (nx bb mz u8)), s8, Wn + 1, a8, upd (upd fawn Wn 2) (Wn) (nI (n8)), w8, upd fat Wn (mV bb mz (nx bb mz u8)), upd fas Wn 0), rfl, ⟨Or.inl ⟨hL8.trans ((spSt_six (by omega)).trans ((cif_pos (show 2 ≤ n8 by omega)).trans ((cif_pos (h_33)).trans ((cif_pos (h_44)).trans (cif_neg (h_53)))))), rfl, rfl, by omega, (upd_upd.trans (congrArg (fun n => upd fawn Wn (nI n)) (hN8.trans (wkn_six (by omega))).symm)), (hw8.trans (congrArg (fun n => wkR bb mz u9 Wn n fawp) ((show i = n8 by omega).trans (hN8.trans (wkn_six (by omega))).symm))), (congrArg (upd fat Wn) (wkTo_e (wkE_e (hN8.trans (wkn_six (by omega))) hu8x))), (congrArg (upd fas Wn) (wkSl_n (wkE_e (hN8.trans (wkn_six (by omega))) hu8x) h_53))⟩, (by first | assumption | omega), ht0, ht1, ht2, htS, htM, htp, htr, htw, htR, htG⟩, by rw [ht]; exact hP.sub [2, 3, 1, 0] rfl, hD.sub [2, 3, 1, 0] (by decide) rfl⟩, hS.F ht⟩) hS.2.2 dX9_walkItem_252 hlk
                    · skip
                      have nc_108 : i < n8 := xn_nle (a := n8) (b := i) (by omega) (by omega) c_108
                      refine lv_aload_n hx hb dX9_walkItem_227 rfl (lv_at hl 5 rfl) ?_
                      refine xg hF kf_X9_7 hK hP 2 rfl rfl dX9_walkItem_228 ?_
                      refine lv_iload hx hb dX9_walkItem_231 (lv_at hl 1 rfl) ?_
                      refine lv_iconst (v := 3) hx hb dX9_walkItem_233 (by decide) ?_
                      refine lv_iadd hx hb dX9_walkItem_234 ?_
                      refine xl_i (y := nI (377 + (9 * Wn) + 3)) (nI_add (377 + (9 * Wn)) 3) ?_
                      refine lv_iload hx hb dX9_walkItem_235 (lv_at hl 0 rfl) ?_
                      refine lv_iadd hx hb dX9_walkItem_237 ?_
                      refine xl_i (y := nI (377 + (9 * Wn) + 3 + i)) (nI_add (377 + (9 * Wn) + 3) i) ?_
                      refine lv_aload_n hx hb dX9_walkItem_238 rfl (lv_at hl 5 rfl) ?_
                      refine xg hF kf_X9_40 hK hP 2 rfl rfl dX9_walkItem_239 ?_
                      refine lv_iload hx hb dX9_walkItem_242 (lv_at hl 0 rfl) ?_
                      refine va_iald hx hb hK hP 0 0 rfl rfl (vp_in_nI (show i < 6 by omega) (by decide)) dX9_walkItem_244 ?_
                      refine xl_i (y := a8 i) (congrArg a8 (nI_clamp (show i < 2 ^ 31 by omega))) ?_
                      obtain ⟨z_109, ez_109, hz_1090⟩ := wk_A.get hA8 rfl (show i < n8 by omega)
                      refine xl_i (y := nI (z_109)) ez_109 ?_
                      refine va_iast hx hb hK hP hD hS 3 0 rfl rfl (vp_in_nI (show 377 + (9 * Wn) + 3 + i < 449 by omega) (by decide)) dX9_walkItem_245 (fun H locs hP hD hS => ?_)
                      rw [nI_clamp (show 377 + (9 * Wn) + 3 + i < 2 ^ 31 by omega)] at hP hD
                      obtain ⟨f_110, ef_110⟩ : ∃ g, g = upd s8 (377 + (9 * Wn) + 3 + i) (nI (z_109)) := ⟨_, rfl⟩
                      rw [← ef_110] at hP hD
                      have k0_f_110 : f_110 0 = nI P := by rw [ef_110]; exact (pk_un (show 0 ≠ (377 + (9 * Wn) + 3 + i) by omega)).trans ht0
                      have k1_f_110 : f_110 1 = nI Rn := by rw [ef_110]; exact (pk_un (show 1 ≠ (377 + (9 * Wn) + 3 + i) by omega)).trans ht1
                      have k2_f_110 : f_110 2 = nI (Wn + 1) := by rw [ef_110]; exact (pk_un (show 2 ≠ (377 + (9 * Wn) + 3 + i) by omega)).trans ht2
                      have kS_f_110 : SI f_110 := by rw [ef_110]; exact SI.upd htS (okS.ws (w := Wn) (i := i) (by omega) (by omega) (by omega) (show z_109 < 10 by omega))
                      have kM_f_110 : MI f_110 := by rw [ef_110]; exact MI.upd htM (okM.out (show (377 + (9 * Wn) + 3 + i) < 13 ∨ 113 ≤ (377 + (9 * Wn) + 3 + i) by omega))
                      have kR_f_110 : RI Rn f_110 := by rw [ef_110]; exact RI.upd htR (fun r9 hr9 e9 => by omega)
                      have kG_f_110 : FR P f_110 fae fal fau fao farn farp fak (upd (upd fawn Wn 2) (Wn) (nI (n8))) (upd w8 (Wn * 6 + i) (nI (z_109))) (upd fat Wn (mV bb mz (nx bb mz u8))) (upd fas Wn 0) := by rw [ef_110]; exact FR.pwp htG (show Wn < 8 by omega) (show i < 6 by omega) (by omega)
                      have hP : va_P D vwCl [(ywa, .inl (cI, 6, .inl a8)), (yta, .inl (cI, 120, .inl tp)), (h0, .inr (9, [.ref ys, .ref yk, .ref yo, .ref yt, .int mk0, .ref yfa, .ref yfe, .int mL, .int mS, .int mM, .ref yro, .ref yhe, .ref ygr, .int mF, .int mC, .int mY, .ref yta, .int (nI (mz)), .int (nI ((nf bb mz (nx bb mz (mSt bb mz (nx bb mz u8)))))), .int (nI ((nx bb mz (nx bb mz (mSt bb mz (nx bb mz u8)))))), .int (mV bb mz (nx bb mz u8)), .int 0, .ref ywa, .ref ybi, .ref ysi, .ref ynu, .ref ymo])), (ys, .inl (cI, 449, .inl f_110))] H := hP
                      have hD : va_D A [(ywa, .inl (cI, 6, .inl a8)), (yta, .inl (cI, 120, .inl tp)), (h0, .inr (9, [.ref ys, .ref yk, .ref yo, .ref yt, .int mk0, .ref yfa, .ref yfe, .int mL, .int mS, .int mM, .ref yro, .ref yhe, .ref ygr, .int mF, .int mC, .int mY, .ref yta, .int (nI (mz)), .int (nI ((nf bb mz (nx bb mz (mSt bb mz (nx bb mz u8)))))), .int (nI ((nx bb mz (nx bb mz (mSt bb mz (nx bb mz u8)))))), .int (mV bb mz (nx bb mz u8)), .int 0, .ref ywa, .ref ybi, .ref ysi, .ref ynu, .ref ymo])), (ys, .inl (cI, 449, .inl f_110))] := hD
                      refine lv_iinc (v := nI (i + 1)) (lv' := [(5, .int (nI (i + 1))), (4, .int (nI (377 + (9 * Wn)))), (3, .int 0), (2, .int (mV bb mz (nx bb mz u8))), (1, .int (nI (n8))), (0, .ref h0)]) hx hb dX9_walkItem_246 hl (k := 0) rfl (nI_1 (i)) (by decide) rfl (fun ls hl => ?_)
                      refine lv_goto (tgt := 221) hx hb dX9_walkItem_249 (by decide) ?_
                      exact ih_221 (i + 1) f_110 (upd w8 (Wn * 6 + i) (nI (z_109))) _ _ _ (by omega) (by omega) (by omega) (by rw [hw8]; exact wkR_put rfl (ez_109.symm.trans (hA9 i (by omega)))) k0_f_110 k1_f_110 k2_f_110 kS_f_110 kM_f_110 htp htr htw kR_f_110 kG_f_110 (hP.sub [0, 1, 2, 3] rfl) (hD.sub [0, 1, 2, 3] (by decide) rfl) hS (lv_sub hl [0, 1, 2, 3, 4, 5] rfl)
              · skip
                subst h_49
                subst h_50
                refine lv_aload_n hx hb dX9_walkItem_133 rfl (lv_at hl 1 rfl) ?_
                refine xg hF kf_X9_275 hK hP 2 rfl rfl dX9_walkItem_134 ?_
                refine lv_istore_n (lv' := [(2, .int v2_41), (1, .int (nI (n8))), (0, .ref h0)]) hx hb dX9_walkItem_137 rfl hl (by decide) rfl (fun ls hl => ?_)
                refine lv_iconst (v := 0) hx hb dX9_walkItem_138 (by decide) ?_
                refine lv_istore_n (lv' := [(3, .int 0), (2, .int v2_41), (1, .int (nI (n8))), (0, .ref h0)]) hx hb dX9_walkItem_139 rfl hl (by decide) rfl (fun ls hl => ?_)
                refine lv_aload_n hx hb dX9_walkItem_140 rfl (lv_at hl 3 rfl) ?_
                refine lv_bipush (v := 115) hx hb dX9_walkItem_141 (by decide) ?_
                refine lv_bipush (v := 108) hx hb dX9_walkItem_143 (by decide) ?_
                refine lv_bipush (v := 97) hx hb dX9_walkItem_145 (by decide) ?_
                refine lv_bipush (v := 99) hx hb dX9_walkItem_147 (by decide) ?_
                refine lv_bipush (v := 107) hx hb dX9_walkItem_149 (by decide) ?_
                refine lv_iconst (v := 0) hx hb dX9_walkItem_151 (by decide) ?_
                refine lv_iconst (v := 0) hx hb dX9_walkItem_152 (by decide) ?_
                refine xc_Vr hF (c_X9_isWordW l D cI cJ cZ cS ta sa sv H.size h0 ys yk yo yt mk0 yfa yfe mL mS mM yro yhe ygr mF mC mY yta mz v2_41 ywa ybi ysi ynu ymo tp 115 108 97 99 107 0 0 (mSt bb mz (nx bb mz u8)) bb (by omega) hbb (by omega)) kv_X9_290 ⟨rfl, rfl, Nat.le_of_ble_eq_true rfl, Nat.le_of_ble_eq_true rfl⟩ ⟨Nat.le_of_ble_eq_true rfl, Nat.le_of_ble_eq_true rfl⟩ hK hN hZ hP hD hS hA [2, 3] rfl rfl 0 rfl rfl rfl rfl hl.1 rfl (Nat.le_of_ble_eq_true rfl) dX9_walkItem_153 (fun r_111 hw_r_111 => ?_)
                subst hw_r_111
                refine lv_if_eq (tgt := 176) hx hb dX9_walkItem_156 (by decide) (fun c_112 => ?_) (fun c_112 => absurd (by decide) c_112)
                refine lv_aload_n hx hb dX9_walkItem_176 rfl (lv_at hl 3 rfl) ?_
                refine xg hF kf_X9_266 hK hP 2 rfl rfl dX9_walkItem_177 ?_
                refine lv_if_ne (tgt := 252) hx hb dX9_walkItem_180 (by decide) (fun c_113 => ?_) (fun c_113 => absurd c_113 (by decide))
                exact W.vret hx hb hr (fun t ht hW => ⟨⟨(mSt bb mz (nx bb mz u8), 1, v2_41, ms, Wn, a8, fawn, fawp, fat, fas), rfl, ⟨Or.inr ⟨hL8.trans ((spSt_six (by omega)).trans ((cif_pos (show 2 ≤ n8 by omega)).trans ((cif_pos (h_33)).trans (cif_neg (h_48))))), rfl⟩, (by first | assumption | omega), hs0, hs1, hs2, hsS, hsM, hsp, hsr, hsw, hsR, hsG⟩, by rw [ht]; exact hP.sub [2, 0, 3, 1] rfl, hD.sub [2, 0, 3, 1] (by decide) rfl⟩, hS.F ht⟩) hS.2.2 dX9_walkItem_252 hlk
            · skip
              refine xc_Vv (wr := [(ys, .inl (cI, 449, .inl ms)), (ywa, .inl (cI, 6, .inl a8))]) hF (c_X9_needs0 l D cI cJ cZ cS ta sa sv H.size h0 ys yk yo yt mk0 yfa yfe mL mS mM yro yhe ygr mF mC mY yta mz mv ywa ybi ysi ynu ymo tp u8 bb (by omega) hbb (by omega)) kv_X9_278 ⟨rfl, rfl, Nat.le_of_ble_eq_true rfl, Nat.le_of_ble_eq_true rfl⟩ ⟨Nat.le_of_ble_eq_true rfl, Nat.le_of_ble_eq_true rfl⟩ hK hN hZ hP hD hS hA [2, 3] [0, 1] rfl rfl rfl rfl (by decide) 0 rfl rfl rfl rfl hl.1 rfl (Nat.le_of_ble_eq_true rfl) dX9_walkItem_120 (fun u_r_114 H locs hw_r_114 hP hD hS => ?_)
              have hP : va_P D vwCl [(ys, .inl (cI, 449, .inl ms)), (ywa, .inl (cI, 6, .inl a8)), (h0, .inr (9, [.ref ys, .ref yk, .ref yo, .ref yt, .int mk0, .ref yfa, .ref yfe, .int mL, .int mS, .int mM, .ref yro, .ref yhe, .ref ygr, .int mF, .int mC, .int mY, .ref yta, .int (nI (mz)), .int (nI (nf bb mz u8)), .int (nI (nx bb mz u8)), .int mv, .int 1, .ref ywa, .ref ybi, .ref ysi, .ref ynu, .ref ymo])), (yta, .inl (cI, 120, .inl tp))] H := hP
              have hD : va_D A [(ys, .inl (cI, 449, .inl ms)), (ywa, .inl (cI, 6, .inl a8)), (h0, .inr (9, [.ref ys, .ref yk, .ref yo, .ref yt, .int mk0, .ref yfa, .ref yfe, .int mL, .int mS, .int mM, .ref yro, .ref yhe, .ref ygr, .int mF, .int mC, .int mY, .ref yta, .int (nI (mz)), .int (nI (nf bb mz u8)), .int (nI (nx bb mz u8)), .int mv, .int 1, .ref ywa, .ref ybi, .ref ysi, .ref ynu, .ref ymo])), (yta, .inl (cI, 120, .inl tp))] := hD
              refine lv_aload_n hx hb dX9_walkItem_123 rfl (lv_at hl 1 rfl) ?_
              refine lv_sipush (v := (-9999)) hx hb dX9_walkItem_124 (by decide) ?_
              refine lv_sipush (v := 9999) hx hb dX9_walkItem_127 (by decide) ?_
              refine xc_Vv (wr := [(ys, .inl (cI, 449, .inl ms)), (ywa, .inl (cI, 6, .inl a8))]) hF (c_X9_mileW l D cI cJ cZ cS ta sa sv H.size h0 ys yk yo yt mk0 yfa yfe mL mS mM yro yhe ygr mF mC mY yta mz mv ywa ybi ysi ynu ymo tp (-9999) 9999 u8 bb (by omega) hbb (by omega)) kv_X9_287 ⟨rfl, rfl, Nat.le_of_ble_eq_true rfl, Nat.le_of_ble_eq_true rfl⟩ ⟨Nat.le_of_ble_eq_true rfl, Nat.le_of_ble_eq_true rfl⟩ hK hN hZ hP hD hS hA [2, 3] [0, 1] rfl rfl rfl rfl (by decide) 0 rfl rfl rfl rfl hl.1 rfl (Nat.le_of_ble_eq_true rfl) dX9_walkItem_130 (fun u_r_115 H locs hw_r_115 hP hD hS => ?_)
              have hP : va_P D vwCl [(ys, .inl (cI, 449, .inl ms)), (ywa, .inl (cI, 6, .inl a8)), (h0, .inr (9, [.ref ys, .ref yk, .ref yo, .ref yt, .int mk0, .ref yfa, .ref yfe, .int mL, .int mS, .int mM, .ref yro, .ref yhe, .ref ygr, .int mF, .int mC, .int mY, .ref yta, .int (nI (mz)), .int (nI (nf bb mz u8)), .int (nI (nx bb mz u8)), .int mv, .int 1, .ref ywa, .ref ybi, .ref ysi, .ref ynu, .ref ymo])), (yta, .inl (cI, 120, .inl tp))] H := hP
              have hD : va_D A [(ys, .inl (cI, 449, .inl ms)), (ywa, .inl (cI, 6, .inl a8)), (h0, .inr (9, [.ref ys, .ref yk, .ref yo, .ref yt, .int mk0, .ref yfa, .ref yfe, .int mL, .int mS, .int mM, .ref yro, .ref yhe, .ref ygr, .int mF, .int mC, .int mY, .ref yta, .int (nI (mz)), .int (nI (nf bb mz u8)), .int (nI (nx bb mz u8)), .int mv, .int 1, .ref ywa, .ref ybi, .ref ysi, .ref ynu, .ref ymo])), (yta, .inl (cI, 120, .inl tp))] := hD
              refine lv_aload_n hx hb dX9_walkItem_133 rfl (lv_at hl 1 rfl) ?_
              refine xg hF kf_X9_275 hK hP 2 rfl rfl dX9_walkItem_134 ?_
              refine lv_istore_n (lv' := [(2, .int mv), (1, .int (nI (n8))), (0, .ref h0)]) hx hb dX9_walkItem_137 rfl hl (by decide) rfl (fun ls hl => ?_)
              refine lv_iconst (v := 0) hx hb dX9_walkItem_138 (by decide) ?_
              refine lv_istore_n (lv' := [(3, .int 0), (2, .int mv), (1, .int (nI (n8))), (0, .ref h0)]) hx hb dX9_walkItem_139 rfl hl (by decide) rfl (fun ls hl => ?_)
              refine lv_aload_n hx hb dX9_walkItem_140 rfl (lv_at hl 3 rfl) ?_
              refine lv_bipush (v := 115) hx hb dX9_walkItem_141 (by decide) ?_
              refine lv_bipush (v := 108) hx hb dX9_walkItem_143 (by decide) ?_
              refine lv_bipush (v := 97) hx hb dX9_walkItem_145 (by decide) ?_
              refine lv_bipush (v := 99) hx hb dX9_walkItem_147 (by decide) ?_
              refine lv_bipush (v := 107) hx hb dX9_walkItem_149 (by decide) ?_
              refine lv_iconst (v := 0) hx hb dX9_walkItem_151 (by decide) ?_
              refine lv_iconst (v := 0) hx hb dX9_walkItem_152 (by decide) ?_
              refine xc_Vr hF (c_X9_isWordW l D cI cJ cZ cS ta sa sv H.size h0 ys yk yo yt mk0 yfa yfe mL mS mM yro yhe ygr mF mC mY yta mz mv ywa ybi ysi ynu ymo tp 115 108 97 99 107 0 0 u8 bb (by omega) hbb (by omega)) kv_X9_290 ⟨rfl, rfl, Nat.le_of_ble_eq_true rfl, Nat.le_of_ble_eq_true rfl⟩ ⟨Nat.le_of_ble_eq_true rfl, Nat.le_of_ble_eq_true rfl⟩ hK hN hZ hP hD hS hA [2, 3] rfl rfl 0 rfl rfl rfl rfl hl.1 rfl (Nat.le_of_ble_eq_true rfl) dX9_walkItem_153 (fun r_116 hw_r_116 => ?_)
              subst hw_r_116
              refine lv_if_eq (tgt := 176) hx hb dX9_walkItem_156 (by decide) (fun c_117 => ?_) (fun c_117 => absurd (by decide) c_117)
              refine lv_aload_n hx hb dX9_walkItem_176 rfl (lv_at hl 3 rfl) ?_
              refine xg hF kf_X9_266 hK hP 2 rfl rfl dX9_walkItem_177 ?_
              refine lv_if_ne (tgt := 252) hx hb dX9_walkItem_180 (by decide) (fun c_118 => ?_) (fun c_118 => absurd c_118 (by decide))
              exact W.vret hx hb hr (fun t ht hW => ⟨⟨(u8, 1, mv, ms, Wn, a8, fawn, fawp, fat, fas), rfl, ⟨Or.inr ⟨hL8.trans ((spSt_six (by omega)).trans ((cif_pos (show 2 ≤ n8 by omega)).trans (cif_neg (h_34)))), rfl⟩, (by first | assumption | omega), hs0, hs1, hs2, hsS, hsM, hsp, hsr, hsw, hsR, hsG⟩, by rw [ht]; exact hP.sub [2, 0, 3, 1] rfl, hD.sub [2, 0, 3, 1] (by decide) rfl⟩, hS.F ht⟩) hS.2.2 dX9_walkItem_252 hlk
          · skip
            have nc_31 : n8 < 6 := xn_nle (a := 6) (b := n8) (by omega) (by omega) c_31
            have htk8 := tk_le (b := bb) hu8
            refine lv_iload_n hx hb dX9_walkItem_35 rfl (lv_at hl 0 rfl) ?_
            refine lv_iconst (v := 2) hx hb dX9_walkItem_36 (by decide) ?_
            refine lv_icmp_lt (tgt := 54) hx hb dX9_walkItem_37 (by decide) (fun c_119 => ?_) (fun c_119 => ?_)
            · skip
              have nc_119 : n8 < 2 := xn_lt (a := n8) (b := 2) (by omega) (by omega) c_119
              refine lv_aload_n hx hb dX9_walkItem_54 rfl (lv_at hl 1 rfl) ?_
              refine xc_Vr hF (c_X9_numberHere0 l D cI cJ cZ cS ta sa sv H.size h0 ys yk yo yt mk0 yfa yfe mL mS mM yro yhe ygr mF mC mY yta mz mv ywa ybi ysi ynu ymo tp u8 bb (by omega) hbb (by omega)) kv_X9_284 ⟨rfl, rfl, Nat.le_of_ble_eq_true rfl, Nat.le_of_ble_eq_true rfl⟩ ⟨Nat.le_of_ble_eq_true rfl, Nat.le_of_ble_eq_true rfl⟩ hK hN hZ hP hD hS hA [2, 3] rfl rfl 0 rfl rfl rfl rfl hl.1 rfl (Nat.le_of_ble_eq_true rfl) dX9_walkItem_55 (fun r_120 hw_r_120 => ?_)
              rcases hw_r_120 with ⟨rfl, h_121⟩ | ⟨rfl, h_122⟩
              · skip
                refine lv_istore_n (lv' := [(2, .int (nI (num bb (nf bb mz u8) (nx bb mz u8)))), (1, .int (nI (n8))), (0, .ref h0)]) hx hb dX9_walkItem_58 rfl hl (by decide) rfl (fun ls hl => ?_)
                refine lv_aload_n hx hb dX9_walkItem_59 rfl (lv_at hl 2 rfl) ?_
                refine lv_aload_n hx hb dX9_walkItem_60 rfl (lv_at hl 2 rfl) ?_
                refine lv_iload_n hx hb dX9_walkItem_61 rfl (lv_at hl 0 rfl) ?_
                refine xc_Vr hF (c_X9_isPlace l D cI cJ cZ cS ta sa sv H.size h0 ys yk yo yt mk0 yfa yfe mL mS mM yro yhe ygr mF mC mY yta mz (nf bb mz u8) (nx bb mz u8) mv 0 ywa ybi ysi ynu ymo ms P Rn Wn fae fal fau fao farn farp fak fawn fawp fat fas (nI (num bb (nf bb mz u8) (nx bb mz u8))) hs0 hs1 hs2 hsS hsM hsp hsr hsw hsR hsG) kv_X9_61 ⟨rfl, rfl, Nat.le_of_ble_eq_true rfl, Nat.le_of_ble_eq_true rfl⟩ ⟨Nat.le_of_ble_eq_true rfl, Nat.le_of_ble_eq_true rfl⟩ hK hN hZ hP hD hS hA [2, 0] rfl rfl 0 rfl rfl rfl rfl hl.1 rfl (Nat.le_of_ble_eq_true rfl) dX9_walkItem_62 (fun r_123 hw_r_123 => ?_)
                rcases hw_r_123 with ⟨k_124, rfl, h_125, h_126⟩ | ⟨rfl, h_127⟩
                · skip
                  refine lv_if_eq (tgt := 88) hx hb dX9_walkItem_65 (by decide) (fun c_128 => absurd c_128 (by decide)) (fun c_128 => ?_)
                  refine lv_iload_n hx hb dX9_walkItem_68 rfl (lv_at hl 1 rfl) ?_
                  refine lv_if_eq (tgt := 84) hx hb dX9_walkItem_69 (by decide) (fun c_129 => by have nc_129 : n8 = 0 := xn_eq (a := n8) (b := 0) (by omega) (by omega) c_129; omega) (fun c_129 => ?_)
                  have nc_129 : n8 ≠ 0 := xn_ne (a := n8) (b := 0) (by omega) (by omega) c_129
                  refine lv_iload_n hx hb dX9_walkItem_72 rfl (lv_at hl 0 rfl) ?_
                  refine lv_aload_n hx hb dX9_walkItem_73 rfl (lv_at hl 2 rfl) ?_
                  refine xg hF kf_X9_40 hK hP 2 rfl rfl dX9_walkItem_74 ?_
                  refine lv_iload_n hx hb dX9_walkItem_77 rfl (lv_at hl 1 rfl) ?_
                  refine lv_iconst (v := 1) hx hb dX9_walkItem_78 (by decide) ?_
                  refine lv_isub hx hb dX9_walkItem_79 ?_
                  refine xl_i (y := nI (n8 - 1)) (pk_sub (show 1 ≤ n8 by omega)) ?_
                  refine va_iald hx hb hK hP 1 0 rfl rfl (vp_in_nI (show n8 - 1 < 6 by omega) (by decide)) dX9_walkItem_80 ?_
                  refine xl_i (y := a8 (n8 - 1)) (congrArg a8 (nI_clamp (show n8 - 1 < 2 ^ 31 by omega))) ?_
                  refine xl_i (y := nI (v8)) hv8 ?_
                  have hnb : num bb (nf bb mz u8) (nx bb mz u8) ≤ 99999 := num_le h_121
                  refine lv_icmp_eq (tgt := 88) hx hb dX9_walkItem_81 (by decide) (fun c_130 => ?_) (fun c_130 => ?_)
                  · skip
                    have nc_130 : num bb (nf bb mz u8) (nx bb mz u8) = v8 := xn_eq (a := (num bb (nf bb mz u8) (nx bb mz u8))) (b := v8) (by omega) (by omega) c_130
                    refine lv_iconst (v := 0) hx hb dX9_walkItem_88 (by decide) ?_
                    refine xc_Vv (wr := [(ys, .inl (cI, 449, .inl ms)), (ywa, .inl (cI, 6, .inl a8))]) hF (c_X9_needs0 l D cI cJ cZ cS ta sa sv H.size h0 ys yk yo yt mk0 yfa yfe mL mS mM yro yhe ygr mF mC mY yta mz mv ywa ybi ysi ynu ymo tp u8 bb (by omega) hbb (by omega)) kv_X9_278 ⟨rfl, rfl, Nat.le_of_ble_eq_true rfl, Nat.le_of_ble_eq_true rfl⟩ ⟨Nat.le_of_ble_eq_true rfl, Nat.le_of_ble_eq_true rfl⟩ hK hN hZ hP hD hS hA [2, 3] [0, 1] rfl rfl rfl rfl (by decide) 0 rfl rfl rfl rfl hl.1 rfl (Nat.le_of_ble_eq_true rfl) dX9_walkItem_89 (fun u_r_131 H locs hw_r_131 hP hD hS => ?_)
                    have hP : va_P D vwCl [(ys, .inl (cI, 449, .inl ms)), (ywa, .inl (cI, 6, .inl a8)), (h0, .inr (9, [.ref ys, .ref yk, .ref yo, .ref yt, .int mk0, .ref yfa, .ref yfe, .int mL, .int mS, .int mM, .ref yro, .ref yhe, .ref ygr, .int mF, .int mC, .int mY, .ref yta, .int (nI (mz)), .int (nI (nf bb mz u8)), .int (nI (nx bb mz u8)), .int mv, .int 1, .ref ywa, .ref ybi, .ref ysi, .ref ynu, .ref ymo])), (yta, .inl (cI, 120, .inl tp))] H := hP
                    have hD : va_D A [(ys, .inl (cI, 449, .inl ms)), (ywa, .inl (cI, 6, .inl a8)), (h0, .inr (9, [.ref ys, .ref yk, .ref yo, .ref yt, .int mk0, .ref yfa, .ref yfe, .int mL, .int mS, .int mM, .ref yro, .ref yhe, .ref ygr, .int mF, .int mC, .int mY, .ref yta, .int (nI (mz)), .int (nI (nf bb mz u8)), .int (nI (nx bb mz u8)), .int mv, .int 1, .ref ywa, .ref ybi, .ref ysi, .ref ynu, .ref ymo])), (yta, .inl (cI, 120, .inl tp))] := hD
                    refine lv_aload_n hx hb dX9_walkItem_92 rfl (lv_at hl 2 rfl) ?_
                    refine xg hF kf_X9_40 hK hP 2 rfl rfl dX9_walkItem_93 ?_
                    refine lv_iload_n hx hb dX9_walkItem_96 rfl (lv_at hl 1 rfl) ?_
                    refine lv_iload_n hx hb dX9_walkItem_97 rfl (lv_at hl 0 rfl) ?_
                    refine va_iast hx hb hK hP hD hS 1 0 rfl rfl (vp_in_nI (show n8 < 6 by omega) (by decide)) dX9_walkItem_98 (fun H locs hP hD hS => ?_)
                    rw [nI_clamp (show n8 < 2 ^ 31 by omega)] at hP hD
                    obtain ⟨f_132, ef_132⟩ : ∃ g, g = upd a8 n8 (nI (num bb (nf bb mz u8) (nx bb mz u8))) := ⟨_, rfl⟩
                    rw [← ef_132] at hP hD
                    have hP : va_P D vwCl [(ys, .inl (cI, 449, .inl ms)), (ywa, .inl (cI, 6, .inl f_132)), (h0, .inr (9, [.ref ys, .ref yk, .ref yo, .ref yt, .int mk0, .ref yfa, .ref yfe, .int mL, .int mS, .int mM, .ref yro, .ref yhe, .ref ygr, .int mF, .int mC, .int mY, .ref yta, .int (nI (mz)), .int (nI (nf bb mz u8)), .int (nI (nx bb mz u8)), .int mv, .int 1, .ref ywa, .ref ybi, .ref ysi, .ref ynu, .ref ymo])), (yta, .inl (cI, 120, .inl tp))] H := hP
                    have hD : va_D A [(ys, .inl (cI, 449, .inl ms)), (ywa, .inl (cI, 6, .inl f_132)), (h0, .inr (9, [.ref ys, .ref yk, .ref yo, .ref yt, .int mk0, .ref yfa, .ref yfe, .int mL, .int mS, .int mM, .ref yro, .ref yhe, .ref ygr, .int mF, .int mC, .int mY, .ref yta, .int (nI (mz)), .int (nI (nf bb mz u8)), .int (nI (nx bb mz u8)), .int mv, .int 1, .ref ywa, .ref ybi, .ref ysi, .ref ynu, .ref ymo])), (yta, .inl (cI, 120, .inl tp))] := hD
                    refine lv_iinc (v := nI (n8 + 1)) (lv' := [(1, .int (nI (n8 + 1))), (2, .int (nI (num bb (nf bb mz u8) (nx bb mz u8)))), (0, .ref h0)]) hx hb dX9_walkItem_99 hl (k := 1) rfl (nI_1 (n8)) (by decide) rfl (fun ls hl => ?_)
                    refine lv_goto (tgt := 22) hx hb dX9_walkItem_102 (by decide) ?_
                    refine lv_aload_n hx hb dX9_walkItem_22 rfl (lv_at hl 2 rfl) ?_
                    refine xg hF kf_X9_266 hK hP 2 rfl rfl dX9_walkItem_23 ?_
                    refine lv_if_ne (tgt := 105) hx hb dX9_walkItem_26 (by decide) (fun c_133 => ?_) (fun c_133 => absurd c_133 (by decide))
                    refine lv_aload_n hx hb dX9_walkItem_105 rfl (lv_at hl 2 rfl) ?_
                    refine lv_aload_n hx hb dX9_walkItem_106 rfl (lv_at hl 2 rfl) ?_
                    refine lv_bipush (v := 97) hx hb dX9_walkItem_107 (by decide) ?_
                    refine lv_bipush (v := 108) hx hb dX9_walkItem_109 (by decide) ?_
                    refine lv_bipush (v := 108) hx hb dX9_walkItem_111 (by decide) ?_
                    refine lv_iconst (v := 0) hx hb dX9_walkItem_113 (by decide) ?_
                    refine lv_iconst (v := 0) hx hb dX9_walkItem_114 (by decide) ?_
                    refine lv_iconst (v := 0) hx hb dX9_walkItem_115 (by decide) ?_
                    refine lv_iconst (v := 0) hx hb dX9_walkItem_116 (by decide) ?_
                    refine xc_Vr hF (c_X9_isWordW l D cI cJ cZ cS ta sa sv H.size h0 ys yk yo yt mk0 yfa yfe mL mS mM yro yhe ygr mF mC mY yta mz mv ywa ybi ysi ynu ymo tp 97 108 108 0 0 0 0 u8 bb (by omega) hbb (by omega)) kv_X9_290 ⟨rfl, rfl, Nat.le_of_ble_eq_true rfl, Nat.le_of_ble_eq_true rfl⟩ ⟨Nat.le_of_ble_eq_true rfl, Nat.le_of_ble_eq_true rfl⟩ hK hN hZ hP hD hS hA [2, 3] rfl rfl 0 rfl rfl rfl rfl hl.1 rfl (Nat.le_of_ble_eq_true rfl) dX9_walkItem_117 (fun r_134 hw_r_134 => ?_)
                    subst hw_r_134
                    refine xc_Vv (wr := [(ys, .inl (cI, 449, .inl ms)), (ywa, .inl (cI, 6, .inl f_132))]) hF (c_X9_needsW l D cI cJ cZ cS ta sa sv H.size h0 ys yk yo yt mk0 yfa yfe mL mS mM yro yhe ygr mF mC mY yta mz mv ywa ybi ysi ynu ymo tp 0 u8 bb (by omega) hbb (by omega)) kv_X9_278 ⟨rfl, rfl, Nat.le_of_ble_eq_true rfl, Nat.le_of_ble_eq_true rfl⟩ ⟨Nat.le_of_ble_eq_true rfl, Nat.le_of_ble_eq_true rfl⟩ hK hN hZ hP hD hS hA [2, 3] [0, 1] rfl rfl rfl rfl (by decide) 0 rfl rfl rfl rfl hl.1 rfl (Nat.le_of_ble_eq_true rfl) dX9_walkItem_120 (fun u_r_135 H locs hw_r_135 hP hD hS => ?_)
                    have hP : va_P D vwCl [(ys, .inl (cI, 449, .inl ms)), (ywa, .inl (cI, 6, .inl f_132)), (h0, .inr (9, [.ref ys, .ref yk, .ref yo, .ref yt, .int mk0, .ref yfa, .ref yfe, .int mL, .int mS, .int mM, .ref yro, .ref yhe, .ref ygr, .int mF, .int mC, .int mY, .ref yta, .int (nI (mz)), .int (nI (nf bb mz u8)), .int (nI (nx bb mz u8)), .int mv, .int 1, .ref ywa, .ref ybi, .ref ysi, .ref ynu, .ref ymo])), (yta, .inl (cI, 120, .inl tp))] H := hP
                    have hD : va_D A [(ys, .inl (cI, 449, .inl ms)), (ywa, .inl (cI, 6, .inl f_132)), (h0, .inr (9, [.ref ys, .ref yk, .ref yo, .ref yt, .int mk0, .ref yfa, .ref yfe, .int mL, .int mS, .int mM, .ref yro, .ref yhe, .ref ygr, .int mF, .int mC, .int mY, .ref yta, .int (nI (mz)), .int (nI (nf bb mz u8)), .int (nI (nx bb mz u8)), .int mv, .int 1, .ref ywa, .ref ybi, .ref ysi, .ref ynu, .ref ymo])), (yta, .inl (cI, 120, .inl tp))] := hD
                    refine lv_aload_n hx hb dX9_walkItem_123 rfl (lv_at hl 2 rfl) ?_
                    refine lv_sipush (v := (-9999)) hx hb dX9_walkItem_124 (by decide) ?_
                    refine lv_sipush (v := 9999) hx hb dX9_walkItem_127 (by decide) ?_
                    refine xc_Vv (wr := [(ys, .inl (cI, 449, .inl ms)), (ywa, .inl (cI, 6, .inl f_132))]) hF (c_X9_mileW l D cI cJ cZ cS ta sa sv H.size h0 ys yk yo yt mk0 yfa yfe mL mS mM yro yhe ygr mF mC mY yta mz mv ywa ybi ysi ynu ymo tp (-9999) 9999 u8 bb (by omega) hbb (by omega)) kv_X9_287 ⟨rfl, rfl, Nat.le_of_ble_eq_true rfl, Nat.le_of_ble_eq_true rfl⟩ ⟨Nat.le_of_ble_eq_true rfl, Nat.le_of_ble_eq_true rfl⟩ hK hN hZ hP hD hS hA [2, 3] [0, 1] rfl rfl rfl rfl (by decide) 0 rfl rfl rfl rfl hl.1 rfl (Nat.le_of_ble_eq_true rfl) dX9_walkItem_130 (fun u_r_136 H locs hw_r_136 hP hD hS => ?_)
                    have hP : va_P D vwCl [(ys, .inl (cI, 449, .inl ms)), (ywa, .inl (cI, 6, .inl f_132)), (h0, .inr (9, [.ref ys, .ref yk, .ref yo, .ref yt, .int mk0, .ref yfa, .ref yfe, .int mL, .int mS, .int mM, .ref yro, .ref yhe, .ref ygr, .int mF, .int mC, .int mY, .ref yta, .int (nI (mz)), .int (nI (nf bb mz u8)), .int (nI (nx bb mz u8)), .int mv, .int 1, .ref ywa, .ref ybi, .ref ysi, .ref ynu, .ref ymo])), (yta, .inl (cI, 120, .inl tp))] H := hP
                    have hD : va_D A [(ys, .inl (cI, 449, .inl ms)), (ywa, .inl (cI, 6, .inl f_132)), (h0, .inr (9, [.ref ys, .ref yk, .ref yo, .ref yt, .int mk0, .ref yfa, .ref yfe, .int mL, .int mS, .int mM, .ref yro, .ref yhe, .ref ygr, .int mF, .int mC, .int mY, .ref yta, .int (nI (mz)), .int (nI (nf bb mz u8)), .int (nI (nx bb mz u8)), .int mv, .int 1, .ref ywa, .ref ybi, .ref ysi, .ref ynu, .ref ymo])), (yta, .inl (cI, 120, .inl tp))] := hD
                    refine lv_aload_n hx hb dX9_walkItem_133 rfl (lv_at hl 2 rfl) ?_
                    refine xg hF kf_X9_275 hK hP 2 rfl rfl dX9_walkItem_134 ?_
                    refine lv_istore_n (lv' := [(2, .int mv), (1, .int (nI (n8 + 1))), (0, .ref h0)]) hx hb dX9_walkItem_137 rfl hl (by decide) rfl (fun ls hl => ?_)
                    refine lv_iconst (v := 0) hx hb dX9_walkItem_138 (by decide) ?_
                    refine lv_istore_n (lv' := [(3, .int 0), (2, .int mv), (1, .int (nI (n8 + 1))), (0, .ref h0)]) hx hb dX9_walkItem_139 rfl hl (by decide) rfl (fun ls hl => ?_)
                    refine lv_aload_n hx hb dX9_walkItem_140 rfl (lv_at hl 3 rfl) ?_
                    refine lv_bipush (v := 115) hx hb dX9_walkItem_141 (by decide) ?_
                    refine lv_bipush (v := 108) hx hb dX9_walkItem_143 (by decide) ?_
                    refine lv_bipush (v := 97) hx hb dX9_walkItem_145 (by decide) ?_
                    refine lv_bipush (v := 99) hx hb dX9_walkItem_147 (by decide) ?_
                    refine lv_bipush (v := 107) hx hb dX9_walkItem_149 (by decide) ?_
                    refine lv_iconst (v := 0) hx hb dX9_walkItem_151 (by decide) ?_
                    refine lv_iconst (v := 0) hx hb dX9_walkItem_152 (by decide) ?_
                    refine xc_Vr hF (c_X9_isWordW l D cI cJ cZ cS ta sa sv H.size h0 ys yk yo yt mk0 yfa yfe mL mS mM yro yhe ygr mF mC mY yta mz mv ywa ybi ysi ynu ymo tp 115 108 97 99 107 0 0 u8 bb (by omega) hbb (by omega)) kv_X9_290 ⟨rfl, rfl, Nat.le_of_ble_eq_true rfl, Nat.le_of_ble_eq_true rfl⟩ ⟨Nat.le_of_ble_eq_true rfl, Nat.le_of_ble_eq_true rfl⟩ hK hN hZ hP hD hS hA [2, 3] rfl rfl 0 rfl rfl rfl rfl hl.1 rfl (Nat.le_of_ble_eq_true rfl) dX9_walkItem_153 (fun r_137 hw_r_137 => ?_)
                    subst hw_r_137
                    refine lv_if_eq (tgt := 176) hx hb dX9_walkItem_156 (by decide) (fun c_138 => ?_) (fun c_138 => absurd (by decide) c_138)
                    refine lv_aload_n hx hb dX9_walkItem_176 rfl (lv_at hl 3 rfl) ?_
                    refine xg hF kf_X9_266 hK hP 2 rfl rfl dX9_walkItem_177 ?_
                    refine lv_if_ne (tgt := 252) hx hb dX9_walkItem_180 (by decide) (fun c_139 => ?_) (fun c_139 => absurd c_139 (by decide))
                    have hc2 := okN_of (P := P) (by omega) h_121 (show num bb (nf bb mz u8) (nx bb mz u8) < P by have h9 := num_k h_121 (by omega) h_125; omega)
                    exact W.vret hx hb hr (fun t ht hW => ⟨⟨(u8, 1, mv, ms, Wn, f_132, fawn, fawp, fat, fas), rfl, ⟨Or.inr ⟨hL8.trans (spSt_no (by omega) h_121 (fun h => h.2 (hc2.2.trans nc_130))), rfl⟩, (by first | assumption | omega), hs0, hs1, hs2, hsS, hsM, hsp, hsr, hsw, hsR, hsG⟩, by rw [ht]; exact hP.sub [2, 0, 3, 1] rfl, hD.sub [2, 0, 3, 1] (by decide) rfl⟩, hS.F ht⟩) hS.2.2 dX9_walkItem_252 hlk
                  · skip
                    have nc_130 : num bb (nf bb mz u8) (nx bb mz u8) ≠ v8 := xn_ne (a := (num bb (nf bb mz u8) (nx bb mz u8))) (b := v8) (by omega) (by omega) c_130
                    refine lv_iconst (v := 1) hx hb dX9_walkItem_84 (by decide) ?_
                    refine lv_goto (tgt := 89) hx hb dX9_walkItem_85 (by decide) ?_
                    refine xc_Vv (wr := [(ys, .inl (cI, 449, .inl ms)), (ywa, .inl (cI, 6, .inl a8))]) hF (c_X9_needs1 l D cI cJ cZ cS ta sa sv H.size h0 ys yk yo yt mk0 yfa yfe mL mS mM yro yhe ygr mF mC mY yta mz mv ywa ybi ysi ynu ymo tp u8 bb (by omega) hbb (by omega)) kv_X9_278 ⟨rfl, rfl, Nat.le_of_ble_eq_true rfl, Nat.le_of_ble_eq_true rfl⟩ ⟨Nat.le_of_ble_eq_true rfl, Nat.le_of_ble_eq_true rfl⟩ hK hN hZ hP hD hS hA [2, 3] [0, 1] rfl rfl rfl rfl (by decide) 0 rfl rfl rfl rfl hl.1 rfl (Nat.le_of_ble_eq_true rfl) dX9_walkItem_89 (fun u_r_140 H locs hw_r_140 hP hD hS => ?_)
                    obtain ⟨i_141, i_142⟩ := hw_r_140
                    have hP : va_P D vwCl [(ys, .inl (cI, 449, .inl ms)), (ywa, .inl (cI, 6, .inl a8)), (h0, .inr (9, [.ref ys, .ref yk, .ref yo, .ref yt, .int mk0, .ref yfa, .ref yfe, .int mL, .int mS, .int mM, .ref yro, .ref yhe, .ref ygr, .int mF, .int mC, .int mY, .ref yta, .int (nI (mz)), .int (nI (nf bb mz (nx bb mz u8))), .int (nI (nx bb mz (nx bb mz u8))), .int mv, .int 0, .ref ywa, .ref ybi, .ref ysi, .ref ynu, .ref ymo])), (yta, .inl (cI, 120, .inl tp))] H := hP
                    have hD : va_D A [(ys, .inl (cI, 449, .inl ms)), (ywa, .inl (cI, 6, .inl a8)), (h0, .inr (9, [.ref ys, .ref yk, .ref yo, .ref yt, .int mk0, .ref yfa, .ref yfe, .int mL, .int mS, .int mM, .ref yro, .ref yhe, .ref ygr, .int mF, .int mC, .int mY, .ref yta, .int (nI (mz)), .int (nI (nf bb mz (nx bb mz u8))), .int (nI (nx bb mz (nx bb mz u8))), .int mv, .int 0, .ref ywa, .ref ybi, .ref ysi, .ref ynu, .ref ymo])), (yta, .inl (cI, 120, .inl tp))] := hD
                    refine lv_aload_n hx hb dX9_walkItem_92 rfl (lv_at hl 2 rfl) ?_
                    refine xg hF kf_X9_40 hK hP 2 rfl rfl dX9_walkItem_93 ?_
                    refine lv_iload_n hx hb dX9_walkItem_96 rfl (lv_at hl 1 rfl) ?_
                    refine lv_iload_n hx hb dX9_walkItem_97 rfl (lv_at hl 0 rfl) ?_
                    refine va_iast hx hb hK hP hD hS 1 0 rfl rfl (vp_in_nI (show n8 < 6 by omega) (by decide)) dX9_walkItem_98 (fun H locs hP hD hS => ?_)
                    rw [nI_clamp (show n8 < 2 ^ 31 by omega)] at hP hD
                    obtain ⟨f_143, ef_143⟩ : ∃ g, g = upd a8 n8 (nI (num bb (nf bb mz u8) (nx bb mz u8))) := ⟨_, rfl⟩
                    rw [← ef_143] at hP hD
                    have hP : va_P D vwCl [(ys, .inl (cI, 449, .inl ms)), (ywa, .inl (cI, 6, .inl f_143)), (h0, .inr (9, [.ref ys, .ref yk, .ref yo, .ref yt, .int mk0, .ref yfa, .ref yfe, .int mL, .int mS, .int mM, .ref yro, .ref yhe, .ref ygr, .int mF, .int mC, .int mY, .ref yta, .int (nI (mz)), .int (nI (nf bb mz (nx bb mz u8))), .int (nI (nx bb mz (nx bb mz u8))), .int mv, .int 0, .ref ywa, .ref ybi, .ref ysi, .ref ynu, .ref ymo])), (yta, .inl (cI, 120, .inl tp))] H := hP
                    have hD : va_D A [(ys, .inl (cI, 449, .inl ms)), (ywa, .inl (cI, 6, .inl f_143)), (h0, .inr (9, [.ref ys, .ref yk, .ref yo, .ref yt, .int mk0, .ref yfa, .ref yfe, .int mL, .int mS, .int mM, .ref yro, .ref yhe, .ref ygr, .int mF, .int mC, .int mY, .ref yta, .int (nI (mz)), .int (nI (nf bb mz (nx bb mz u8))), .int (nI (nx bb mz (nx bb mz u8))), .int mv, .int 0, .ref ywa, .ref ybi, .ref ysi, .ref ynu, .ref ymo])), (yta, .inl (cI, 120, .inl tp))] := hD
                    refine lv_iinc (v := nI (n8 + 1)) (lv' := [(1, .int (nI (n8 + 1))), (2, .int (nI (num bb (nf bb mz u8) (nx bb mz u8)))), (0, .ref h0)]) hx hb dX9_walkItem_99 hl (k := 1) rfl (nI_1 (n8)) (by decide) rfl (fun ls hl => ?_)
                    refine lv_goto (tgt := 22) hx hb dX9_walkItem_102 (by decide) ?_
                    have hc9 := okN_of (P := P) (by omega) h_121 (show num bb (nf bb mz u8) (nx bb mz u8) < P by have h9 := num_k h_121 (by omega) h_125; omega)
                    have hc8 : num bb (nf bb mz u8) (nx bb mz u8) < P := by have h9 := num_k h_121 (by omega) h_125; omega
                    have hc7 : cv bb mz (nf bb mz u8) (nx bb mz u8) = num bb (nf bb mz u8) (nx bb mz u8) := hc9.2
                    exact ih_22 (n8 + 1) (nx bb mz u8) (cv bb mz (nf bb mz u8) (nx bb mz u8)) f_143 _ _ _ (by omega) (by omega) (by omega) (by omega) (by omega) (by omega) (by rw [ef_143, show n8 + 1 - 1 = n8 by omega]; exact pk_us.trans (congrArg nI hc9.2.symm)) (wk_A.put hA8 rfl (show num bb (nf bb mz u8) (nx bb mz u8) < 10 by omega) ef_143) (hL8.trans (spSt_go (by omega) h_121 ⟨hc9.1, fun h => nc_130 (hc9.2.symm.trans h)⟩)) (hN8.trans (wkn_go (by omega) h_121)) (congrArg (nx bb mz) hu8x) (wkA_put (g := fun j => nI (tC bb mz (itN bb mz j (nx bb mz u9)))) hA9 ef_143 (by rw [← hu8x]; exact congrArg nI hc9.2.symm)) (hP.sub [0, 1, 2, 3] rfl) (hD.sub [0, 1, 2, 3] (by decide) rfl) hS (lv_sub hl [0, 2] rfl)
                · skip
                  refine lv_if_eq (tgt := 88) hx hb dX9_walkItem_65 (by decide) (fun c_144 => ?_) (fun c_144 => absurd (by decide) c_144)
                  refine lv_iconst (v := 0) hx hb dX9_walkItem_88 (by decide) ?_
                  refine xc_Vv (wr := [(ys, .inl (cI, 449, .inl ms)), (ywa, .inl (cI, 6, .inl a8))]) hF (c_X9_needs0 l D cI cJ cZ cS ta sa sv H.size h0 ys yk yo yt mk0 yfa yfe mL mS mM yro yhe ygr mF mC mY yta mz mv ywa ybi ysi ynu ymo tp u8 bb (by omega) hbb (by omega)) kv_X9_278 ⟨rfl, rfl, Nat.le_of_ble_eq_true rfl, Nat.le_of_ble_eq_true rfl⟩ ⟨Nat.le_of_ble_eq_true rfl, Nat.le_of_ble_eq_true rfl⟩ hK hN hZ hP hD hS hA [2, 3] [0, 1] rfl rfl rfl rfl (by decide) 0 rfl rfl rfl rfl hl.1 rfl (Nat.le_of_ble_eq_true rfl) dX9_walkItem_89 (fun u_r_145 H locs hw_r_145 hP hD hS => ?_)
                  have hP : va_P D vwCl [(ys, .inl (cI, 449, .inl ms)), (ywa, .inl (cI, 6, .inl a8)), (h0, .inr (9, [.ref ys, .ref yk, .ref yo, .ref yt, .int mk0, .ref yfa, .ref yfe, .int mL, .int mS, .int mM, .ref yro, .ref yhe, .ref ygr, .int mF, .int mC, .int mY, .ref yta, .int (nI (mz)), .int (nI (nf bb mz u8)), .int (nI (nx bb mz u8)), .int mv, .int 1, .ref ywa, .ref ybi, .ref ysi, .ref ynu, .ref ymo])), (yta, .inl (cI, 120, .inl tp))] H := hP
                  have hD : va_D A [(ys, .inl (cI, 449, .inl ms)), (ywa, .inl (cI, 6, .inl a8)), (h0, .inr (9, [.ref ys, .ref yk, .ref yo, .ref yt, .int mk0, .ref yfa, .ref yfe, .int mL, .int mS, .int mM, .ref yro, .ref yhe, .ref ygr, .int mF, .int mC, .int mY, .ref yta, .int (nI (mz)), .int (nI (nf bb mz u8)), .int (nI (nx bb mz u8)), .int mv, .int 1, .ref ywa, .ref ybi, .ref ysi, .ref ynu, .ref ymo])), (yta, .inl (cI, 120, .inl tp))] := hD
                  refine lv_aload_n hx hb dX9_walkItem_92 rfl (lv_at hl 2 rfl) ?_
                  refine xg hF kf_X9_40 hK hP 2 rfl rfl dX9_walkItem_93 ?_
                  refine lv_iload_n hx hb dX9_walkItem_96 rfl (lv_at hl 1 rfl) ?_
                  refine lv_iload_n hx hb dX9_walkItem_97 rfl (lv_at hl 0 rfl) ?_
                  refine va_iast hx hb hK hP hD hS 1 0 rfl rfl (vp_in_nI (show n8 < 6 by omega) (by decide)) dX9_walkItem_98 (fun H locs hP hD hS => ?_)
                  rw [nI_clamp (show n8 < 2 ^ 31 by omega)] at hP hD
                  obtain ⟨f_146, ef_146⟩ : ∃ g, g = upd a8 n8 (nI (num bb (nf bb mz u8) (nx bb mz u8))) := ⟨_, rfl⟩
                  rw [← ef_146] at hP hD
                  have hP : va_P D vwCl [(ys, .inl (cI, 449, .inl ms)), (ywa, .inl (cI, 6, .inl f_146)), (h0, .inr (9, [.ref ys, .ref yk, .ref yo, .ref yt, .int mk0, .ref yfa, .ref yfe, .int mL, .int mS, .int mM, .ref yro, .ref yhe, .ref ygr, .int mF, .int mC, .int mY, .ref yta, .int (nI (mz)), .int (nI (nf bb mz u8)), .int (nI (nx bb mz u8)), .int mv, .int 1, .ref ywa, .ref ybi, .ref ysi, .ref ynu, .ref ymo])), (yta, .inl (cI, 120, .inl tp))] H := hP
                  have hD : va_D A [(ys, .inl (cI, 449, .inl ms)), (ywa, .inl (cI, 6, .inl f_146)), (h0, .inr (9, [.ref ys, .ref yk, .ref yo, .ref yt, .int mk0, .ref yfa, .ref yfe, .int mL, .int mS, .int mM, .ref yro, .ref yhe, .ref ygr, .int mF, .int mC, .int mY, .ref yta, .int (nI (mz)), .int (nI (nf bb mz u8)), .int (nI (nx bb mz u8)), .int mv, .int 1, .ref ywa, .ref ybi, .ref ysi, .ref ynu, .ref ymo])), (yta, .inl (cI, 120, .inl tp))] := hD
                  refine lv_iinc (v := nI (n8 + 1)) (lv' := [(1, .int (nI (n8 + 1))), (2, .int (nI (num bb (nf bb mz u8) (nx bb mz u8)))), (0, .ref h0)]) hx hb dX9_walkItem_99 hl (k := 1) rfl (nI_1 (n8)) (by decide) rfl (fun ls hl => ?_)
                  refine lv_goto (tgt := 22) hx hb dX9_walkItem_102 (by decide) ?_
                  refine lv_aload_n hx hb dX9_walkItem_22 rfl (lv_at hl 2 rfl) ?_
                  refine xg hF kf_X9_266 hK hP 2 rfl rfl dX9_walkItem_23 ?_
                  refine lv_if_ne (tgt := 105) hx hb dX9_walkItem_26 (by decide) (fun c_147 => ?_) (fun c_147 => absurd c_147 (by decide))
                  refine lv_aload_n hx hb dX9_walkItem_105 rfl (lv_at hl 2 rfl) ?_
                  refine lv_aload_n hx hb dX9_walkItem_106 rfl (lv_at hl 2 rfl) ?_
                  refine lv_bipush (v := 97) hx hb dX9_walkItem_107 (by decide) ?_
                  refine lv_bipush (v := 108) hx hb dX9_walkItem_109 (by decide) ?_
                  refine lv_bipush (v := 108) hx hb dX9_walkItem_111 (by decide) ?_
                  refine lv_iconst (v := 0) hx hb dX9_walkItem_113 (by decide) ?_
                  refine lv_iconst (v := 0) hx hb dX9_walkItem_114 (by decide) ?_
                  refine lv_iconst (v := 0) hx hb dX9_walkItem_115 (by decide) ?_
                  refine lv_iconst (v := 0) hx hb dX9_walkItem_116 (by decide) ?_
                  refine xc_Vr hF (c_X9_isWordW l D cI cJ cZ cS ta sa sv H.size h0 ys yk yo yt mk0 yfa yfe mL mS mM yro yhe ygr mF mC mY yta mz mv ywa ybi ysi ynu ymo tp 97 108 108 0 0 0 0 u8 bb (by omega) hbb (by omega)) kv_X9_290 ⟨rfl, rfl, Nat.le_of_ble_eq_true rfl, Nat.le_of_ble_eq_true rfl⟩ ⟨Nat.le_of_ble_eq_true rfl, Nat.le_of_ble_eq_true rfl⟩ hK hN hZ hP hD hS hA [2, 3] rfl rfl 0 rfl rfl rfl rfl hl.1 rfl (Nat.le_of_ble_eq_true rfl) dX9_walkItem_117 (fun r_148 hw_r_148 => ?_)
                  subst hw_r_148
                  refine xc_Vv (wr := [(ys, .inl (cI, 449, .inl ms)), (ywa, .inl (cI, 6, .inl f_146))]) hF (c_X9_needsW l D cI cJ cZ cS ta sa sv H.size h0 ys yk yo yt mk0 yfa yfe mL mS mM yro yhe ygr mF mC mY yta mz mv ywa ybi ysi ynu ymo tp 0 u8 bb (by omega) hbb (by omega)) kv_X9_278 ⟨rfl, rfl, Nat.le_of_ble_eq_true rfl, Nat.le_of_ble_eq_true rfl⟩ ⟨Nat.le_of_ble_eq_true rfl, Nat.le_of_ble_eq_true rfl⟩ hK hN hZ hP hD hS hA [2, 3] [0, 1] rfl rfl rfl rfl (by decide) 0 rfl rfl rfl rfl hl.1 rfl (Nat.le_of_ble_eq_true rfl) dX9_walkItem_120 (fun u_r_149 H locs hw_r_149 hP hD hS => ?_)
                  have hP : va_P D vwCl [(ys, .inl (cI, 449, .inl ms)), (ywa, .inl (cI, 6, .inl f_146)), (h0, .inr (9, [.ref ys, .ref yk, .ref yo, .ref yt, .int mk0, .ref yfa, .ref yfe, .int mL, .int mS, .int mM, .ref yro, .ref yhe, .ref ygr, .int mF, .int mC, .int mY, .ref yta, .int (nI (mz)), .int (nI (nf bb mz u8)), .int (nI (nx bb mz u8)), .int mv, .int 1, .ref ywa, .ref ybi, .ref ysi, .ref ynu, .ref ymo])), (yta, .inl (cI, 120, .inl tp))] H := hP
                  have hD : va_D A [(ys, .inl (cI, 449, .inl ms)), (ywa, .inl (cI, 6, .inl f_146)), (h0, .inr (9, [.ref ys, .ref yk, .ref yo, .ref yt, .int mk0, .ref yfa, .ref yfe, .int mL, .int mS, .int mM, .ref yro, .ref yhe, .ref ygr, .int mF, .int mC, .int mY, .ref yta, .int (nI (mz)), .int (nI (nf bb mz u8)), .int (nI (nx bb mz u8)), .int mv, .int 1, .ref ywa, .ref ybi, .ref ysi, .ref ynu, .ref ymo])), (yta, .inl (cI, 120, .inl tp))] := hD
                  refine lv_aload_n hx hb dX9_walkItem_123 rfl (lv_at hl 2 rfl) ?_
                  refine lv_sipush (v := (-9999)) hx hb dX9_walkItem_124 (by decide) ?_
                  refine lv_sipush (v := 9999) hx hb dX9_walkItem_127 (by decide) ?_
                  refine xc_Vv (wr := [(ys, .inl (cI, 449, .inl ms)), (ywa, .inl (cI, 6, .inl f_146))]) hF (c_X9_mileW l D cI cJ cZ cS ta sa sv H.size h0 ys yk yo yt mk0 yfa yfe mL mS mM yro yhe ygr mF mC mY yta mz mv ywa ybi ysi ynu ymo tp (-9999) 9999 u8 bb (by omega) hbb (by omega)) kv_X9_287 ⟨rfl, rfl, Nat.le_of_ble_eq_true rfl, Nat.le_of_ble_eq_true rfl⟩ ⟨Nat.le_of_ble_eq_true rfl, Nat.le_of_ble_eq_true rfl⟩ hK hN hZ hP hD hS hA [2, 3] [0, 1] rfl rfl rfl rfl (by decide) 0 rfl rfl rfl rfl hl.1 rfl (Nat.le_of_ble_eq_true rfl) dX9_walkItem_130 (fun u_r_150 H locs hw_r_150 hP hD hS => ?_)
                  have hP : va_P D vwCl [(ys, .inl (cI, 449, .inl ms)), (ywa, .inl (cI, 6, .inl f_146)), (h0, .inr (9, [.ref ys, .ref yk, .ref yo, .ref yt, .int mk0, .ref yfa, .ref yfe, .int mL, .int mS, .int mM, .ref yro, .ref yhe, .ref ygr, .int mF, .int mC, .int mY, .ref yta, .int (nI (mz)), .int (nI (nf bb mz u8)), .int (nI (nx bb mz u8)), .int mv, .int 1, .ref ywa, .ref ybi, .ref ysi, .ref ynu, .ref ymo])), (yta, .inl (cI, 120, .inl tp))] H := hP
                  have hD : va_D A [(ys, .inl (cI, 449, .inl ms)), (ywa, .inl (cI, 6, .inl f_146)), (h0, .inr (9, [.ref ys, .ref yk, .ref yo, .ref yt, .int mk0, .ref yfa, .ref yfe, .int mL, .int mS, .int mM, .ref yro, .ref yhe, .ref ygr, .int mF, .int mC, .int mY, .ref yta, .int (nI (mz)), .int (nI (nf bb mz u8)), .int (nI (nx bb mz u8)), .int mv, .int 1, .ref ywa, .ref ybi, .ref ysi, .ref ynu, .ref ymo])), (yta, .inl (cI, 120, .inl tp))] := hD
                  refine lv_aload_n hx hb dX9_walkItem_133 rfl (lv_at hl 2 rfl) ?_
                  refine xg hF kf_X9_275 hK hP 2 rfl rfl dX9_walkItem_134 ?_
                  refine lv_istore_n (lv' := [(2, .int mv), (1, .int (nI (n8 + 1))), (0, .ref h0)]) hx hb dX9_walkItem_137 rfl hl (by decide) rfl (fun ls hl => ?_)
                  refine lv_iconst (v := 0) hx hb dX9_walkItem_138 (by decide) ?_
                  refine lv_istore_n (lv' := [(3, .int 0), (2, .int mv), (1, .int (nI (n8 + 1))), (0, .ref h0)]) hx hb dX9_walkItem_139 rfl hl (by decide) rfl (fun ls hl => ?_)
                  refine lv_aload_n hx hb dX9_walkItem_140 rfl (lv_at hl 3 rfl) ?_
                  refine lv_bipush (v := 115) hx hb dX9_walkItem_141 (by decide) ?_
                  refine lv_bipush (v := 108) hx hb dX9_walkItem_143 (by decide) ?_
                  refine lv_bipush (v := 97) hx hb dX9_walkItem_145 (by decide) ?_
                  refine lv_bipush (v := 99) hx hb dX9_walkItem_147 (by decide) ?_
                  refine lv_bipush (v := 107) hx hb dX9_walkItem_149 (by decide) ?_
                  refine lv_iconst (v := 0) hx hb dX9_walkItem_151 (by decide) ?_
                  refine lv_iconst (v := 0) hx hb dX9_walkItem_152 (by decide) ?_
                  refine xc_Vr hF (c_X9_isWordW l D cI cJ cZ cS ta sa sv H.size h0 ys yk yo yt mk0 yfa yfe mL mS mM yro yhe ygr mF mC mY yta mz mv ywa ybi ysi ynu ymo tp 115 108 97 99 107 0 0 u8 bb (by omega) hbb (by omega)) kv_X9_290 ⟨rfl, rfl, Nat.le_of_ble_eq_true rfl, Nat.le_of_ble_eq_true rfl⟩ ⟨Nat.le_of_ble_eq_true rfl, Nat.le_of_ble_eq_true rfl⟩ hK hN hZ hP hD hS hA [2, 3] rfl rfl 0 rfl rfl rfl rfl hl.1 rfl (Nat.le_of_ble_eq_true rfl) dX9_walkItem_153 (fun r_151 hw_r_151 => ?_)
                  subst hw_r_151
                  refine lv_if_eq (tgt := 176) hx hb dX9_walkItem_156 (by decide) (fun c_152 => ?_) (fun c_152 => absurd (by decide) c_152)
                  refine lv_aload_n hx hb dX9_walkItem_176 rfl (lv_at hl 3 rfl) ?_
                  refine xg hF kf_X9_266 hK hP 2 rfl rfl dX9_walkItem_177 ?_
                  refine lv_if_ne (tgt := 252) hx hb dX9_walkItem_180 (by decide) (fun c_153 => ?_) (fun c_153 => absurd c_153 (by decide))
                  exact W.vret hx hb hr (fun t ht hW => ⟨⟨(u8, 1, mv, ms, Wn, f_146, fawn, fawp, fat, fas), rfl, ⟨Or.inr ⟨hL8.trans (spSt_no (by omega) h_121 (fun h => h_127 (okN_isP (by omega) h.1))), rfl⟩, (by first | assumption | omega), hs0, hs1, hs2, hsS, hsM, hsp, hsr, hsw, hsR, hsG⟩, by rw [ht]; exact hP.sub [2, 0, 3, 1] rfl, hD.sub [2, 0, 3, 1] (by decide) rfl⟩, hS.F ht⟩) hS.2.2 dX9_walkItem_252 hlk
              · skip
                refine lv_istore_n (lv' := [(2, .int (-1)), (1, .int (nI (n8))), (0, .ref h0)]) hx hb dX9_walkItem_58 rfl hl (by decide) rfl (fun ls hl => ?_)
                refine lv_aload_n hx hb dX9_walkItem_59 rfl (lv_at hl 2 rfl) ?_
                refine lv_aload_n hx hb dX9_walkItem_60 rfl (lv_at hl 2 rfl) ?_
                refine lv_iload_n hx hb dX9_walkItem_61 rfl (lv_at hl 0 rfl) ?_
                refine xc_Vr hF (c_X9_isPlaceM l D cI cJ cZ cS ta sa sv H.size h0 ys yk yo yt mk0 yfa yfe mL mS mM yro yhe ygr mF mC mY yta mz (nf bb mz u8) (nx bb mz u8) mv 0 ywa ybi ysi ynu ymo ms P Rn Wn fae fal fau fao farn farp fak fawn fawp fat fas hs0 hs1 hs2 hsS hsM hsp hsr hsw hsR hsG) kv_X9_61 ⟨rfl, rfl, Nat.le_of_ble_eq_true rfl, Nat.le_of_ble_eq_true rfl⟩ ⟨Nat.le_of_ble_eq_true rfl, Nat.le_of_ble_eq_true rfl⟩ hK hN hZ hP hD hS hA [2, 0] rfl rfl 0 rfl rfl rfl rfl hl.1 rfl (Nat.le_of_ble_eq_true rfl) dX9_walkItem_62 (fun r_154 hw_r_154 => ?_)
                subst hw_r_154
                refine lv_if_eq (tgt := 88) hx hb dX9_walkItem_65 (by decide) (fun c_155 => ?_) (fun c_155 => absurd (by decide) c_155)
                refine lv_iconst (v := 0) hx hb dX9_walkItem_88 (by decide) ?_
                refine xc_Vv (wr := [(ys, .inl (cI, 449, .inl ms)), (ywa, .inl (cI, 6, .inl a8))]) hF (c_X9_needs0 l D cI cJ cZ cS ta sa sv H.size h0 ys yk yo yt mk0 yfa yfe mL mS mM yro yhe ygr mF mC mY yta mz mv ywa ybi ysi ynu ymo tp u8 bb (by omega) hbb (by omega)) kv_X9_278 ⟨rfl, rfl, Nat.le_of_ble_eq_true rfl, Nat.le_of_ble_eq_true rfl⟩ ⟨Nat.le_of_ble_eq_true rfl, Nat.le_of_ble_eq_true rfl⟩ hK hN hZ hP hD hS hA [2, 3] [0, 1] rfl rfl rfl rfl (by decide) 0 rfl rfl rfl rfl hl.1 rfl (Nat.le_of_ble_eq_true rfl) dX9_walkItem_89 (fun u_r_156 H locs hw_r_156 hP hD hS => ?_)
                have hP : va_P D vwCl [(ys, .inl (cI, 449, .inl ms)), (ywa, .inl (cI, 6, .inl a8)), (h0, .inr (9, [.ref ys, .ref yk, .ref yo, .ref yt, .int mk0, .ref yfa, .ref yfe, .int mL, .int mS, .int mM, .ref yro, .ref yhe, .ref ygr, .int mF, .int mC, .int mY, .ref yta, .int (nI (mz)), .int (nI (nf bb mz u8)), .int (nI (nx bb mz u8)), .int mv, .int 1, .ref ywa, .ref ybi, .ref ysi, .ref ynu, .ref ymo])), (yta, .inl (cI, 120, .inl tp))] H := hP
                have hD : va_D A [(ys, .inl (cI, 449, .inl ms)), (ywa, .inl (cI, 6, .inl a8)), (h0, .inr (9, [.ref ys, .ref yk, .ref yo, .ref yt, .int mk0, .ref yfa, .ref yfe, .int mL, .int mS, .int mM, .ref yro, .ref yhe, .ref ygr, .int mF, .int mC, .int mY, .ref yta, .int (nI (mz)), .int (nI (nf bb mz u8)), .int (nI (nx bb mz u8)), .int mv, .int 1, .ref ywa, .ref ybi, .ref ysi, .ref ynu, .ref ymo])), (yta, .inl (cI, 120, .inl tp))] := hD
                refine lv_aload_n hx hb dX9_walkItem_92 rfl (lv_at hl 2 rfl) ?_
                refine xg hF kf_X9_40 hK hP 2 rfl rfl dX9_walkItem_93 ?_
                refine lv_iload_n hx hb dX9_walkItem_96 rfl (lv_at hl 1 rfl) ?_
                refine lv_iload_n hx hb dX9_walkItem_97 rfl (lv_at hl 0 rfl) ?_
                refine va_iast hx hb hK hP hD hS 1 0 rfl rfl (vp_in_nI (show n8 < 6 by omega) (by decide)) dX9_walkItem_98 (fun H locs hP hD hS => ?_)
                rw [nI_clamp (show n8 < 2 ^ 31 by omega)] at hP hD
                obtain ⟨f_157, ef_157⟩ : ∃ g, g = upd a8 n8 (-1) := ⟨_, rfl⟩
                rw [← ef_157] at hP hD
                have hP : va_P D vwCl [(ys, .inl (cI, 449, .inl ms)), (ywa, .inl (cI, 6, .inl f_157)), (h0, .inr (9, [.ref ys, .ref yk, .ref yo, .ref yt, .int mk0, .ref yfa, .ref yfe, .int mL, .int mS, .int mM, .ref yro, .ref yhe, .ref ygr, .int mF, .int mC, .int mY, .ref yta, .int (nI (mz)), .int (nI (nf bb mz u8)), .int (nI (nx bb mz u8)), .int mv, .int 1, .ref ywa, .ref ybi, .ref ysi, .ref ynu, .ref ymo])), (yta, .inl (cI, 120, .inl tp))] H := hP
                have hD : va_D A [(ys, .inl (cI, 449, .inl ms)), (ywa, .inl (cI, 6, .inl f_157)), (h0, .inr (9, [.ref ys, .ref yk, .ref yo, .ref yt, .int mk0, .ref yfa, .ref yfe, .int mL, .int mS, .int mM, .ref yro, .ref yhe, .ref ygr, .int mF, .int mC, .int mY, .ref yta, .int (nI (mz)), .int (nI (nf bb mz u8)), .int (nI (nx bb mz u8)), .int mv, .int 1, .ref ywa, .ref ybi, .ref ysi, .ref ynu, .ref ymo])), (yta, .inl (cI, 120, .inl tp))] := hD
                refine lv_iinc (v := nI (n8 + 1)) (lv' := [(1, .int (nI (n8 + 1))), (2, .int (-1)), (0, .ref h0)]) hx hb dX9_walkItem_99 hl (k := 1) rfl (nI_1 (n8)) (by decide) rfl (fun ls hl => ?_)
                refine lv_goto (tgt := 22) hx hb dX9_walkItem_102 (by decide) ?_
                refine lv_aload_n hx hb dX9_walkItem_22 rfl (lv_at hl 2 rfl) ?_
                refine xg hF kf_X9_266 hK hP 2 rfl rfl dX9_walkItem_23 ?_
                refine lv_if_ne (tgt := 105) hx hb dX9_walkItem_26 (by decide) (fun c_158 => ?_) (fun c_158 => absurd c_158 (by decide))
                refine lv_aload_n hx hb dX9_walkItem_105 rfl (lv_at hl 2 rfl) ?_
                refine lv_aload_n hx hb dX9_walkItem_106 rfl (lv_at hl 2 rfl) ?_
                refine lv_bipush (v := 97) hx hb dX9_walkItem_107 (by decide) ?_
                refine lv_bipush (v := 108) hx hb dX9_walkItem_109 (by decide) ?_
                refine lv_bipush (v := 108) hx hb dX9_walkItem_111 (by decide) ?_
                refine lv_iconst (v := 0) hx hb dX9_walkItem_113 (by decide) ?_
                refine lv_iconst (v := 0) hx hb dX9_walkItem_114 (by decide) ?_
                refine lv_iconst (v := 0) hx hb dX9_walkItem_115 (by decide) ?_
                refine lv_iconst (v := 0) hx hb dX9_walkItem_116 (by decide) ?_
                refine xc_Vr hF (c_X9_isWordW l D cI cJ cZ cS ta sa sv H.size h0 ys yk yo yt mk0 yfa yfe mL mS mM yro yhe ygr mF mC mY yta mz mv ywa ybi ysi ynu ymo tp 97 108 108 0 0 0 0 u8 bb (by omega) hbb (by omega)) kv_X9_290 ⟨rfl, rfl, Nat.le_of_ble_eq_true rfl, Nat.le_of_ble_eq_true rfl⟩ ⟨Nat.le_of_ble_eq_true rfl, Nat.le_of_ble_eq_true rfl⟩ hK hN hZ hP hD hS hA [2, 3] rfl rfl 0 rfl rfl rfl rfl hl.1 rfl (Nat.le_of_ble_eq_true rfl) dX9_walkItem_117 (fun r_159 hw_r_159 => ?_)
                subst hw_r_159
                refine xc_Vv (wr := [(ys, .inl (cI, 449, .inl ms)), (ywa, .inl (cI, 6, .inl f_157))]) hF (c_X9_needsW l D cI cJ cZ cS ta sa sv H.size h0 ys yk yo yt mk0 yfa yfe mL mS mM yro yhe ygr mF mC mY yta mz mv ywa ybi ysi ynu ymo tp 0 u8 bb (by omega) hbb (by omega)) kv_X9_278 ⟨rfl, rfl, Nat.le_of_ble_eq_true rfl, Nat.le_of_ble_eq_true rfl⟩ ⟨Nat.le_of_ble_eq_true rfl, Nat.le_of_ble_eq_true rfl⟩ hK hN hZ hP hD hS hA [2, 3] [0, 1] rfl rfl rfl rfl (by decide) 0 rfl rfl rfl rfl hl.1 rfl (Nat.le_of_ble_eq_true rfl) dX9_walkItem_120 (fun u_r_160 H locs hw_r_160 hP hD hS => ?_)
                have hP : va_P D vwCl [(ys, .inl (cI, 449, .inl ms)), (ywa, .inl (cI, 6, .inl f_157)), (h0, .inr (9, [.ref ys, .ref yk, .ref yo, .ref yt, .int mk0, .ref yfa, .ref yfe, .int mL, .int mS, .int mM, .ref yro, .ref yhe, .ref ygr, .int mF, .int mC, .int mY, .ref yta, .int (nI (mz)), .int (nI (nf bb mz u8)), .int (nI (nx bb mz u8)), .int mv, .int 1, .ref ywa, .ref ybi, .ref ysi, .ref ynu, .ref ymo])), (yta, .inl (cI, 120, .inl tp))] H := hP
                have hD : va_D A [(ys, .inl (cI, 449, .inl ms)), (ywa, .inl (cI, 6, .inl f_157)), (h0, .inr (9, [.ref ys, .ref yk, .ref yo, .ref yt, .int mk0, .ref yfa, .ref yfe, .int mL, .int mS, .int mM, .ref yro, .ref yhe, .ref ygr, .int mF, .int mC, .int mY, .ref yta, .int (nI (mz)), .int (nI (nf bb mz u8)), .int (nI (nx bb mz u8)), .int mv, .int 1, .ref ywa, .ref ybi, .ref ysi, .ref ynu, .ref ymo])), (yta, .inl (cI, 120, .inl tp))] := hD
                refine lv_aload_n hx hb dX9_walkItem_123 rfl (lv_at hl 2 rfl) ?_
                refine lv_sipush (v := (-9999)) hx hb dX9_walkItem_124 (by decide) ?_
                refine lv_sipush (v := 9999) hx hb dX9_walkItem_127 (by decide) ?_
                refine xc_Vv (wr := [(ys, .inl (cI, 449, .inl ms)), (ywa, .inl (cI, 6, .inl f_157))]) hF (c_X9_mileW l D cI cJ cZ cS ta sa sv H.size h0 ys yk yo yt mk0 yfa yfe mL mS mM yro yhe ygr mF mC mY yta mz mv ywa ybi ysi ynu ymo tp (-9999) 9999 u8 bb (by omega) hbb (by omega)) kv_X9_287 ⟨rfl, rfl, Nat.le_of_ble_eq_true rfl, Nat.le_of_ble_eq_true rfl⟩ ⟨Nat.le_of_ble_eq_true rfl, Nat.le_of_ble_eq_true rfl⟩ hK hN hZ hP hD hS hA [2, 3] [0, 1] rfl rfl rfl rfl (by decide) 0 rfl rfl rfl rfl hl.1 rfl (Nat.le_of_ble_eq_true rfl) dX9_walkItem_130 (fun u_r_161 H locs hw_r_161 hP hD hS => ?_)
                have hP : va_P D vwCl [(ys, .inl (cI, 449, .inl ms)), (ywa, .inl (cI, 6, .inl f_157)), (h0, .inr (9, [.ref ys, .ref yk, .ref yo, .ref yt, .int mk0, .ref yfa, .ref yfe, .int mL, .int mS, .int mM, .ref yro, .ref yhe, .ref ygr, .int mF, .int mC, .int mY, .ref yta, .int (nI (mz)), .int (nI (nf bb mz u8)), .int (nI (nx bb mz u8)), .int mv, .int 1, .ref ywa, .ref ybi, .ref ysi, .ref ynu, .ref ymo])), (yta, .inl (cI, 120, .inl tp))] H := hP
                have hD : va_D A [(ys, .inl (cI, 449, .inl ms)), (ywa, .inl (cI, 6, .inl f_157)), (h0, .inr (9, [.ref ys, .ref yk, .ref yo, .ref yt, .int mk0, .ref yfa, .ref yfe, .int mL, .int mS, .int mM, .ref yro, .ref yhe, .ref ygr, .int mF, .int mC, .int mY, .ref yta, .int (nI (mz)), .int (nI (nf bb mz u8)), .int (nI (nx bb mz u8)), .int mv, .int 1, .ref ywa, .ref ybi, .ref ysi, .ref ynu, .ref ymo])), (yta, .inl (cI, 120, .inl tp))] := hD
                refine lv_aload_n hx hb dX9_walkItem_133 rfl (lv_at hl 2 rfl) ?_
                refine xg hF kf_X9_275 hK hP 2 rfl rfl dX9_walkItem_134 ?_
                refine lv_istore_n (lv' := [(2, .int mv), (1, .int (nI (n8 + 1))), (0, .ref h0)]) hx hb dX9_walkItem_137 rfl hl (by decide) rfl (fun ls hl => ?_)
                refine lv_iconst (v := 0) hx hb dX9_walkItem_138 (by decide) ?_
                refine lv_istore_n (lv' := [(3, .int 0), (2, .int mv), (1, .int (nI (n8 + 1))), (0, .ref h0)]) hx hb dX9_walkItem_139 rfl hl (by decide) rfl (fun ls hl => ?_)
                refine lv_aload_n hx hb dX9_walkItem_140 rfl (lv_at hl 3 rfl) ?_
                refine lv_bipush (v := 115) hx hb dX9_walkItem_141 (by decide) ?_
                refine lv_bipush (v := 108) hx hb dX9_walkItem_143 (by decide) ?_
                refine lv_bipush (v := 97) hx hb dX9_walkItem_145 (by decide) ?_
                refine lv_bipush (v := 99) hx hb dX9_walkItem_147 (by decide) ?_
                refine lv_bipush (v := 107) hx hb dX9_walkItem_149 (by decide) ?_
                refine lv_iconst (v := 0) hx hb dX9_walkItem_151 (by decide) ?_
                refine lv_iconst (v := 0) hx hb dX9_walkItem_152 (by decide) ?_
                refine xc_Vr hF (c_X9_isWordW l D cI cJ cZ cS ta sa sv H.size h0 ys yk yo yt mk0 yfa yfe mL mS mM yro yhe ygr mF mC mY yta mz mv ywa ybi ysi ynu ymo tp 115 108 97 99 107 0 0 u8 bb (by omega) hbb (by omega)) kv_X9_290 ⟨rfl, rfl, Nat.le_of_ble_eq_true rfl, Nat.le_of_ble_eq_true rfl⟩ ⟨Nat.le_of_ble_eq_true rfl, Nat.le_of_ble_eq_true rfl⟩ hK hN hZ hP hD hS hA [2, 3] rfl rfl 0 rfl rfl rfl rfl hl.1 rfl (Nat.le_of_ble_eq_true rfl) dX9_walkItem_153 (fun r_162 hw_r_162 => ?_)
                subst hw_r_162
                refine lv_if_eq (tgt := 176) hx hb dX9_walkItem_156 (by decide) (fun c_163 => ?_) (fun c_163 => absurd (by decide) c_163)
                refine lv_aload_n hx hb dX9_walkItem_176 rfl (lv_at hl 3 rfl) ?_
                refine xg hF kf_X9_266 hK hP 2 rfl rfl dX9_walkItem_177 ?_
                refine lv_if_ne (tgt := 252) hx hb dX9_walkItem_180 (by decide) (fun c_164 => ?_) (fun c_164 => absurd c_164 (by decide))
                exact W.vret hx hb hr (fun t ht hW => ⟨⟨(u8, 1, mv, ms, Wn, f_157, fawn, fawp, fat, fas), rfl, ⟨Or.inr ⟨hL8.trans ((spSt_end (by omega) h_122).trans (cif_neg (show ¬ 2 ≤ n8 by omega))), rfl⟩, (by first | assumption | omega), hs0, hs1, hs2, hsS, hsM, hsp, hsr, hsw, hsR, hsG⟩, by rw [ht]; exact hP.sub [2, 0, 3, 1] rfl, hD.sub [2, 0, 3, 1] (by decide) rfl⟩, hS.F ht⟩) hS.2.2 dX9_walkItem_252 hlk
            · skip
              have nc_119 : 2 ≤ n8 := xn_nlt (a := n8) (b := 2) (by omega) (by omega) c_119
              refine lv_aload_n hx hb dX9_walkItem_40 rfl (lv_at hl 1 rfl) ?_
              refine lv_aload_n hx hb dX9_walkItem_41 rfl (lv_at hl 1 rfl) ?_
              refine xg hF kf_X9_254 hK hP 2 rfl rfl dX9_walkItem_42 ?_
              refine xc_Vr hF (c_X9_byteAt l D cI cJ cZ cS ta sa sv H.size h0 ys yk yo yt mk0 yfa yfe mL mS mM yro yhe ygr mF mC mY yta mz (nf bb mz u8) (nx bb mz u8) mv 0 ywa ybi ysi ynu ymo tp (nf bb mz u8) bb (by omega) hbb (by omega)) kv_X9_257 ⟨rfl, rfl, Nat.le_of_ble_eq_true rfl, Nat.le_of_ble_eq_true rfl⟩ ⟨Nat.le_of_ble_eq_true rfl, Nat.le_of_ble_eq_true rfl⟩ hK hN hZ hP hD hS hA [2, 3] rfl rfl 0 rfl rfl rfl rfl hl.1 rfl (Nat.le_of_ble_eq_true rfl) dX9_walkItem_45 (fun r_165 hw_r_165 => ?_)
              rcases hw_r_165 with ⟨rfl, h_166⟩ | ⟨rfl, h_167⟩
              · skip
                refine xc_Sr hF (c_X9_isDigit l D cI cJ cZ cS ta sa sv H.size (bb (nf bb mz u8)) ) ks_X9_263 ⟨rfl, rfl, Nat.le_of_ble_eq_true rfl, Nat.le_of_ble_eq_true rfl⟩ ⟨Nat.le_of_ble_eq_true rfl, Nat.le_of_ble_eq_true rfl⟩ hK hN hZ hP hD hS hA [] rfl rfl rfl hl.1 rfl (Nat.le_of_ble_eq_true rfl) dX9_walkItem_48 (fun r_168 hw_r_168 => ?_)
                rcases hw_r_168 with ⟨rfl, h_169, h_170⟩ | ⟨rfl, h_171⟩
                · skip
                  refine lv_if_eq (tgt := 105) hx hb dX9_walkItem_51 (by decide) (fun c_172 => absurd c_172 (by decide)) (fun c_172 => ?_)
                  refine lv_aload_n hx hb dX9_walkItem_54 rfl (lv_at hl 1 rfl) ?_
                  refine xc_Vr hF (c_X9_numberHere0 l D cI cJ cZ cS ta sa sv H.size h0 ys yk yo yt mk0 yfa yfe mL mS mM yro yhe ygr mF mC mY yta mz mv ywa ybi ysi ynu ymo tp u8 bb (by omega) hbb (by omega)) kv_X9_284 ⟨rfl, rfl, Nat.le_of_ble_eq_true rfl, Nat.le_of_ble_eq_true rfl⟩ ⟨Nat.le_of_ble_eq_true rfl, Nat.le_of_ble_eq_true rfl⟩ hK hN hZ hP hD hS hA [2, 3] rfl rfl 0 rfl rfl rfl rfl hl.1 rfl (Nat.le_of_ble_eq_true rfl) dX9_walkItem_55 (fun r_173 hw_r_173 => ?_)
                  rcases hw_r_173 with ⟨rfl, h_174⟩ | ⟨rfl, h_175⟩
                  · skip
                    refine lv_istore_n (lv' := [(2, .int (nI (num bb (nf bb mz u8) (nx bb mz u8)))), (1, .int (nI (n8))), (0, .ref h0)]) hx hb dX9_walkItem_58 rfl hl (by decide) rfl (fun ls hl => ?_)
                    refine lv_aload_n hx hb dX9_walkItem_59 rfl (lv_at hl 2 rfl) ?_
                    refine lv_aload_n hx hb dX9_walkItem_60 rfl (lv_at hl 2 rfl) ?_
                    refine lv_iload_n hx hb dX9_walkItem_61 rfl (lv_at hl 0 rfl) ?_
                    refine xc_Vr hF (c_X9_isPlace l D cI cJ cZ cS ta sa sv H.size h0 ys yk yo yt mk0 yfa yfe mL mS mM yro yhe ygr mF mC mY yta mz (nf bb mz u8) (nx bb mz u8) mv 0 ywa ybi ysi ynu ymo ms P Rn Wn fae fal fau fao farn farp fak fawn fawp fat fas (nI (num bb (nf bb mz u8) (nx bb mz u8))) hs0 hs1 hs2 hsS hsM hsp hsr hsw hsR hsG) kv_X9_61 ⟨rfl, rfl, Nat.le_of_ble_eq_true rfl, Nat.le_of_ble_eq_true rfl⟩ ⟨Nat.le_of_ble_eq_true rfl, Nat.le_of_ble_eq_true rfl⟩ hK hN hZ hP hD hS hA [2, 0] rfl rfl 0 rfl rfl rfl rfl hl.1 rfl (Nat.le_of_ble_eq_true rfl) dX9_walkItem_62 (fun r_176 hw_r_176 => ?_)
                    rcases hw_r_176 with ⟨k_177, rfl, h_178, h_179⟩ | ⟨rfl, h_180⟩
                    · skip
                      refine lv_if_eq (tgt := 88) hx hb dX9_walkItem_65 (by decide) (fun c_181 => absurd c_181 (by decide)) (fun c_181 => ?_)
                      refine lv_iload_n hx hb dX9_walkItem_68 rfl (lv_at hl 1 rfl) ?_
                      refine lv_if_eq (tgt := 84) hx hb dX9_walkItem_69 (by decide) (fun c_182 => by have nc_182 : n8 = 0 := xn_eq (a := n8) (b := 0) (by omega) (by omega) c_182; omega) (fun c_182 => ?_)
                      have nc_182 : n8 ≠ 0 := xn_ne (a := n8) (b := 0) (by omega) (by omega) c_182
                      refine lv_iload_n hx hb dX9_walkItem_72 rfl (lv_at hl 0 rfl) ?_
                      refine lv_aload_n hx hb dX9_walkItem_73 rfl (lv_at hl 2 rfl) ?_
                      refine xg hF kf_X9_40 hK hP 2 rfl rfl dX9_walkItem_74 ?_
                      refine lv_iload_n hx hb dX9_walkItem_77 rfl (lv_at hl 1 rfl) ?_
                      refine lv_iconst (v := 1) hx hb dX9_walkItem_78 (by decide) ?_
                      refine lv_isub hx hb dX9_walkItem_79 ?_
                      refine xl_i (y := nI (n8 - 1)) (pk_sub (show 1 ≤ n8 by omega)) ?_
                      refine va_iald hx hb hK hP 1 0 rfl rfl (vp_in_nI (show n8 - 1 < 6 by omega) (by decide)) dX9_walkItem_80 ?_
                      refine xl_i (y := a8 (n8 - 1)) (congrArg a8 (nI_clamp (show n8 - 1 < 2 ^ 31 by omega))) ?_
                      refine xl_i (y := nI (v8)) hv8 ?_
                      have hnb : num bb (nf bb mz u8) (nx bb mz u8) ≤ 99999 := num_le h_174
                      refine lv_icmp_eq (tgt := 88) hx hb dX9_walkItem_81 (by decide) (fun c_183 => ?_) (fun c_183 => ?_)
                      · skip
                        have nc_183 : num bb (nf bb mz u8) (nx bb mz u8) = v8 := xn_eq (a := (num bb (nf bb mz u8) (nx bb mz u8))) (b := v8) (by omega) (by omega) c_183
                        refine lv_iconst (v := 0) hx hb dX9_walkItem_88 (by decide) ?_
                        refine xc_Vv (wr := [(ys, .inl (cI, 449, .inl ms)), (ywa, .inl (cI, 6, .inl a8))]) hF (c_X9_needs0 l D cI cJ cZ cS ta sa sv H.size h0 ys yk yo yt mk0 yfa yfe mL mS mM yro yhe ygr mF mC mY yta mz mv ywa ybi ysi ynu ymo tp u8 bb (by omega) hbb (by omega)) kv_X9_278 ⟨rfl, rfl, Nat.le_of_ble_eq_true rfl, Nat.le_of_ble_eq_true rfl⟩ ⟨Nat.le_of_ble_eq_true rfl, Nat.le_of_ble_eq_true rfl⟩ hK hN hZ hP hD hS hA [2, 3] [0, 1] rfl rfl rfl rfl (by decide) 0 rfl rfl rfl rfl hl.1 rfl (Nat.le_of_ble_eq_true rfl) dX9_walkItem_89 (fun u_r_184 H locs hw_r_184 hP hD hS => ?_)
                        have hP : va_P D vwCl [(ys, .inl (cI, 449, .inl ms)), (ywa, .inl (cI, 6, .inl a8)), (h0, .inr (9, [.ref ys, .ref yk, .ref yo, .ref yt, .int mk0, .ref yfa, .ref yfe, .int mL, .int mS, .int mM, .ref yro, .ref yhe, .ref ygr, .int mF, .int mC, .int mY, .ref yta, .int (nI (mz)), .int (nI (nf bb mz u8)), .int (nI (nx bb mz u8)), .int mv, .int 1, .ref ywa, .ref ybi, .ref ysi, .ref ynu, .ref ymo])), (yta, .inl (cI, 120, .inl tp))] H := hP
                        have hD : va_D A [(ys, .inl (cI, 449, .inl ms)), (ywa, .inl (cI, 6, .inl a8)), (h0, .inr (9, [.ref ys, .ref yk, .ref yo, .ref yt, .int mk0, .ref yfa, .ref yfe, .int mL, .int mS, .int mM, .ref yro, .ref yhe, .ref ygr, .int mF, .int mC, .int mY, .ref yta, .int (nI (mz)), .int (nI (nf bb mz u8)), .int (nI (nx bb mz u8)), .int mv, .int 1, .ref ywa, .ref ybi, .ref ysi, .ref ynu, .ref ymo])), (yta, .inl (cI, 120, .inl tp))] := hD
                        refine lv_aload_n hx hb dX9_walkItem_92 rfl (lv_at hl 2 rfl) ?_
                        refine xg hF kf_X9_40 hK hP 2 rfl rfl dX9_walkItem_93 ?_
                        refine lv_iload_n hx hb dX9_walkItem_96 rfl (lv_at hl 1 rfl) ?_
                        refine lv_iload_n hx hb dX9_walkItem_97 rfl (lv_at hl 0 rfl) ?_
                        refine va_iast hx hb hK hP hD hS 1 0 rfl rfl (vp_in_nI (show n8 < 6 by omega) (by decide)) dX9_walkItem_98 (fun H locs hP hD hS => ?_)
                        rw [nI_clamp (show n8 < 2 ^ 31 by omega)] at hP hD
                        obtain ⟨f_185, ef_185⟩ : ∃ g, g = upd a8 n8 (nI (num bb (nf bb mz u8) (nx bb mz u8))) := ⟨_, rfl⟩
                        rw [← ef_185] at hP hD
                        have hP : va_P D vwCl [(ys, .inl (cI, 449, .inl ms)), (ywa, .inl (cI, 6, .inl f_185)), (h0, .inr (9, [.ref ys, .ref yk, .ref yo, .ref yt, .int mk0, .ref yfa, .ref yfe, .int mL, .int mS, .int mM, .ref yro, .ref yhe, .ref ygr, .int mF, .int mC, .int mY, .ref yta, .int (nI (mz)), .int (nI (nf bb mz u8)), .int (nI (nx bb mz u8)), .int mv, .int 1, .ref ywa, .ref ybi, .ref ysi, .ref ynu, .ref ymo])), (yta, .inl (cI, 120, .inl tp))] H := hP
                        have hD : va_D A [(ys, .inl (cI, 449, .inl ms)), (ywa, .inl (cI, 6, .inl f_185)), (h0, .inr (9, [.ref ys, .ref yk, .ref yo, .ref yt, .int mk0, .ref yfa, .ref yfe, .int mL, .int mS, .int mM, .ref yro, .ref yhe, .ref ygr, .int mF, .int mC, .int mY, .ref yta, .int (nI (mz)), .int (nI (nf bb mz u8)), .int (nI (nx bb mz u8)), .int mv, .int 1, .ref ywa, .ref ybi, .ref ysi, .ref ynu, .ref ymo])), (yta, .inl (cI, 120, .inl tp))] := hD
                        refine lv_iinc (v := nI (n8 + 1)) (lv' := [(1, .int (nI (n8 + 1))), (2, .int (nI (num bb (nf bb mz u8) (nx bb mz u8)))), (0, .ref h0)]) hx hb dX9_walkItem_99 hl (k := 1) rfl (nI_1 (n8)) (by decide) rfl (fun ls hl => ?_)
                        refine lv_goto (tgt := 22) hx hb dX9_walkItem_102 (by decide) ?_
                        refine lv_aload_n hx hb dX9_walkItem_22 rfl (lv_at hl 2 rfl) ?_
                        refine xg hF kf_X9_266 hK hP 2 rfl rfl dX9_walkItem_23 ?_
                        refine lv_if_ne (tgt := 105) hx hb dX9_walkItem_26 (by decide) (fun c_186 => ?_) (fun c_186 => absurd c_186 (by decide))
                        refine lv_aload_n hx hb dX9_walkItem_105 rfl (lv_at hl 2 rfl) ?_
                        refine lv_aload_n hx hb dX9_walkItem_106 rfl (lv_at hl 2 rfl) ?_
                        refine lv_bipush (v := 97) hx hb dX9_walkItem_107 (by decide) ?_
                        refine lv_bipush (v := 108) hx hb dX9_walkItem_109 (by decide) ?_
                        refine lv_bipush (v := 108) hx hb dX9_walkItem_111 (by decide) ?_
                        refine lv_iconst (v := 0) hx hb dX9_walkItem_113 (by decide) ?_
                        refine lv_iconst (v := 0) hx hb dX9_walkItem_114 (by decide) ?_
                        refine lv_iconst (v := 0) hx hb dX9_walkItem_115 (by decide) ?_
                        refine lv_iconst (v := 0) hx hb dX9_walkItem_116 (by decide) ?_
                        refine xc_Vr hF (c_X9_isWordW l D cI cJ cZ cS ta sa sv H.size h0 ys yk yo yt mk0 yfa yfe mL mS mM yro yhe ygr mF mC mY yta mz mv ywa ybi ysi ynu ymo tp 97 108 108 0 0 0 0 u8 bb (by omega) hbb (by omega)) kv_X9_290 ⟨rfl, rfl, Nat.le_of_ble_eq_true rfl, Nat.le_of_ble_eq_true rfl⟩ ⟨Nat.le_of_ble_eq_true rfl, Nat.le_of_ble_eq_true rfl⟩ hK hN hZ hP hD hS hA [2, 3] rfl rfl 0 rfl rfl rfl rfl hl.1 rfl (Nat.le_of_ble_eq_true rfl) dX9_walkItem_117 (fun r_187 hw_r_187 => ?_)
                        subst hw_r_187
                        refine xc_Vv (wr := [(ys, .inl (cI, 449, .inl ms)), (ywa, .inl (cI, 6, .inl f_185))]) hF (c_X9_needsW l D cI cJ cZ cS ta sa sv H.size h0 ys yk yo yt mk0 yfa yfe mL mS mM yro yhe ygr mF mC mY yta mz mv ywa ybi ysi ynu ymo tp 0 u8 bb (by omega) hbb (by omega)) kv_X9_278 ⟨rfl, rfl, Nat.le_of_ble_eq_true rfl, Nat.le_of_ble_eq_true rfl⟩ ⟨Nat.le_of_ble_eq_true rfl, Nat.le_of_ble_eq_true rfl⟩ hK hN hZ hP hD hS hA [2, 3] [0, 1] rfl rfl rfl rfl (by decide) 0 rfl rfl rfl rfl hl.1 rfl (Nat.le_of_ble_eq_true rfl) dX9_walkItem_120 (fun u_r_188 H locs hw_r_188 hP hD hS => ?_)
                        have hP : va_P D vwCl [(ys, .inl (cI, 449, .inl ms)), (ywa, .inl (cI, 6, .inl f_185)), (h0, .inr (9, [.ref ys, .ref yk, .ref yo, .ref yt, .int mk0, .ref yfa, .ref yfe, .int mL, .int mS, .int mM, .ref yro, .ref yhe, .ref ygr, .int mF, .int mC, .int mY, .ref yta, .int (nI (mz)), .int (nI (nf bb mz u8)), .int (nI (nx bb mz u8)), .int mv, .int 1, .ref ywa, .ref ybi, .ref ysi, .ref ynu, .ref ymo])), (yta, .inl (cI, 120, .inl tp))] H := hP
                        have hD : va_D A [(ys, .inl (cI, 449, .inl ms)), (ywa, .inl (cI, 6, .inl f_185)), (h0, .inr (9, [.ref ys, .ref yk, .ref yo, .ref yt, .int mk0, .ref yfa, .ref yfe, .int mL, .int mS, .int mM, .ref yro, .ref yhe, .ref ygr, .int mF, .int mC, .int mY, .ref yta, .int (nI (mz)), .int (nI (nf bb mz u8)), .int (nI (nx bb mz u8)), .int mv, .int 1, .ref ywa, .ref ybi, .ref ysi, .ref ynu, .ref ymo])), (yta, .inl (cI, 120, .inl tp))] := hD
                        refine lv_aload_n hx hb dX9_walkItem_123 rfl (lv_at hl 2 rfl) ?_
                        refine lv_sipush (v := (-9999)) hx hb dX9_walkItem_124 (by decide) ?_
                        refine lv_sipush (v := 9999) hx hb dX9_walkItem_127 (by decide) ?_
                        refine xc_Vv (wr := [(ys, .inl (cI, 449, .inl ms)), (ywa, .inl (cI, 6, .inl f_185))]) hF (c_X9_mileW l D cI cJ cZ cS ta sa sv H.size h0 ys yk yo yt mk0 yfa yfe mL mS mM yro yhe ygr mF mC mY yta mz mv ywa ybi ysi ynu ymo tp (-9999) 9999 u8 bb (by omega) hbb (by omega)) kv_X9_287 ⟨rfl, rfl, Nat.le_of_ble_eq_true rfl, Nat.le_of_ble_eq_true rfl⟩ ⟨Nat.le_of_ble_eq_true rfl, Nat.le_of_ble_eq_true rfl⟩ hK hN hZ hP hD hS hA [2, 3] [0, 1] rfl rfl rfl rfl (by decide) 0 rfl rfl rfl rfl hl.1 rfl (Nat.le_of_ble_eq_true rfl) dX9_walkItem_130 (fun u_r_189 H locs hw_r_189 hP hD hS => ?_)
                        have hP : va_P D vwCl [(ys, .inl (cI, 449, .inl ms)), (ywa, .inl (cI, 6, .inl f_185)), (h0, .inr (9, [.ref ys, .ref yk, .ref yo, .ref yt, .int mk0, .ref yfa, .ref yfe, .int mL, .int mS, .int mM, .ref yro, .ref yhe, .ref ygr, .int mF, .int mC, .int mY, .ref yta, .int (nI (mz)), .int (nI (nf bb mz u8)), .int (nI (nx bb mz u8)), .int mv, .int 1, .ref ywa, .ref ybi, .ref ysi, .ref ynu, .ref ymo])), (yta, .inl (cI, 120, .inl tp))] H := hP
                        have hD : va_D A [(ys, .inl (cI, 449, .inl ms)), (ywa, .inl (cI, 6, .inl f_185)), (h0, .inr (9, [.ref ys, .ref yk, .ref yo, .ref yt, .int mk0, .ref yfa, .ref yfe, .int mL, .int mS, .int mM, .ref yro, .ref yhe, .ref ygr, .int mF, .int mC, .int mY, .ref yta, .int (nI (mz)), .int (nI (nf bb mz u8)), .int (nI (nx bb mz u8)), .int mv, .int 1, .ref ywa, .ref ybi, .ref ysi, .ref ynu, .ref ymo])), (yta, .inl (cI, 120, .inl tp))] := hD
                        refine lv_aload_n hx hb dX9_walkItem_133 rfl (lv_at hl 2 rfl) ?_
                        refine xg hF kf_X9_275 hK hP 2 rfl rfl dX9_walkItem_134 ?_
                        refine lv_istore_n (lv' := [(2, .int mv), (1, .int (nI (n8 + 1))), (0, .ref h0)]) hx hb dX9_walkItem_137 rfl hl (by decide) rfl (fun ls hl => ?_)
                        refine lv_iconst (v := 0) hx hb dX9_walkItem_138 (by decide) ?_
                        refine lv_istore_n (lv' := [(3, .int 0), (2, .int mv), (1, .int (nI (n8 + 1))), (0, .ref h0)]) hx hb dX9_walkItem_139 rfl hl (by decide) rfl (fun ls hl => ?_)
                        refine lv_aload_n hx hb dX9_walkItem_140 rfl (lv_at hl 3 rfl) ?_
                        refine lv_bipush (v := 115) hx hb dX9_walkItem_141 (by decide) ?_
                        refine lv_bipush (v := 108) hx hb dX9_walkItem_143 (by decide) ?_
                        refine lv_bipush (v := 97) hx hb dX9_walkItem_145 (by decide) ?_
                        refine lv_bipush (v := 99) hx hb dX9_walkItem_147 (by decide) ?_
                        refine lv_bipush (v := 107) hx hb dX9_walkItem_149 (by decide) ?_
                        refine lv_iconst (v := 0) hx hb dX9_walkItem_151 (by decide) ?_
                        refine lv_iconst (v := 0) hx hb dX9_walkItem_152 (by decide) ?_
                        refine xc_Vr hF (c_X9_isWordW l D cI cJ cZ cS ta sa sv H.size h0 ys yk yo yt mk0 yfa yfe mL mS mM yro yhe ygr mF mC mY yta mz mv ywa ybi ysi ynu ymo tp 115 108 97 99 107 0 0 u8 bb (by omega) hbb (by omega)) kv_X9_290 ⟨rfl, rfl, Nat.le_of_ble_eq_true rfl, Nat.le_of_ble_eq_true rfl⟩ ⟨Nat.le_of_ble_eq_true rfl, Nat.le_of_ble_eq_true rfl⟩ hK hN hZ hP hD hS hA [2, 3] rfl rfl 0 rfl rfl rfl rfl hl.1 rfl (Nat.le_of_ble_eq_true rfl) dX9_walkItem_153 (fun r_190 hw_r_190 => ?_)
                        subst hw_r_190
                        refine lv_if_eq (tgt := 176) hx hb dX9_walkItem_156 (by decide) (fun c_191 => ?_) (fun c_191 => absurd (by decide) c_191)
                        refine lv_aload_n hx hb dX9_walkItem_176 rfl (lv_at hl 3 rfl) ?_
                        refine xg hF kf_X9_266 hK hP 2 rfl rfl dX9_walkItem_177 ?_
                        refine lv_if_ne (tgt := 252) hx hb dX9_walkItem_180 (by decide) (fun c_192 => ?_) (fun c_192 => absurd c_192 (by decide))
                        have hc2 := okN_of (P := P) (by omega) h_174 (show num bb (nf bb mz u8) (nx bb mz u8) < P by have h9 := num_k h_174 (by omega) h_178; omega)
                        exact W.vret hx hb hr (fun t ht hW => ⟨⟨(u8, 1, mv, ms, Wn, f_185, fawn, fawp, fat, fas), rfl, ⟨Or.inr ⟨hL8.trans (spSt_no (by omega) h_174 (fun h => h.2 (hc2.2.trans nc_183))), rfl⟩, (by first | assumption | omega), hs0, hs1, hs2, hsS, hsM, hsp, hsr, hsw, hsR, hsG⟩, by rw [ht]; exact hP.sub [2, 0, 3, 1] rfl, hD.sub [2, 0, 3, 1] (by decide) rfl⟩, hS.F ht⟩) hS.2.2 dX9_walkItem_252 hlk
                      · skip
                        have nc_183 : num bb (nf bb mz u8) (nx bb mz u8) ≠ v8 := xn_ne (a := (num bb (nf bb mz u8) (nx bb mz u8))) (b := v8) (by omega) (by omega) c_183
                        refine lv_iconst (v := 1) hx hb dX9_walkItem_84 (by decide) ?_
                        refine lv_goto (tgt := 89) hx hb dX9_walkItem_85 (by decide) ?_
                        refine xc_Vv (wr := [(ys, .inl (cI, 449, .inl ms)), (ywa, .inl (cI, 6, .inl a8))]) hF (c_X9_needs1 l D cI cJ cZ cS ta sa sv H.size h0 ys yk yo yt mk0 yfa yfe mL mS mM yro yhe ygr mF mC mY yta mz mv ywa ybi ysi ynu ymo tp u8 bb (by omega) hbb (by omega)) kv_X9_278 ⟨rfl, rfl, Nat.le_of_ble_eq_true rfl, Nat.le_of_ble_eq_true rfl⟩ ⟨Nat.le_of_ble_eq_true rfl, Nat.le_of_ble_eq_true rfl⟩ hK hN hZ hP hD hS hA [2, 3] [0, 1] rfl rfl rfl rfl (by decide) 0 rfl rfl rfl rfl hl.1 rfl (Nat.le_of_ble_eq_true rfl) dX9_walkItem_89 (fun u_r_193 H locs hw_r_193 hP hD hS => ?_)
                        obtain ⟨i_194, i_195⟩ := hw_r_193
                        have hP : va_P D vwCl [(ys, .inl (cI, 449, .inl ms)), (ywa, .inl (cI, 6, .inl a8)), (h0, .inr (9, [.ref ys, .ref yk, .ref yo, .ref yt, .int mk0, .ref yfa, .ref yfe, .int mL, .int mS, .int mM, .ref yro, .ref yhe, .ref ygr, .int mF, .int mC, .int mY, .ref yta, .int (nI (mz)), .int (nI (nf bb mz (nx bb mz u8))), .int (nI (nx bb mz (nx bb mz u8))), .int mv, .int 0, .ref ywa, .ref ybi, .ref ysi, .ref ynu, .ref ymo])), (yta, .inl (cI, 120, .inl tp))] H := hP
                        have hD : va_D A [(ys, .inl (cI, 449, .inl ms)), (ywa, .inl (cI, 6, .inl a8)), (h0, .inr (9, [.ref ys, .ref yk, .ref yo, .ref yt, .int mk0, .ref yfa, .ref yfe, .int mL, .int mS, .int mM, .ref yro, .ref yhe, .ref ygr, .int mF, .int mC, .int mY, .ref yta, .int (nI (mz)), .int (nI (nf bb mz (nx bb mz u8))), .int (nI (nx bb mz (nx bb mz u8))), .int mv, .int 0, .ref ywa, .ref ybi, .ref ysi, .ref ynu, .ref ymo])), (yta, .inl (cI, 120, .inl tp))] := hD
                        refine lv_aload_n hx hb dX9_walkItem_92 rfl (lv_at hl 2 rfl) ?_
                        refine xg hF kf_X9_40 hK hP 2 rfl rfl dX9_walkItem_93 ?_
                        refine lv_iload_n hx hb dX9_walkItem_96 rfl (lv_at hl 1 rfl) ?_
                        refine lv_iload_n hx hb dX9_walkItem_97 rfl (lv_at hl 0 rfl) ?_
                        refine va_iast hx hb hK hP hD hS 1 0 rfl rfl (vp_in_nI (show n8 < 6 by omega) (by decide)) dX9_walkItem_98 (fun H locs hP hD hS => ?_)
                        rw [nI_clamp (show n8 < 2 ^ 31 by omega)] at hP hD
                        obtain ⟨f_196, ef_196⟩ : ∃ g, g = upd a8 n8 (nI (num bb (nf bb mz u8) (nx bb mz u8))) := ⟨_, rfl⟩
                        rw [← ef_196] at hP hD
                        have hP : va_P D vwCl [(ys, .inl (cI, 449, .inl ms)), (ywa, .inl (cI, 6, .inl f_196)), (h0, .inr (9, [.ref ys, .ref yk, .ref yo, .ref yt, .int mk0, .ref yfa, .ref yfe, .int mL, .int mS, .int mM, .ref yro, .ref yhe, .ref ygr, .int mF, .int mC, .int mY, .ref yta, .int (nI (mz)), .int (nI (nf bb mz (nx bb mz u8))), .int (nI (nx bb mz (nx bb mz u8))), .int mv, .int 0, .ref ywa, .ref ybi, .ref ysi, .ref ynu, .ref ymo])), (yta, .inl (cI, 120, .inl tp))] H := hP
                        have hD : va_D A [(ys, .inl (cI, 449, .inl ms)), (ywa, .inl (cI, 6, .inl f_196)), (h0, .inr (9, [.ref ys, .ref yk, .ref yo, .ref yt, .int mk0, .ref yfa, .ref yfe, .int mL, .int mS, .int mM, .ref yro, .ref yhe, .ref ygr, .int mF, .int mC, .int mY, .ref yta, .int (nI (mz)), .int (nI (nf bb mz (nx bb mz u8))), .int (nI (nx bb mz (nx bb mz u8))), .int mv, .int 0, .ref ywa, .ref ybi, .ref ysi, .ref ynu, .ref ymo])), (yta, .inl (cI, 120, .inl tp))] := hD
                        refine lv_iinc (v := nI (n8 + 1)) (lv' := [(1, .int (nI (n8 + 1))), (2, .int (nI (num bb (nf bb mz u8) (nx bb mz u8)))), (0, .ref h0)]) hx hb dX9_walkItem_99 hl (k := 1) rfl (nI_1 (n8)) (by decide) rfl (fun ls hl => ?_)
                        refine lv_goto (tgt := 22) hx hb dX9_walkItem_102 (by decide) ?_
                        have hc9 := okN_of (P := P) (by omega) h_174 (show num bb (nf bb mz u8) (nx bb mz u8) < P by have h9 := num_k h_174 (by omega) h_178; omega)
                        have hc8 : num bb (nf bb mz u8) (nx bb mz u8) < P := by have h9 := num_k h_174 (by omega) h_178; omega
                        have hc7 : cv bb mz (nf bb mz u8) (nx bb mz u8) = num bb (nf bb mz u8) (nx bb mz u8) := hc9.2
                        exact ih_22 (n8 + 1) (nx bb mz u8) (cv bb mz (nf bb mz u8) (nx bb mz u8)) f_196 _ _ _ (by omega) (by omega) (by omega) (by omega) (by omega) (by omega) (by rw [ef_196, show n8 + 1 - 1 = n8 by omega]; exact pk_us.trans (congrArg nI hc9.2.symm)) (wk_A.put hA8 rfl (show num bb (nf bb mz u8) (nx bb mz u8) < 10 by omega) ef_196) (hL8.trans (spSt_go (by omega) h_174 ⟨hc9.1, fun h => nc_183 (hc9.2.symm.trans h)⟩)) (hN8.trans (wkn_go (by omega) h_174)) (congrArg (nx bb mz) hu8x) (wkA_put (g := fun j => nI (tC bb mz (itN bb mz j (nx bb mz u9)))) hA9 ef_196 (by rw [← hu8x]; exact congrArg nI hc9.2.symm)) (hP.sub [0, 1, 2, 3] rfl) (hD.sub [0, 1, 2, 3] (by decide) rfl) hS (lv_sub hl [0, 2] rfl)
                    · skip
                      refine lv_if_eq (tgt := 88) hx hb dX9_walkItem_65 (by decide) (fun c_197 => ?_) (fun c_197 => absurd (by decide) c_197)
                      refine lv_iconst (v := 0) hx hb dX9_walkItem_88 (by decide) ?_
                      refine xc_Vv (wr := [(ys, .inl (cI, 449, .inl ms)), (ywa, .inl (cI, 6, .inl a8))]) hF (c_X9_needs0 l D cI cJ cZ cS ta sa sv H.size h0 ys yk yo yt mk0 yfa yfe mL mS mM yro yhe ygr mF mC mY yta mz mv ywa ybi ysi ynu ymo tp u8 bb (by omega) hbb (by omega)) kv_X9_278 ⟨rfl, rfl, Nat.le_of_ble_eq_true rfl, Nat.le_of_ble_eq_true rfl⟩ ⟨Nat.le_of_ble_eq_true rfl, Nat.le_of_ble_eq_true rfl⟩ hK hN hZ hP hD hS hA [2, 3] [0, 1] rfl rfl rfl rfl (by decide) 0 rfl rfl rfl rfl hl.1 rfl (Nat.le_of_ble_eq_true rfl) dX9_walkItem_89 (fun u_r_198 H locs hw_r_198 hP hD hS => ?_)
                      have hP : va_P D vwCl [(ys, .inl (cI, 449, .inl ms)), (ywa, .inl (cI, 6, .inl a8)), (h0, .inr (9, [.ref ys, .ref yk, .ref yo, .ref yt, .int mk0, .ref yfa, .ref yfe, .int mL, .int mS, .int mM, .ref yro, .ref yhe, .ref ygr, .int mF, .int mC, .int mY, .ref yta, .int (nI (mz)), .int (nI (nf bb mz u8)), .int (nI (nx bb mz u8)), .int mv, .int 1, .ref ywa, .ref ybi, .ref ysi, .ref ynu, .ref ymo])), (yta, .inl (cI, 120, .inl tp))] H := hP
                      have hD : va_D A [(ys, .inl (cI, 449, .inl ms)), (ywa, .inl (cI, 6, .inl a8)), (h0, .inr (9, [.ref ys, .ref yk, .ref yo, .ref yt, .int mk0, .ref yfa, .ref yfe, .int mL, .int mS, .int mM, .ref yro, .ref yhe, .ref ygr, .int mF, .int mC, .int mY, .ref yta, .int (nI (mz)), .int (nI (nf bb mz u8)), .int (nI (nx bb mz u8)), .int mv, .int 1, .ref ywa, .ref ybi, .ref ysi, .ref ynu, .ref ymo])), (yta, .inl (cI, 120, .inl tp))] := hD
                      refine lv_aload_n hx hb dX9_walkItem_92 rfl (lv_at hl 2 rfl) ?_
                      refine xg hF kf_X9_40 hK hP 2 rfl rfl dX9_walkItem_93 ?_
                      refine lv_iload_n hx hb dX9_walkItem_96 rfl (lv_at hl 1 rfl) ?_
                      refine lv_iload_n hx hb dX9_walkItem_97 rfl (lv_at hl 0 rfl) ?_
                      refine va_iast hx hb hK hP hD hS 1 0 rfl rfl (vp_in_nI (show n8 < 6 by omega) (by decide)) dX9_walkItem_98 (fun H locs hP hD hS => ?_)
                      rw [nI_clamp (show n8 < 2 ^ 31 by omega)] at hP hD
                      obtain ⟨f_199, ef_199⟩ : ∃ g, g = upd a8 n8 (nI (num bb (nf bb mz u8) (nx bb mz u8))) := ⟨_, rfl⟩
                      rw [← ef_199] at hP hD
                      have hP : va_P D vwCl [(ys, .inl (cI, 449, .inl ms)), (ywa, .inl (cI, 6, .inl f_199)), (h0, .inr (9, [.ref ys, .ref yk, .ref yo, .ref yt, .int mk0, .ref yfa, .ref yfe, .int mL, .int mS, .int mM, .ref yro, .ref yhe, .ref ygr, .int mF, .int mC, .int mY, .ref yta, .int (nI (mz)), .int (nI (nf bb mz u8)), .int (nI (nx bb mz u8)), .int mv, .int 1, .ref ywa, .ref ybi, .ref ysi, .ref ynu, .ref ymo])), (yta, .inl (cI, 120, .inl tp))] H := hP
                      have hD : va_D A [(ys, .inl (cI, 449, .inl ms)), (ywa, .inl (cI, 6, .inl f_199)), (h0, .inr (9, [.ref ys, .ref yk, .ref yo, .ref yt, .int mk0, .ref yfa, .ref yfe, .int mL, .int mS, .int mM, .ref yro, .ref yhe, .ref ygr, .int mF, .int mC, .int mY, .ref yta, .int (nI (mz)), .int (nI (nf bb mz u8)), .int (nI (nx bb mz u8)), .int mv, .int 1, .ref ywa, .ref ybi, .ref ysi, .ref ynu, .ref ymo])), (yta, .inl (cI, 120, .inl tp))] := hD
                      refine lv_iinc (v := nI (n8 + 1)) (lv' := [(1, .int (nI (n8 + 1))), (2, .int (nI (num bb (nf bb mz u8) (nx bb mz u8)))), (0, .ref h0)]) hx hb dX9_walkItem_99 hl (k := 1) rfl (nI_1 (n8)) (by decide) rfl (fun ls hl => ?_)
                      refine lv_goto (tgt := 22) hx hb dX9_walkItem_102 (by decide) ?_
                      refine lv_aload_n hx hb dX9_walkItem_22 rfl (lv_at hl 2 rfl) ?_
                      refine xg hF kf_X9_266 hK hP 2 rfl rfl dX9_walkItem_23 ?_
                      refine lv_if_ne (tgt := 105) hx hb dX9_walkItem_26 (by decide) (fun c_200 => ?_) (fun c_200 => absurd c_200 (by decide))
                      refine lv_aload_n hx hb dX9_walkItem_105 rfl (lv_at hl 2 rfl) ?_
                      refine lv_aload_n hx hb dX9_walkItem_106 rfl (lv_at hl 2 rfl) ?_
                      refine lv_bipush (v := 97) hx hb dX9_walkItem_107 (by decide) ?_
                      refine lv_bipush (v := 108) hx hb dX9_walkItem_109 (by decide) ?_
                      refine lv_bipush (v := 108) hx hb dX9_walkItem_111 (by decide) ?_
                      refine lv_iconst (v := 0) hx hb dX9_walkItem_113 (by decide) ?_
                      refine lv_iconst (v := 0) hx hb dX9_walkItem_114 (by decide) ?_
                      refine lv_iconst (v := 0) hx hb dX9_walkItem_115 (by decide) ?_
                      refine lv_iconst (v := 0) hx hb dX9_walkItem_116 (by decide) ?_
                      refine xc_Vr hF (c_X9_isWordW l D cI cJ cZ cS ta sa sv H.size h0 ys yk yo yt mk0 yfa yfe mL mS mM yro yhe ygr mF mC mY yta mz mv ywa ybi ysi ynu ymo tp 97 108 108 0 0 0 0 u8 bb (by omega) hbb (by omega)) kv_X9_290 ⟨rfl, rfl, Nat.le_of_ble_eq_true rfl, Nat.le_of_ble_eq_true rfl⟩ ⟨Nat.le_of_ble_eq_true rfl, Nat.le_of_ble_eq_true rfl⟩ hK hN hZ hP hD hS hA [2, 3] rfl rfl 0 rfl rfl rfl rfl hl.1 rfl (Nat.le_of_ble_eq_true rfl) dX9_walkItem_117 (fun r_201 hw_r_201 => ?_)
                      subst hw_r_201
                      refine xc_Vv (wr := [(ys, .inl (cI, 449, .inl ms)), (ywa, .inl (cI, 6, .inl f_199))]) hF (c_X9_needsW l D cI cJ cZ cS ta sa sv H.size h0 ys yk yo yt mk0 yfa yfe mL mS mM yro yhe ygr mF mC mY yta mz mv ywa ybi ysi ynu ymo tp 0 u8 bb (by omega) hbb (by omega)) kv_X9_278 ⟨rfl, rfl, Nat.le_of_ble_eq_true rfl, Nat.le_of_ble_eq_true rfl⟩ ⟨Nat.le_of_ble_eq_true rfl, Nat.le_of_ble_eq_true rfl⟩ hK hN hZ hP hD hS hA [2, 3] [0, 1] rfl rfl rfl rfl (by decide) 0 rfl rfl rfl rfl hl.1 rfl (Nat.le_of_ble_eq_true rfl) dX9_walkItem_120 (fun u_r_202 H locs hw_r_202 hP hD hS => ?_)
                      have hP : va_P D vwCl [(ys, .inl (cI, 449, .inl ms)), (ywa, .inl (cI, 6, .inl f_199)), (h0, .inr (9, [.ref ys, .ref yk, .ref yo, .ref yt, .int mk0, .ref yfa, .ref yfe, .int mL, .int mS, .int mM, .ref yro, .ref yhe, .ref ygr, .int mF, .int mC, .int mY, .ref yta, .int (nI (mz)), .int (nI (nf bb mz u8)), .int (nI (nx bb mz u8)), .int mv, .int 1, .ref ywa, .ref ybi, .ref ysi, .ref ynu, .ref ymo])), (yta, .inl (cI, 120, .inl tp))] H := hP
                      have hD : va_D A [(ys, .inl (cI, 449, .inl ms)), (ywa, .inl (cI, 6, .inl f_199)), (h0, .inr (9, [.ref ys, .ref yk, .ref yo, .ref yt, .int mk0, .ref yfa, .ref yfe, .int mL, .int mS, .int mM, .ref yro, .ref yhe, .ref ygr, .int mF, .int mC, .int mY, .ref yta, .int (nI (mz)), .int (nI (nf bb mz u8)), .int (nI (nx bb mz u8)), .int mv, .int 1, .ref ywa, .ref ybi, .ref ysi, .ref ynu, .ref ymo])), (yta, .inl (cI, 120, .inl tp))] := hD
                      refine lv_aload_n hx hb dX9_walkItem_123 rfl (lv_at hl 2 rfl) ?_
                      refine lv_sipush (v := (-9999)) hx hb dX9_walkItem_124 (by decide) ?_
                      refine lv_sipush (v := 9999) hx hb dX9_walkItem_127 (by decide) ?_
                      refine xc_Vv (wr := [(ys, .inl (cI, 449, .inl ms)), (ywa, .inl (cI, 6, .inl f_199))]) hF (c_X9_mileW l D cI cJ cZ cS ta sa sv H.size h0 ys yk yo yt mk0 yfa yfe mL mS mM yro yhe ygr mF mC mY yta mz mv ywa ybi ysi ynu ymo tp (-9999) 9999 u8 bb (by omega) hbb (by omega)) kv_X9_287 ⟨rfl, rfl, Nat.le_of_ble_eq_true rfl, Nat.le_of_ble_eq_true rfl⟩ ⟨Nat.le_of_ble_eq_true rfl, Nat.le_of_ble_eq_true rfl⟩ hK hN hZ hP hD hS hA [2, 3] [0, 1] rfl rfl rfl rfl (by decide) 0 rfl rfl rfl rfl hl.1 rfl (Nat.le_of_ble_eq_true rfl) dX9_walkItem_130 (fun u_r_203 H locs hw_r_203 hP hD hS => ?_)
                      have hP : va_P D vwCl [(ys, .inl (cI, 449, .inl ms)), (ywa, .inl (cI, 6, .inl f_199)), (h0, .inr (9, [.ref ys, .ref yk, .ref yo, .ref yt, .int mk0, .ref yfa, .ref yfe, .int mL, .int mS, .int mM, .ref yro, .ref yhe, .ref ygr, .int mF, .int mC, .int mY, .ref yta, .int (nI (mz)), .int (nI (nf bb mz u8)), .int (nI (nx bb mz u8)), .int mv, .int 1, .ref ywa, .ref ybi, .ref ysi, .ref ynu, .ref ymo])), (yta, .inl (cI, 120, .inl tp))] H := hP
                      have hD : va_D A [(ys, .inl (cI, 449, .inl ms)), (ywa, .inl (cI, 6, .inl f_199)), (h0, .inr (9, [.ref ys, .ref yk, .ref yo, .ref yt, .int mk0, .ref yfa, .ref yfe, .int mL, .int mS, .int mM, .ref yro, .ref yhe, .ref ygr, .int mF, .int mC, .int mY, .ref yta, .int (nI (mz)), .int (nI (nf bb mz u8)), .int (nI (nx bb mz u8)), .int mv, .int 1, .ref ywa, .ref ybi, .ref ysi, .ref ynu, .ref ymo])), (yta, .inl (cI, 120, .inl tp))] := hD
                      refine lv_aload_n hx hb dX9_walkItem_133 rfl (lv_at hl 2 rfl) ?_
                      refine xg hF kf_X9_275 hK hP 2 rfl rfl dX9_walkItem_134 ?_
                      refine lv_istore_n (lv' := [(2, .int mv), (1, .int (nI (n8 + 1))), (0, .ref h0)]) hx hb dX9_walkItem_137 rfl hl (by decide) rfl (fun ls hl => ?_)
                      refine lv_iconst (v := 0) hx hb dX9_walkItem_138 (by decide) ?_
                      refine lv_istore_n (lv' := [(3, .int 0), (2, .int mv), (1, .int (nI (n8 + 1))), (0, .ref h0)]) hx hb dX9_walkItem_139 rfl hl (by decide) rfl (fun ls hl => ?_)
                      refine lv_aload_n hx hb dX9_walkItem_140 rfl (lv_at hl 3 rfl) ?_
                      refine lv_bipush (v := 115) hx hb dX9_walkItem_141 (by decide) ?_
                      refine lv_bipush (v := 108) hx hb dX9_walkItem_143 (by decide) ?_
                      refine lv_bipush (v := 97) hx hb dX9_walkItem_145 (by decide) ?_
                      refine lv_bipush (v := 99) hx hb dX9_walkItem_147 (by decide) ?_
                      refine lv_bipush (v := 107) hx hb dX9_walkItem_149 (by decide) ?_
                      refine lv_iconst (v := 0) hx hb dX9_walkItem_151 (by decide) ?_
                      refine lv_iconst (v := 0) hx hb dX9_walkItem_152 (by decide) ?_
                      refine xc_Vr hF (c_X9_isWordW l D cI cJ cZ cS ta sa sv H.size h0 ys yk yo yt mk0 yfa yfe mL mS mM yro yhe ygr mF mC mY yta mz mv ywa ybi ysi ynu ymo tp 115 108 97 99 107 0 0 u8 bb (by omega) hbb (by omega)) kv_X9_290 ⟨rfl, rfl, Nat.le_of_ble_eq_true rfl, Nat.le_of_ble_eq_true rfl⟩ ⟨Nat.le_of_ble_eq_true rfl, Nat.le_of_ble_eq_true rfl⟩ hK hN hZ hP hD hS hA [2, 3] rfl rfl 0 rfl rfl rfl rfl hl.1 rfl (Nat.le_of_ble_eq_true rfl) dX9_walkItem_153 (fun r_204 hw_r_204 => ?_)
                      subst hw_r_204
                      refine lv_if_eq (tgt := 176) hx hb dX9_walkItem_156 (by decide) (fun c_205 => ?_) (fun c_205 => absurd (by decide) c_205)
                      refine lv_aload_n hx hb dX9_walkItem_176 rfl (lv_at hl 3 rfl) ?_
                      refine xg hF kf_X9_266 hK hP 2 rfl rfl dX9_walkItem_177 ?_
                      refine lv_if_ne (tgt := 252) hx hb dX9_walkItem_180 (by decide) (fun c_206 => ?_) (fun c_206 => absurd c_206 (by decide))
                      exact W.vret hx hb hr (fun t ht hW => ⟨⟨(u8, 1, mv, ms, Wn, f_199, fawn, fawp, fat, fas), rfl, ⟨Or.inr ⟨hL8.trans (spSt_no (by omega) h_174 (fun h => h_180 (okN_isP (by omega) h.1))), rfl⟩, (by first | assumption | omega), hs0, hs1, hs2, hsS, hsM, hsp, hsr, hsw, hsR, hsG⟩, by rw [ht]; exact hP.sub [2, 0, 3, 1] rfl, hD.sub [2, 0, 3, 1] (by decide) rfl⟩, hS.F ht⟩) hS.2.2 dX9_walkItem_252 hlk
                  · exact absurd (kd_D (by omega) ⟨h_169, h_170⟩) h_175
                · skip
                  refine lv_if_eq (tgt := 105) hx hb dX9_walkItem_51 (by decide) (fun c_207 => ?_) (fun c_207 => absurd (by decide) c_207)
                  refine lv_aload_n hx hb dX9_walkItem_105 rfl (lv_at hl 1 rfl) ?_
                  refine lv_aload_n hx hb dX9_walkItem_106 rfl (lv_at hl 1 rfl) ?_
                  refine lv_bipush (v := 97) hx hb dX9_walkItem_107 (by decide) ?_
                  refine lv_bipush (v := 108) hx hb dX9_walkItem_109 (by decide) ?_
                  refine lv_bipush (v := 108) hx hb dX9_walkItem_111 (by decide) ?_
                  refine lv_iconst (v := 0) hx hb dX9_walkItem_113 (by decide) ?_
                  refine lv_iconst (v := 0) hx hb dX9_walkItem_114 (by decide) ?_
                  refine lv_iconst (v := 0) hx hb dX9_walkItem_115 (by decide) ?_
                  refine lv_iconst (v := 0) hx hb dX9_walkItem_116 (by decide) ?_
                  refine xc_Vr hF (c_X9_isWord_6 l D cI cJ cZ cS ta sa sv H.size h0 ys yk yo yt mk0 yfa yfe mL mS mM yro yhe ygr mF mC mY yta mz mv ywa ybi ysi ynu ymo tp u8 bb (by omega) hbb (by omega)) kv_X9_290 ⟨rfl, rfl, Nat.le_of_ble_eq_true rfl, Nat.le_of_ble_eq_true rfl⟩ ⟨Nat.le_of_ble_eq_true rfl, Nat.le_of_ble_eq_true rfl⟩ hK hN hZ hP hD hS hA [2, 3] rfl rfl 0 rfl rfl rfl rfl hl.1 rfl (Nat.le_of_ble_eq_true rfl) dX9_walkItem_117 (fun r_208 hw_r_208 => ?_)
                  rcases hw_r_208 with ⟨rfl, h_209⟩ | ⟨rfl, h_210⟩
                  · skip
                    refine xc_Vv (wr := [(ys, .inl (cI, 449, .inl ms)), (ywa, .inl (cI, 6, .inl a8))]) hF (c_X9_needs1 l D cI cJ cZ cS ta sa sv H.size h0 ys yk yo yt mk0 yfa yfe mL mS mM yro yhe ygr mF mC mY yta mz mv ywa ybi ysi ynu ymo tp u8 bb (by omega) hbb (by omega)) kv_X9_278 ⟨rfl, rfl, Nat.le_of_ble_eq_true rfl, Nat.le_of_ble_eq_true rfl⟩ ⟨Nat.le_of_ble_eq_true rfl, Nat.le_of_ble_eq_true rfl⟩ hK hN hZ hP hD hS hA [2, 3] [0, 1] rfl rfl rfl rfl (by decide) 0 rfl rfl rfl rfl hl.1 rfl (Nat.le_of_ble_eq_true rfl) dX9_walkItem_120 (fun u_r_211 H locs hw_r_211 hP hD hS => ?_)
                    obtain ⟨i_212, i_213⟩ := hw_r_211
                    have hP : va_P D vwCl [(ys, .inl (cI, 449, .inl ms)), (ywa, .inl (cI, 6, .inl a8)), (h0, .inr (9, [.ref ys, .ref yk, .ref yo, .ref yt, .int mk0, .ref yfa, .ref yfe, .int mL, .int mS, .int mM, .ref yro, .ref yhe, .ref ygr, .int mF, .int mC, .int mY, .ref yta, .int (nI (mz)), .int (nI (nf bb mz (nx bb mz u8))), .int (nI (nx bb mz (nx bb mz u8))), .int mv, .int 0, .ref ywa, .ref ybi, .ref ysi, .ref ynu, .ref ymo])), (yta, .inl (cI, 120, .inl tp))] H := hP
                    have hD : va_D A [(ys, .inl (cI, 449, .inl ms)), (ywa, .inl (cI, 6, .inl a8)), (h0, .inr (9, [.ref ys, .ref yk, .ref yo, .ref yt, .int mk0, .ref yfa, .ref yfe, .int mL, .int mS, .int mM, .ref yro, .ref yhe, .ref ygr, .int mF, .int mC, .int mY, .ref yta, .int (nI (mz)), .int (nI (nf bb mz (nx bb mz u8))), .int (nI (nx bb mz (nx bb mz u8))), .int mv, .int 0, .ref ywa, .ref ybi, .ref ysi, .ref ynu, .ref ymo])), (yta, .inl (cI, 120, .inl tp))] := hD
                    refine lv_aload_n hx hb dX9_walkItem_123 rfl (lv_at hl 1 rfl) ?_
                    refine lv_sipush (v := (-9999)) hx hb dX9_walkItem_124 (by decide) ?_
                    refine lv_sipush (v := 9999) hx hb dX9_walkItem_127 (by decide) ?_
                    refine xc_Vv (wr := [(ys, .inl (cI, 449, .inl ms)), (ywa, .inl (cI, 6, .inl a8))]) hF (c_X9_mile0 l D cI cJ cZ cS ta sa sv H.size h0 ys yk yo yt mk0 yfa yfe mL mS mM yro yhe ygr mF mC mY yta mz mv ywa ybi ysi ynu ymo tp (-9999) 9999 (nx bb mz u8) bb (by omega) hbb (by omega) (by decide) (by decide) (by decide) (by decide)) kv_X9_287 ⟨rfl, rfl, Nat.le_of_ble_eq_true rfl, Nat.le_of_ble_eq_true rfl⟩ ⟨Nat.le_of_ble_eq_true rfl, Nat.le_of_ble_eq_true rfl⟩ hK hN hZ hP hD hS hA [2, 3] [0, 1] rfl rfl rfl rfl (by decide) 0 rfl rfl rfl rfl hl.1 rfl (Nat.le_of_ble_eq_true rfl) dX9_walkItem_130 (fun u_r_214 H locs hw_r_214 hP hD hS => ?_)
                    obtain ⟨u2_215, w2_216, v2_217⟩ := u_r_214
                    try dsimp only at hw_r_214
                    obtain ⟨hw_r_214, i_218, i_219⟩ := hw_r_214
                    have hP : va_P D vwCl [(ys, .inl (cI, 449, .inl ms)), (ywa, .inl (cI, 6, .inl a8)), (h0, .inr (9, [.ref ys, .ref yk, .ref yo, .ref yt, .int mk0, .ref yfa, .ref yfe, .int mL, .int mS, .int mM, .ref yro, .ref yhe, .ref ygr, .int mF, .int mC, .int mY, .ref yta, .int (nI (mz)), .int (nI (nf bb mz u2_215)), .int (nI (nx bb mz u2_215)), .int v2_217, .int w2_216, .ref ywa, .ref ybi, .ref ysi, .ref ynu, .ref ymo])), (yta, .inl (cI, 120, .inl tp))] H := hP
                    have hD : va_D A [(ys, .inl (cI, 449, .inl ms)), (ywa, .inl (cI, 6, .inl a8)), (h0, .inr (9, [.ref ys, .ref yk, .ref yo, .ref yt, .int mk0, .ref yfa, .ref yfe, .int mL, .int mS, .int mM, .ref yro, .ref yhe, .ref ygr, .int mF, .int mC, .int mY, .ref yta, .int (nI (mz)), .int (nI (nf bb mz u2_215)), .int (nI (nx bb mz u2_215)), .int v2_217, .int w2_216, .ref ywa, .ref ybi, .ref ysi, .ref ynu, .ref ymo])), (yta, .inl (cI, 120, .inl tp))] := hD
                    rcases hw_r_214 with ⟨h_220, h_221, h_222, h_223⟩ | ⟨h_224, h_225, h_226⟩
                    · skip
                      subst h_221
                      subst h_222
                      subst h_223
                      refine lv_aload_n hx hb dX9_walkItem_133 rfl (lv_at hl 1 rfl) ?_
                      refine xg hF kf_X9_275 hK hP 2 rfl rfl dX9_walkItem_134 ?_
                      refine lv_istore_n (lv' := [(2, .int (mV bb mz (nx bb mz u8))), (1, .int (nI (n8))), (0, .ref h0)]) hx hb dX9_walkItem_137 rfl hl (by decide) rfl (fun ls hl => ?_)
                      refine lv_iconst (v := 0) hx hb dX9_walkItem_138 (by decide) ?_
                      refine lv_istore_n (lv' := [(3, .int 0), (2, .int (mV bb mz (nx bb mz u8))), (1, .int (nI (n8))), (0, .ref h0)]) hx hb dX9_walkItem_139 rfl hl (by decide) rfl (fun ls hl => ?_)
                      refine lv_aload_n hx hb dX9_walkItem_140 rfl (lv_at hl 3 rfl) ?_
                      refine lv_bipush (v := 115) hx hb dX9_walkItem_141 (by decide) ?_
                      refine lv_bipush (v := 108) hx hb dX9_walkItem_143 (by decide) ?_
                      refine lv_bipush (v := 97) hx hb dX9_walkItem_145 (by decide) ?_
                      refine lv_bipush (v := 99) hx hb dX9_walkItem_147 (by decide) ?_
                      refine lv_bipush (v := 107) hx hb dX9_walkItem_149 (by decide) ?_
                      refine lv_iconst (v := 0) hx hb dX9_walkItem_151 (by decide) ?_
                      refine lv_iconst (v := 0) hx hb dX9_walkItem_152 (by decide) ?_
                      refine xc_Vr hF (c_X9_isWord_7 l D cI cJ cZ cS ta sa sv H.size h0 ys yk yo yt mk0 yfa yfe mL mS mM yro yhe ygr mF mC mY yta mz (mV bb mz (nx bb mz u8)) ywa ybi ysi ynu ymo tp (nx bb mz (mSt bb mz (nx bb mz u8))) bb (by omega) hbb (by omega)) kv_X9_290 ⟨rfl, rfl, Nat.le_of_ble_eq_true rfl, Nat.le_of_ble_eq_true rfl⟩ ⟨Nat.le_of_ble_eq_true rfl, Nat.le_of_ble_eq_true rfl⟩ hK hN hZ hP hD hS hA [2, 3] rfl rfl 0 rfl rfl rfl rfl hl.1 rfl (Nat.le_of_ble_eq_true rfl) dX9_walkItem_153 (fun r_227 hw_r_227 => ?_)
                      rcases hw_r_227 with ⟨rfl, h_228⟩ | ⟨rfl, h_229⟩
                      · skip
                        refine lv_if_eq (tgt := 176) hx hb dX9_walkItem_156 (by decide) (fun c_230 => absurd c_230 (by decide)) (fun c_230 => ?_)
                        refine lv_aload_n hx hb dX9_walkItem_159 rfl (lv_at hl 3 rfl) ?_
                        refine lv_iconst (v := 1) hx hb dX9_walkItem_160 (by decide) ?_
                        refine xc_Vv (wr := [(ys, .inl (cI, 449, .inl ms)), (ywa, .inl (cI, 6, .inl a8))]) hF (c_X9_needs1 l D cI cJ cZ cS ta sa sv H.size h0 ys yk yo yt mk0 yfa yfe mL mS mM yro yhe ygr mF mC mY yta mz (mV bb mz (nx bb mz u8)) ywa ybi ysi ynu ymo tp (nx bb mz (mSt bb mz (nx bb mz u8))) bb (by omega) hbb (by omega)) kv_X9_278 ⟨rfl, rfl, Nat.le_of_ble_eq_true rfl, Nat.le_of_ble_eq_true rfl⟩ ⟨Nat.le_of_ble_eq_true rfl, Nat.le_of_ble_eq_true rfl⟩ hK hN hZ hP hD hS hA [2, 3] [0, 1] rfl rfl rfl rfl (by decide) 0 rfl rfl rfl rfl hl.1 rfl (Nat.le_of_ble_eq_true rfl) dX9_walkItem_161 (fun u_r_231 H locs hw_r_231 hP hD hS => ?_)
                        obtain ⟨i_232, i_233⟩ := hw_r_231
                        have hP : va_P D vwCl [(ys, .inl (cI, 449, .inl ms)), (ywa, .inl (cI, 6, .inl a8)), (h0, .inr (9, [.ref ys, .ref yk, .ref yo, .ref yt, .int mk0, .ref yfa, .ref yfe, .int mL, .int mS, .int mM, .ref yro, .ref yhe, .ref ygr, .int mF, .int mC, .int mY, .ref yta, .int (nI (mz)), .int (nI (nf bb mz (nx bb mz (nx bb mz (mSt bb mz (nx bb mz u8)))))), .int (nI (nx bb mz (nx bb mz (nx bb mz (mSt bb mz (nx bb mz u8)))))), .int (mV bb mz (nx bb mz u8)), .int 0, .ref ywa, .ref ybi, .ref ysi, .ref ynu, .ref ymo])), (yta, .inl (cI, 120, .inl tp))] H := hP
                        have hD : va_D A [(ys, .inl (cI, 449, .inl ms)), (ywa, .inl (cI, 6, .inl a8)), (h0, .inr (9, [.ref ys, .ref yk, .ref yo, .ref yt, .int mk0, .ref yfa, .ref yfe, .int mL, .int mS, .int mM, .ref yro, .ref yhe, .ref ygr, .int mF, .int mC, .int mY, .ref yta, .int (nI (mz)), .int (nI (nf bb mz (nx bb mz (nx bb mz (mSt bb mz (nx bb mz u8)))))), .int (nI (nx bb mz (nx bb mz (nx bb mz (mSt bb mz (nx bb mz u8)))))), .int (mV bb mz (nx bb mz u8)), .int 0, .ref ywa, .ref ybi, .ref ysi, .ref ynu, .ref ymo])), (yta, .inl (cI, 120, .inl tp))] := hD
                        refine lv_aload_n hx hb dX9_walkItem_164 rfl (lv_at hl 3 rfl) ?_
                        refine lv_iconst (v := 0) hx hb dX9_walkItem_165 (by decide) ?_
                        refine lv_bipush (v := 99) hx hb dX9_walkItem_166 (by decide) ?_
                        refine xc_Vv (wr := [(ys, .inl (cI, 449, .inl ms)), (ywa, .inl (cI, 6, .inl a8))]) hF (c_X9_number0 l D cI cJ cZ cS ta sa sv H.size h0 ys yk yo yt mk0 yfa yfe mL mS mM yro yhe ygr mF mC mY yta mz (mV bb mz (nx bb mz u8)) ywa ybi ysi ynu ymo tp 0 99 (nx bb mz (nx bb mz (mSt bb mz (nx bb mz u8)))) bb (by omega) hbb (by omega)) kv_X9_282 ⟨rfl, rfl, Nat.le_of_ble_eq_true rfl, Nat.le_of_ble_eq_true rfl⟩ ⟨Nat.le_of_ble_eq_true rfl, Nat.le_of_ble_eq_true rfl⟩ hK hN hZ hP hD hS hA [2, 3] [0, 1] rfl rfl rfl rfl (by decide) 0 rfl rfl rfl rfl hl.1 rfl (Nat.le_of_ble_eq_true rfl) dX9_walkItem_168 (fun u_r_234 H locs hw_r_234 hP hD hS => ?_)
                        obtain ⟨u2_235, w2_236, v2_237⟩ := u_r_234
                        try dsimp only at hw_r_234
                        obtain ⟨hw_r_234, i_238, i_239⟩ := hw_r_234
                        have hP : va_P D vwCl [(ys, .inl (cI, 449, .inl ms)), (ywa, .inl (cI, 6, .inl a8)), (h0, .inr (9, [.ref ys, .ref yk, .ref yo, .ref yt, .int mk0, .ref yfa, .ref yfe, .int mL, .int mS, .int mM, .ref yro, .ref yhe, .ref ygr, .int mF, .int mC, .int mY, .ref yta, .int (nI (mz)), .int (nI (nf bb mz u2_235)), .int (nI (nx bb mz u2_235)), .int v2_237, .int w2_236, .ref ywa, .ref ybi, .ref ysi, .ref ynu, .ref ymo])), (yta, .inl (cI, 120, .inl tp))] H := hP
                        have hD : va_D A [(ys, .inl (cI, 449, .inl ms)), (ywa, .inl (cI, 6, .inl a8)), (h0, .inr (9, [.ref ys, .ref yk, .ref yo, .ref yt, .int mk0, .ref yfa, .ref yfe, .int mL, .int mS, .int mM, .ref yro, .ref yhe, .ref ygr, .int mF, .int mC, .int mY, .ref yta, .int (nI (mz)), .int (nI (nf bb mz u2_235)), .int (nI (nx bb mz u2_235)), .int v2_237, .int w2_236, .ref ywa, .ref ybi, .ref ysi, .ref ynu, .ref ymo])), (yta, .inl (cI, 120, .inl tp))] := hD
                        rcases hw_r_234 with ⟨h_240, h_241, h_242, h_243⟩ | ⟨h_244, h_245, h_246⟩
                        · skip
                          subst h_241
                          subst h_242
                          subst h_243
                          refine lv_aload_n hx hb dX9_walkItem_171 rfl (lv_at hl 3 rfl) ?_
                          refine xg hF kf_X9_275 hK hP 2 rfl rfl dX9_walkItem_172 ?_
                          refine lv_istore_n (lv' := [(3, .int (nI (num bb (nf bb mz (nx bb mz (nx bb mz (mSt bb mz (nx bb mz u8))))) (nx bb mz (nx bb mz (nx bb mz (mSt bb mz (nx bb mz u8)))))))), (2, .int (mV bb mz (nx bb mz u8))), (1, .int (nI (n8))), (0, .ref h0)]) hx hb dX9_walkItem_175 rfl hl (by decide) rfl (fun ls hl => ?_)
                          refine lv_aload_n hx hb dX9_walkItem_176 rfl (lv_at hl 3 rfl) ?_
                          refine xg hF kf_X9_266 hK hP 2 rfl rfl dX9_walkItem_177 ?_
                          refine lv_if_ne (tgt := 252) hx hb dX9_walkItem_180 (by decide) (fun c_247 => absurd (by decide) c_247) (fun c_247 => ?_)
                          refine lv_sipush (v := 377) hx hb dX9_walkItem_183 (by decide) ?_
                          refine lv_bipush (v := 9) hx hb dX9_walkItem_186 (by decide) ?_
                          refine lv_aload_n hx hb dX9_walkItem_188 rfl (lv_at hl 3 rfl) ?_
                          refine lv_aload_n hx hb dX9_walkItem_189 rfl (lv_at hl 3 rfl) ?_
                          refine xg hF kf_X9_40 hK hP 2 rfl rfl dX9_walkItem_190 ?_
                          refine lv_iconst (v := 0) hx hb dX9_walkItem_193 (by decide) ?_
                          refine va_iald hx hb hK hP 1 0 rfl rfl (xin 0 6 (by decide) (by decide)) dX9_walkItem_194 ?_
                          refine xl_i (y := a8 0) (congrArg a8 rfl) ?_
                          obtain ⟨z_248, ez_248, hz_2480⟩ := wk_A.get hA8 rfl (show 0 < n8 by omega)
                          refine xl_i (y := nI (z_248)) ez_248 ?_
                          refine lv_aload_n hx hb dX9_walkItem_195 rfl (lv_at hl 3 rfl) ?_
                          refine xg hF kf_X9_40 hK hP 2 rfl rfl dX9_walkItem_196 ?_
                          refine lv_iconst (v := 1) hx hb dX9_walkItem_199 (by decide) ?_
                          refine va_iald hx hb hK hP 1 0 rfl rfl (xin 1 6 (by decide) (by decide)) dX9_walkItem_200 ?_
                          refine xl_i (y := a8 1) (congrArg a8 rfl) ?_
                          obtain ⟨z_249, ez_249, hz_2490⟩ := wk_A.get hA8 rfl (show 1 < n8 by omega)
                          refine xl_i (y := nI (z_249)) ez_249 ?_
                          refine lv_iload_n hx hb dX9_walkItem_201 rfl (lv_at hl 1 rfl) ?_
                          refine lv_iload_n hx hb dX9_walkItem_202 rfl (lv_at hl 0 rfl) ?_
                          refine xc_Vi (wr := [(ywa, .inl (cI, 6, .inl a8)), (yta, .inl (cI, 120, .inl tp))]) hF (c_X9_newWalk l D cI cJ cZ cS ta sa sv H.size h0 ys yk yo yt mk0 yfa yfe mL mS mM yro yhe ygr mF mC mY yta mz (nf bb mz (nx bb mz (nx bb mz (nx bb mz (mSt bb mz (nx bb mz u8)))))) (nx bb mz (nx bb mz (nx bb mz (nx bb mz (mSt bb mz (nx bb mz u8)))))) (nI (num bb (nf bb mz (nx bb mz (nx bb mz (mSt bb mz (nx bb mz u8))))) (nx bb mz (nx bb mz (nx bb mz (mSt bb mz (nx bb mz u8))))))) 0 ywa ybi ysi ynu ymo ms P Rn Wn fae fal fau fao farn farp fak fawn fawp fat fas z_248 z_249 (mV bb mz (nx bb mz u8)) (nI (num bb (nf bb mz (nx bb mz (nx bb mz (mSt bb mz (nx bb mz u8))))) (nx bb mz (nx bb mz (nx bb mz (mSt bb mz (nx bb mz u8))))))) (by omega) (by omega) (by omega) hs0 hs1 hs2 hsS hsM hsp hsr hsw hsR hsG) kv_X9_196 ⟨rfl, rfl, Nat.le_of_ble_eq_true rfl, Nat.le_of_ble_eq_true rfl⟩ ⟨Nat.le_of_ble_eq_true rfl, Nat.le_of_ble_eq_true rfl⟩ hK hN hZ hP hD hS hA [2, 0] [1, 3] rfl rfl rfl rfl (by decide) 0 rfl rfl rfl rfl hl.1 rfl (Nat.le_of_ble_eq_true rfl) dX9_walkItem_203 (fun r_250 u_r_250 H locs hw_r_250 hP hD hS => ?_)
                          obtain ⟨ms2_251, rfl⟩ : ∃ z, z = u_r_250 := ⟨_, rfl⟩
                          try dsimp only at hw_r_250
                          obtain ⟨hw_r_250, i_252, i_253, i_254, i_255, i_256, i_257, i_258, i_259, i_260, i_261⟩ := hw_r_250
                          have hP : va_P D vwCl [(ywa, .inl (cI, 6, .inl a8)), (yta, .inl (cI, 120, .inl tp)), (h0, .inr (9, [.ref ys, .ref yk, .ref yo, .ref yt, .int mk0, .ref yfa, .ref yfe, .int mL, .int mS, .int mM, .ref yro, .ref yhe, .ref ygr, .int mF, .int mC, .int mY, .ref yta, .int (nI (mz)), .int (nI ((nf bb mz (nx bb mz (nx bb mz (nx bb mz (mSt bb mz (nx bb mz u8)))))))), .int (nI ((nx bb mz (nx bb mz (nx bb mz (nx bb mz (mSt bb mz (nx bb mz u8)))))))), .int (nI (num bb (nf bb mz (nx bb mz (nx bb mz (mSt bb mz (nx bb mz u8))))) (nx bb mz (nx bb mz (nx bb mz (mSt bb mz (nx bb mz u8))))))), .int 0, .ref ywa, .ref ybi, .ref ysi, .ref ynu, .ref ymo])), (ys, .inl (cI, 449, .inl ms2_251))] H := hP
                          have hD : va_D A [(ywa, .inl (cI, 6, .inl a8)), (yta, .inl (cI, 120, .inl tp)), (h0, .inr (9, [.ref ys, .ref yk, .ref yo, .ref yt, .int mk0, .ref yfa, .ref yfe, .int mL, .int mS, .int mM, .ref yro, .ref yhe, .ref ygr, .int mF, .int mC, .int mY, .ref yta, .int (nI (mz)), .int (nI ((nf bb mz (nx bb mz (nx bb mz (nx bb mz (mSt bb mz (nx bb mz u8)))))))), .int (nI ((nx bb mz (nx bb mz (nx bb mz (nx bb mz (mSt bb mz (nx bb mz u8)))))))), .int (nI (num bb (nf bb mz (nx bb mz (nx bb mz (mSt bb mz (nx bb mz u8))))) (nx bb mz (nx bb mz (nx bb mz (mSt bb mz (nx bb mz u8))))))), .int 0, .ref ywa, .ref ybi, .ref ysi, .ref ynu, .ref ymo])), (ys, .inl (cI, 449, .inl ms2_251))] := hD
                          subst hw_r_250
                          refine lv_imul hx hb dX9_walkItem_206 ?_
                          refine xl_i (y := nI (9 * Wn)) (pk_mul 9 Wn) ?_
                          refine lv_iadd hx hb dX9_walkItem_207 ?_
                          refine xl_i (y := nI (377 + (9 * Wn))) (nI_add 377 (9 * Wn)) ?_
                          refine lv_istore (lv' := [(4, .int (nI (377 + (9 * Wn)))), (3, .int (nI (num bb (nf bb mz (nx bb mz (nx bb mz (mSt bb mz (nx bb mz u8))))) (nx bb mz (nx bb mz (nx bb mz (mSt bb mz (nx bb mz u8)))))))), (2, .int (mV bb mz (nx bb mz u8))), (1, .int (nI (n8))), (0, .ref h0)]) hx hb dX9_walkItem_208 hl (by decide) rfl (fun ls hl => ?_)
                          refine lv_aload_n hx hb dX9_walkItem_210 rfl (lv_at hl 4 rfl) ?_
                          refine xg hF kf_X9_7 hK hP 2 rfl rfl dX9_walkItem_211 ?_
                          refine lv_iload hx hb dX9_walkItem_214 (lv_at hl 0 rfl) ?_
                          refine lv_iload_n hx hb dX9_walkItem_216 rfl (lv_at hl 3 rfl) ?_
                          refine va_iast hx hb hK hP hD hS 3 0 rfl rfl (vp_in_nI (show 377 + (9 * Wn) < 449 by omega) (by decide)) dX9_walkItem_217 (fun H locs hP hD hS => ?_)
                          rw [nI_clamp (show 377 + (9 * Wn) < 2 ^ 31 by omega)] at hP hD
                          obtain ⟨f_262, ef_262⟩ : ∃ g, g = upd ms2_251 (377 + (9 * Wn)) (nI (n8)) := ⟨_, rfl⟩
                          rw [← ef_262] at hP hD
                          have k0_f_262 : f_262 0 = nI P := by rw [ef_262]; exact (pk_un (show 0 ≠ (377 + (9 * Wn)) by omega)).trans i_252
                          have k1_f_262 : f_262 1 = nI Rn := by rw [ef_262]; exact (pk_un (show 1 ≠ (377 + (9 * Wn)) by omega)).trans i_253
                          have k2_f_262 : f_262 2 = nI (Wn + 1) := by rw [ef_262]; exact (pk_un (show 2 ≠ (377 + (9 * Wn)) by omega)).trans i_254
                          have kS_f_262 : SI f_262 := by rw [ef_262]; exact SI.upd i_255 (okS.wl (w := Wn) (q := n8) (by omega) (by omega) (by omega))
                          have kM_f_262 : MI f_262 := by rw [ef_262]; exact MI.upd i_256 (okM.out (show (377 + (9 * Wn)) < 13 ∨ 113 ≤ (377 + (9 * Wn)) by omega))
                          have kR_f_262 : RI Rn f_262 := by rw [ef_262]; exact RI.upd i_260 (fun r9 hr9 e9 => by omega)
                          have kG_f_262 : FR P f_262 fae fal fau fao farn farp fak (upd (upd fawn Wn 2) (Wn) (nI (n8))) (upd (upd fawp (Wn * 6 + 0) (nI z_248)) (Wn * 6 + 1) (nI z_249)) (upd fat Wn (mV bb mz (nx bb mz u8))) (upd fas Wn (nI (num bb (nf bb mz (nx bb mz (nx bb mz (mSt bb mz (nx bb mz u8))))) (nx bb mz (nx bb mz (nx bb mz (mSt bb mz (nx bb mz u8)))))))) := by rw [ef_262]; exact FR.pwn i_261 (show Wn < 8 by omega) (by omega)
                          have hP : va_P D vwCl [(ywa, .inl (cI, 6, .inl a8)), (yta, .inl (cI, 120, .inl tp)), (h0, .inr (9, [.ref ys, .ref yk, .ref yo, .ref yt, .int mk0, .ref yfa, .ref yfe, .int mL, .int mS, .int mM, .ref yro, .ref yhe, .ref ygr, .int mF, .int mC, .int mY, .ref yta, .int (nI (mz)), .int (nI ((nf bb mz (nx bb mz (nx bb mz (nx bb mz (mSt bb mz (nx bb mz u8)))))))), .int (nI ((nx bb mz (nx bb mz (nx bb mz (nx bb mz (mSt bb mz (nx bb mz u8)))))))), .int (nI (num bb (nf bb mz (nx bb mz (nx bb mz (mSt bb mz (nx bb mz u8))))) (nx bb mz (nx bb mz (nx bb mz (mSt bb mz (nx bb mz u8))))))), .int 0, .ref ywa, .ref ybi, .ref ysi, .ref ynu, .ref ymo])), (ys, .inl (cI, 449, .inl f_262))] H := hP
                          have hD : va_D A [(ywa, .inl (cI, 6, .inl a8)), (yta, .inl (cI, 120, .inl tp)), (h0, .inr (9, [.ref ys, .ref yk, .ref yo, .ref yt, .int mk0, .ref yfa, .ref yfe, .int mL, .int mS, .int mM, .ref yro, .ref yhe, .ref ygr, .int mF, .int mC, .int mY, .ref yta, .int (nI (mz)), .int (nI ((nf bb mz (nx bb mz (nx bb mz (nx bb mz (mSt bb mz (nx bb mz u8)))))))), .int (nI ((nx bb mz (nx bb mz (nx bb mz (nx bb mz (mSt bb mz (nx bb mz u8)))))))), .int (nI (num bb (nf bb mz (nx bb mz (nx bb mz (mSt bb mz (nx bb mz u8))))) (nx bb mz (nx bb mz (nx bb mz (mSt bb mz (nx bb mz u8))))))), .int 0, .ref ywa, .ref ybi, .ref ysi, .ref ynu, .ref ymo])), (ys, .inl (cI, 449, .inl f_262))] := hD
                          refine lv_iconst (v := 2) hx hb dX9_walkItem_218 (by decide) ?_
                          refine lv_istore (lv' := [(5, .int 2), (4, .int (nI (377 + (9 * Wn)))), (3, .int (nI (num bb (nf bb mz (nx bb mz (nx bb mz (mSt bb mz (nx bb mz u8))))) (nx bb mz (nx bb mz (nx bb mz (mSt bb mz (nx bb mz u8)))))))), (2, .int (mV bb mz (nx bb mz u8))), (1, .int (nI (n8))), (0, .ref h0)]) hx hb dX9_walkItem_219 hl (by decide) rfl (fun ls hl => ?_)
                          suffices loop_221 : ∀ (n_221 : Nat) (i : Nat) (s8 : Nat → Int32) (w8 : Nat → Int32) (H : Heap) (locs : List Loc) (ls : Array Slot), n8 - i < n_221 → (2 ≤ i) → (i ≤ n8) → (w8 = wkR bb mz u9 Wn i fawp) → (s8 0 = nI P) → (s8 1 = nI Rn) → (s8 2 = nI (Wn + 1)) → (SI s8) → (MI s8) → (P ≤ 10) → (Rn ≤ 8) → (Wn + 1 ≤ 8) → (RI Rn s8) → (FR P s8 fae fal fau fao farn farp fak (upd (upd fawn Wn 2) (Wn) (nI (n8))) w8 (upd fat Wn (mV bb mz (nx bb mz u8))) (upd fas Wn (nI (num bb (nf bb mz (nx bb mz (nx bb mz (mSt bb mz (nx bb mz u8))))) (nx bb mz (nx bb mz (nx bb mz (mSt bb mz (nx bb mz u8))))))))) → va_P D vwCl [(ywa, .inl (cI, 6, .inl a8)), (yta, .inl (cI, 120, .inl tp)), (h0, .inr (9, [.ref ys, .ref yk, .ref yo, .ref yt, .int mk0, .ref yfa, .ref yfe, .int mL, .int mS, .int mM, .ref yro, .ref yhe, .ref ygr, .int mF, .int mC, .int mY, .ref yta, .int (nI (mz)), .int (nI ((nf bb mz (nx bb mz (nx bb mz (nx bb mz (mSt bb mz (nx bb mz u8)))))))), .int (nI ((nx bb mz (nx bb mz (nx bb mz (nx bb mz (mSt bb mz (nx bb mz u8)))))))), .int (nI (num bb (nf bb mz (nx bb mz (nx bb mz (mSt bb mz (nx bb mz u8))))) (nx bb mz (nx bb mz (nx bb mz (mSt bb mz (nx bb mz u8))))))), .int 0, .ref ywa, .ref ybi, .ref ysi, .ref ynu, .ref ymo])), (ys, .inl (cI, 449, .inl s8))] H → va_D A [(ywa, .inl (cI, 6, .inl a8)), (yta, .inl (cI, 120, .inl tp)), (h0, .inr (9, [.ref ys, .ref yk, .ref yo, .ref yt, .int mk0, .ref yfa, .ref yfe, .int mL, .int mS, .int mM, .ref yro, .ref yhe, .ref ygr, .int mF, .int mC, .int mY, .ref yta, .int (nI (mz)), .int (nI ((nf bb mz (nx bb mz (nx bb mz (nx bb mz (mSt bb mz (nx bb mz u8)))))))), .int (nI ((nx bb mz (nx bb mz (nx bb mz (nx bb mz (mSt bb mz (nx bb mz u8)))))))), .int (nI (num bb (nf bb mz (nx bb mz (nx bb mz (mSt bb mz (nx bb mz u8))))) (nx bb mz (nx bb mz (nx bb mz (mSt bb mz (nx bb mz u8))))))), .int 0, .ref ywa, .ref ybi, .ref ysi, .ref ynu, .ref ymo])), (ys, .inl (cI, 449, .inl s8))] → va_S A s.heap H locs → lv_has ls 6 [(5, .int (nI (i))), (4, .int (nI (377 + (9 * Wn)))), (3, .int (nI (num bb (nf bb mz (nx bb mz (nx bb mz (mSt bb mz (nx bb mz u8))))) (nx bb mz (nx bb mz (nx bb mz (mSt bb mz (nx bb mz u8)))))))), (2, .int (mV bb mz (nx bb mz u8))), (1, .int (nI (n8))), (0, .ref h0)] → W p l e ({ frames := 6, cells := 0, slots := 0, locals := 136 }) s m ([.ref h0] : List Value).toArray below meth c H locs 0 0 (MQ below (XQv (fun (u : Nat × Int32 × Int32 × (Nat → Int32) × Nat × (Nat → Int32) × (Nat → Int32) × (Nat → Int32) × (Nat → Int32) × (Nat → Int32)) => match u with | (u2, w2, v2, ms2, W2, wa2, gwn, gwp, gt, gs) => (((spWalk bb mz u9 P Wn = Sum.inr u2) ∧ (w2 = 0) ∧ (W2 = Wn + 1) ∧ (nx bb mz u9 ≤ u2) ∧ (gwn = upd fawn Wn (nI (wkC bb mz u9))) ∧ (gwp = wkR bb mz u9 Wn (wkC bb mz u9) fawp) ∧ (gt = upd fat Wn (wkTo bb mz u9)) ∧ (gs = upd fas Wn (wkSl bb mz u9))) ∨ ((spWalk bb mz u9 P Wn = Sum.inl u2) ∧ (w2 = 1))) ∧ (u2 ≤ mz) ∧ (ms2 0 = nI P) ∧ (ms2 1 = nI Rn) ∧ (ms2 2 = nI W2) ∧ (SI ms2) ∧ (MI ms2) ∧ (P ≤ 10) ∧ (Rn ≤ 8) ∧ (W2 ≤ 8) ∧ (RI Rn ms2) ∧ (FR P ms2 fae fal fau fao farn farp fak gwn gwp gt gs)) D (fun (u : Nat × Int32 × Int32 × (Nat → Int32) × Nat × (Nat → Int32) × (Nat → Int32) × (Nat → Int32) × (Nat → Int32) × (Nat → Int32)) => match u with | (u2, w2, v2, ms2, W2, wa2, gwn, gwp, gt, gs) => [(h0, .inr (9, [.ref ys, .ref yk, .ref yo, .ref yt, .int mk0, .ref yfa, .ref yfe, .int mL, .int mS, .int mM, .ref yro, .ref yhe, .ref ygr, .int mF, .int mC, .int mY, .ref yta, .int (nI (mz)), .int (nI (nf bb mz u2)), .int (nI (nx bb mz u2)), .int v2, .int w2, .ref ywa, .ref ybi, .ref ysi, .ref ynu, .ref ymo])), (ys, .inl (cI, 449, .inl ms2)), (yta, .inl (cI, 120, .inl tp)), (ywa, .inl (cI, 6, .inl wa2))]) A) ([.ref h0] : List Value).toArray s 0 0 A) (F0 m 221 ls []) by
                            exact loop_221 _ 2 f_262 (upd (upd fawp (Wn * 6 + 0) (nI z_248)) (Wn * 6 + 1) (nI z_249)) _ _ _ (Nat.lt_succ_self _) (by omega) (by omega) (wkR_2 (ez_248.symm.trans (hA9 0 (by omega))) (ez_249.symm.trans (hA9 1 (by omega)))) k0_f_262 k1_f_262 k2_f_262 kS_f_262 kM_f_262 i_257 i_258 i_259 kR_f_262 kG_f_262 hP hD hS (lv_sub hl [0, 1, 2, 3, 4, 5] rfl)
                          intro n_221
                          induction n_221 with
                          | zero =>
                            intro i s8 w8 H locs ls hm_221
                            exact absurd hm_221 (Nat.not_lt_zero _)
                          | succ n_221 ih_221 =>
                            intro i s8 w8 H locs ls hm_221 hi2 hi hw8 ht0 ht1 ht2 htS htM htp htr htw htR htG hP hD hS hl
                            refine lv_iload hx hb dX9_walkItem_221 (lv_at hl 0 rfl) ?_
                            refine lv_iload_n hx hb dX9_walkItem_223 rfl (lv_at hl 4 rfl) ?_
                            refine lv_icmp_ge (tgt := 252) hx hb dX9_walkItem_224 (by decide) (fun c_263 => ?_) (fun c_263 => ?_)
                            · skip
                              have nc_263 : n8 ≤ i := xn_le (a := n8) (b := i) (by omega) (by omega) c_263
                              exact W.vret hx hb hr (fun t ht hW => ⟨⟨(nx bb mz (nx bb mz (nx bb mz (mSt bb mz (nx bb mz u8)))), 0, (nI (num bb (nf bb mz (nx bb mz (nx bb mz (mSt bb mz (nx bb mz u8))))) (nx bb mz (nx bb mz (nx bb mz (mSt bb mz (nx bb mz u8))))))), s8, Wn + 1, a8, upd (upd fawn Wn 2) (Wn) (nI (n8)), w8, upd fat Wn (mV bb mz (nx bb mz u8)), upd fas Wn (nI (num bb (nf bb mz (nx bb mz (nx bb mz (mSt bb mz (nx bb mz u8))))) (nx bb mz (nx bb mz (nx bb mz (mSt bb mz (nx bb mz u8)))))))), rfl, ⟨Or.inl ⟨hL8.trans ((spSt_end (by omega) (kd_nD h_171)).trans ((cif_pos (show 2 ≤ n8 by omega)).trans ((cif_pos (h_209)).trans ((cif_pos (h_220)).trans ((cif_pos (h_228)).trans (cif_pos (okR_99.mp h_240))))))), rfl, rfl, by omega, (upd_upd.trans (congrArg (fun n => upd fawn Wn (nI n)) (hN8.trans (wkn_end (by omega) (kd_nD h_171))).symm)), (hw8.trans (congrArg (fun n => wkR bb mz u9 Wn n fawp) ((show i = n8 by omega).trans (hN8.trans (wkn_end (by omega) (kd_nD h_171))).symm))), (congrArg (upd fat Wn) (wkTo_e (wkE_e (hN8.trans (wkn_end (by omega) (kd_nD h_171))) hu8x))), (congrArg (upd fas Wn) ((congrArg nI (tC_99 h_240).symm).trans (wkSl_y (wkE_e (hN8.trans (wkn_end (by omega) (kd_nD h_171))) hu8x) h_228)))⟩, (by first | assumption | omega), ht0, ht1, ht2, htS, htM, htp, htr, htw, htR, htG⟩, by rw [ht]; exact hP.sub [2, 3, 1, 0] rfl, hD.sub [2, 3, 1, 0] (by decide) rfl⟩, hS.F ht⟩) hS.2.2 dX9_walkItem_252 hlk
                            · skip
                              have nc_263 : i < n8 := xn_nle (a := n8) (b := i) (by omega) (by omega) c_263
                              refine lv_aload_n hx hb dX9_walkItem_227 rfl (lv_at hl 5 rfl) ?_
                              refine xg hF kf_X9_7 hK hP 2 rfl rfl dX9_walkItem_228 ?_
                              refine lv_iload hx hb dX9_walkItem_231 (lv_at hl 1 rfl) ?_
                              refine lv_iconst (v := 3) hx hb dX9_walkItem_233 (by decide) ?_
                              refine lv_iadd hx hb dX9_walkItem_234 ?_
                              refine xl_i (y := nI (377 + (9 * Wn) + 3)) (nI_add (377 + (9 * Wn)) 3) ?_
                              refine lv_iload hx hb dX9_walkItem_235 (lv_at hl 0 rfl) ?_
                              refine lv_iadd hx hb dX9_walkItem_237 ?_
                              refine xl_i (y := nI (377 + (9 * Wn) + 3 + i)) (nI_add (377 + (9 * Wn) + 3) i) ?_
                              refine lv_aload_n hx hb dX9_walkItem_238 rfl (lv_at hl 5 rfl) ?_
                              refine xg hF kf_X9_40 hK hP 2 rfl rfl dX9_walkItem_239 ?_
                              refine lv_iload hx hb dX9_walkItem_242 (lv_at hl 0 rfl) ?_
                              refine va_iald hx hb hK hP 0 0 rfl rfl (vp_in_nI (show i < 6 by omega) (by decide)) dX9_walkItem_244 ?_
                              refine xl_i (y := a8 i) (congrArg a8 (nI_clamp (show i < 2 ^ 31 by omega))) ?_
                              obtain ⟨z_264, ez_264, hz_2640⟩ := wk_A.get hA8 rfl (show i < n8 by omega)
                              refine xl_i (y := nI (z_264)) ez_264 ?_
                              refine va_iast hx hb hK hP hD hS 3 0 rfl rfl (vp_in_nI (show 377 + (9 * Wn) + 3 + i < 449 by omega) (by decide)) dX9_walkItem_245 (fun H locs hP hD hS => ?_)
                              rw [nI_clamp (show 377 + (9 * Wn) + 3 + i < 2 ^ 31 by omega)] at hP hD
                              obtain ⟨f_265, ef_265⟩ : ∃ g, g = upd s8 (377 + (9 * Wn) + 3 + i) (nI (z_264)) := ⟨_, rfl⟩
                              rw [← ef_265] at hP hD
                              have k0_f_265 : f_265 0 = nI P := by rw [ef_265]; exact (pk_un (show 0 ≠ (377 + (9 * Wn) + 3 + i) by omega)).trans ht0
                              have k1_f_265 : f_265 1 = nI Rn := by rw [ef_265]; exact (pk_un (show 1 ≠ (377 + (9 * Wn) + 3 + i) by omega)).trans ht1
                              have k2_f_265 : f_265 2 = nI (Wn + 1) := by rw [ef_265]; exact (pk_un (show 2 ≠ (377 + (9 * Wn) + 3 + i) by omega)).trans ht2
                              have kS_f_265 : SI f_265 := by rw [ef_265]; exact SI.upd htS (okS.ws (w := Wn) (i := i) (by omega) (by omega) (by omega) (show z_264 < 10 by omega))
                              have kM_f_265 : MI f_265 := by rw [ef_265]; exact MI.upd htM (okM.out (show (377 + (9 * Wn) + 3 + i) < 13 ∨ 113 ≤ (377 + (9 * Wn) + 3 + i) by omega))
                              have kR_f_265 : RI Rn f_265 := by rw [ef_265]; exact RI.upd htR (fun r9 hr9 e9 => by omega)
                              have kG_f_265 : FR P f_265 fae fal fau fao farn farp fak (upd (upd fawn Wn 2) (Wn) (nI (n8))) (upd w8 (Wn * 6 + i) (nI (z_264))) (upd fat Wn (mV bb mz (nx bb mz u8))) (upd fas Wn (nI (num bb (nf bb mz (nx bb mz (nx bb mz (mSt bb mz (nx bb mz u8))))) (nx bb mz (nx bb mz (nx bb mz (mSt bb mz (nx bb mz u8)))))))) := by rw [ef_265]; exact FR.pwp htG (show Wn < 8 by omega) (show i < 6 by omega) (by omega)
                              have hP : va_P D vwCl [(ywa, .inl (cI, 6, .inl a8)), (yta, .inl (cI, 120, .inl tp)), (h0, .inr (9, [.ref ys, .ref yk, .ref yo, .ref yt, .int mk0, .ref yfa, .ref yfe, .int mL, .int mS, .int mM, .ref yro, .ref yhe, .ref ygr, .int mF, .int mC, .int mY, .ref yta, .int (nI (mz)), .int (nI ((nf bb mz (nx bb mz (nx bb mz (nx bb mz (mSt bb mz (nx bb mz u8)))))))), .int (nI ((nx bb mz (nx bb mz (nx bb mz (nx bb mz (mSt bb mz (nx bb mz u8)))))))), .int (nI (num bb (nf bb mz (nx bb mz (nx bb mz (mSt bb mz (nx bb mz u8))))) (nx bb mz (nx bb mz (nx bb mz (mSt bb mz (nx bb mz u8))))))), .int 0, .ref ywa, .ref ybi, .ref ysi, .ref ynu, .ref ymo])), (ys, .inl (cI, 449, .inl f_265))] H := hP
                              have hD : va_D A [(ywa, .inl (cI, 6, .inl a8)), (yta, .inl (cI, 120, .inl tp)), (h0, .inr (9, [.ref ys, .ref yk, .ref yo, .ref yt, .int mk0, .ref yfa, .ref yfe, .int mL, .int mS, .int mM, .ref yro, .ref yhe, .ref ygr, .int mF, .int mC, .int mY, .ref yta, .int (nI (mz)), .int (nI ((nf bb mz (nx bb mz (nx bb mz (nx bb mz (mSt bb mz (nx bb mz u8)))))))), .int (nI ((nx bb mz (nx bb mz (nx bb mz (nx bb mz (mSt bb mz (nx bb mz u8)))))))), .int (nI (num bb (nf bb mz (nx bb mz (nx bb mz (mSt bb mz (nx bb mz u8))))) (nx bb mz (nx bb mz (nx bb mz (mSt bb mz (nx bb mz u8))))))), .int 0, .ref ywa, .ref ybi, .ref ysi, .ref ynu, .ref ymo])), (ys, .inl (cI, 449, .inl f_265))] := hD
                              refine lv_iinc (v := nI (i + 1)) (lv' := [(5, .int (nI (i + 1))), (4, .int (nI (377 + (9 * Wn)))), (3, .int (nI (num bb (nf bb mz (nx bb mz (nx bb mz (mSt bb mz (nx bb mz u8))))) (nx bb mz (nx bb mz (nx bb mz (mSt bb mz (nx bb mz u8)))))))), (2, .int (mV bb mz (nx bb mz u8))), (1, .int (nI (n8))), (0, .ref h0)]) hx hb dX9_walkItem_246 hl (k := 0) rfl (nI_1 (i)) (by decide) rfl (fun ls hl => ?_)
                              refine lv_goto (tgt := 221) hx hb dX9_walkItem_249 (by decide) ?_
                              exact ih_221 (i + 1) f_265 (upd w8 (Wn * 6 + i) (nI (z_264))) _ _ _ (by omega) (by omega) (by omega) (by rw [hw8]; exact wkR_put rfl (ez_264.symm.trans (hA9 i (by omega)))) k0_f_265 k1_f_265 k2_f_265 kS_f_265 kM_f_265 htp htr htw kR_f_265 kG_f_265 (hP.sub [0, 1, 2, 3] rfl) (hD.sub [0, 1, 2, 3] (by decide) rfl) hS (lv_sub hl [0, 1, 2, 3, 4, 5] rfl)
                        · skip
                          subst h_245
                          subst h_246
                          refine lv_aload_n hx hb dX9_walkItem_171 rfl (lv_at hl 3 rfl) ?_
                          refine xg hF kf_X9_275 hK hP 2 rfl rfl dX9_walkItem_172 ?_
                          refine lv_istore_n (lv' := [(3, .int v2_237), (2, .int (mV bb mz (nx bb mz u8))), (1, .int (nI (n8))), (0, .ref h0)]) hx hb dX9_walkItem_175 rfl hl (by decide) rfl (fun ls hl => ?_)
                          refine lv_aload_n hx hb dX9_walkItem_176 rfl (lv_at hl 3 rfl) ?_
                          refine xg hF kf_X9_266 hK hP 2 rfl rfl dX9_walkItem_177 ?_
                          refine lv_if_ne (tgt := 252) hx hb dX9_walkItem_180 (by decide) (fun c_266 => ?_) (fun c_266 => absurd c_266 (by decide))
                          exact W.vret hx hb hr (fun t ht hW => ⟨⟨(nx bb mz (nx bb mz (mSt bb mz (nx bb mz u8))), 1, v2_237, ms, Wn, a8, fawn, fawp, fat, fas), rfl, ⟨Or.inr ⟨hL8.trans ((spSt_end (by omega) (kd_nD h_171)).trans ((cif_pos (show 2 ≤ n8 by omega)).trans ((cif_pos (h_209)).trans ((cif_pos (h_220)).trans ((cif_pos (h_228)).trans (cif_neg (fun h => h_244 (okR_99.mpr h)))))))), rfl⟩, (by first | assumption | omega), hs0, hs1, hs2, hsS, hsM, hsp, hsr, hsw, hsR, hsG⟩, by rw [ht]; exact hP.sub [2, 0, 3, 1] rfl, hD.sub [2, 0, 3, 1] (by decide) rfl⟩, hS.F ht⟩) hS.2.2 dX9_walkItem_252 hlk
                      · skip
                        refine lv_if_eq (tgt := 176) hx hb dX9_walkItem_156 (by decide) (fun c_267 => ?_) (fun c_267 => absurd (by decide) c_267)
                        refine lv_aload_n hx hb dX9_walkItem_176 rfl (lv_at hl 3 rfl) ?_
                        refine xg hF kf_X9_266 hK hP 2 rfl rfl dX9_walkItem_177 ?_
                        refine lv_if_ne (tgt := 252) hx hb dX9_walkItem_180 (by decide) (fun c_268 => absurd (by decide) c_268) (fun c_268 => ?_)
                        refine lv_sipush (v := 377) hx hb dX9_walkItem_183 (by decide) ?_
                        refine lv_bipush (v := 9) hx hb dX9_walkItem_186 (by decide) ?_
                        refine lv_aload_n hx hb dX9_walkItem_188 rfl (lv_at hl 3 rfl) ?_
                        refine lv_aload_n hx hb dX9_walkItem_189 rfl (lv_at hl 3 rfl) ?_
                        refine xg hF kf_X9_40 hK hP 2 rfl rfl dX9_walkItem_190 ?_
                        refine lv_iconst (v := 0) hx hb dX9_walkItem_193 (by decide) ?_
                        refine va_iald hx hb hK hP 1 0 rfl rfl (xin 0 6 (by decide) (by decide)) dX9_walkItem_194 ?_
                        refine xl_i (y := a8 0) (congrArg a8 rfl) ?_
                        obtain ⟨z_269, ez_269, hz_2690⟩ := wk_A.get hA8 rfl (show 0 < n8 by omega)
                        refine xl_i (y := nI (z_269)) ez_269 ?_
                        refine lv_aload_n hx hb dX9_walkItem_195 rfl (lv_at hl 3 rfl) ?_
                        refine xg hF kf_X9_40 hK hP 2 rfl rfl dX9_walkItem_196 ?_
                        refine lv_iconst (v := 1) hx hb dX9_walkItem_199 (by decide) ?_
                        refine va_iald hx hb hK hP 1 0 rfl rfl (xin 1 6 (by decide) (by decide)) dX9_walkItem_200 ?_
                        refine xl_i (y := a8 1) (congrArg a8 rfl) ?_
                        obtain ⟨z_270, ez_270, hz_2700⟩ := wk_A.get hA8 rfl (show 1 < n8 by omega)
                        refine xl_i (y := nI (z_270)) ez_270 ?_
                        refine lv_iload_n hx hb dX9_walkItem_201 rfl (lv_at hl 1 rfl) ?_
                        refine lv_iload_n hx hb dX9_walkItem_202 rfl (lv_at hl 0 rfl) ?_
                        refine xc_Vi (wr := [(ywa, .inl (cI, 6, .inl a8)), (yta, .inl (cI, 120, .inl tp))]) hF (c_X9_newWalk l D cI cJ cZ cS ta sa sv H.size h0 ys yk yo yt mk0 yfa yfe mL mS mM yro yhe ygr mF mC mY yta mz (nf bb mz (nx bb mz (mSt bb mz (nx bb mz u8)))) (nx bb mz (nx bb mz (mSt bb mz (nx bb mz u8)))) (mV bb mz (nx bb mz u8)) 0 ywa ybi ysi ynu ymo ms P Rn Wn fae fal fau fao farn farp fak fawn fawp fat fas z_269 z_270 (mV bb mz (nx bb mz u8)) 0 (by omega) (by omega) (by omega) hs0 hs1 hs2 hsS hsM hsp hsr hsw hsR hsG) kv_X9_196 ⟨rfl, rfl, Nat.le_of_ble_eq_true rfl, Nat.le_of_ble_eq_true rfl⟩ ⟨Nat.le_of_ble_eq_true rfl, Nat.le_of_ble_eq_true rfl⟩ hK hN hZ hP hD hS hA [2, 0] [1, 3] rfl rfl rfl rfl (by decide) 0 rfl rfl rfl rfl hl.1 rfl (Nat.le_of_ble_eq_true rfl) dX9_walkItem_203 (fun r_271 u_r_271 H locs hw_r_271 hP hD hS => ?_)
                        obtain ⟨ms2_272, rfl⟩ : ∃ z, z = u_r_271 := ⟨_, rfl⟩
                        try dsimp only at hw_r_271
                        obtain ⟨hw_r_271, i_273, i_274, i_275, i_276, i_277, i_278, i_279, i_280, i_281, i_282⟩ := hw_r_271
                        have hP : va_P D vwCl [(ywa, .inl (cI, 6, .inl a8)), (yta, .inl (cI, 120, .inl tp)), (h0, .inr (9, [.ref ys, .ref yk, .ref yo, .ref yt, .int mk0, .ref yfa, .ref yfe, .int mL, .int mS, .int mM, .ref yro, .ref yhe, .ref ygr, .int mF, .int mC, .int mY, .ref yta, .int (nI (mz)), .int (nI ((nf bb mz (nx bb mz (mSt bb mz (nx bb mz u8)))))), .int (nI ((nx bb mz (nx bb mz (mSt bb mz (nx bb mz u8)))))), .int (mV bb mz (nx bb mz u8)), .int 0, .ref ywa, .ref ybi, .ref ysi, .ref ynu, .ref ymo])), (ys, .inl (cI, 449, .inl ms2_272))] H := hP
                        have hD : va_D A [(ywa, .inl (cI, 6, .inl a8)), (yta, .inl (cI, 120, .inl tp)), (h0, .inr (9, [.ref ys, .ref yk, .ref yo, .ref yt, .int mk0, .ref yfa, .ref yfe, .int mL, .int mS, .int mM, .ref yro, .ref yhe, .ref ygr, .int mF, .int mC, .int mY, .ref yta, .int (nI (mz)), .int (nI ((nf bb mz (nx bb mz (mSt bb mz (nx bb mz u8)))))), .int (nI ((nx bb mz (nx bb mz (mSt bb mz (nx bb mz u8)))))), .int (mV bb mz (nx bb mz u8)), .int 0, .ref ywa, .ref ybi, .ref ysi, .ref ynu, .ref ymo])), (ys, .inl (cI, 449, .inl ms2_272))] := hD
                        subst hw_r_271
                        refine lv_imul hx hb dX9_walkItem_206 ?_
                        refine xl_i (y := nI (9 * Wn)) (pk_mul 9 Wn) ?_
                        refine lv_iadd hx hb dX9_walkItem_207 ?_
                        refine xl_i (y := nI (377 + (9 * Wn))) (nI_add 377 (9 * Wn)) ?_
                        refine lv_istore (lv' := [(4, .int (nI (377 + (9 * Wn)))), (3, .int 0), (2, .int (mV bb mz (nx bb mz u8))), (1, .int (nI (n8))), (0, .ref h0)]) hx hb dX9_walkItem_208 hl (by decide) rfl (fun ls hl => ?_)
                        refine lv_aload_n hx hb dX9_walkItem_210 rfl (lv_at hl 4 rfl) ?_
                        refine xg hF kf_X9_7 hK hP 2 rfl rfl dX9_walkItem_211 ?_
                        refine lv_iload hx hb dX9_walkItem_214 (lv_at hl 0 rfl) ?_
                        refine lv_iload_n hx hb dX9_walkItem_216 rfl (lv_at hl 3 rfl) ?_
                        refine va_iast hx hb hK hP hD hS 3 0 rfl rfl (vp_in_nI (show 377 + (9 * Wn) < 449 by omega) (by decide)) dX9_walkItem_217 (fun H locs hP hD hS => ?_)
                        rw [nI_clamp (show 377 + (9 * Wn) < 2 ^ 31 by omega)] at hP hD
                        obtain ⟨f_283, ef_283⟩ : ∃ g, g = upd ms2_272 (377 + (9 * Wn)) (nI (n8)) := ⟨_, rfl⟩
                        rw [← ef_283] at hP hD
                        have k0_f_283 : f_283 0 = nI P := by rw [ef_283]; exact (pk_un (show 0 ≠ (377 + (9 * Wn)) by omega)).trans i_273
                        have k1_f_283 : f_283 1 = nI Rn := by rw [ef_283]; exact (pk_un (show 1 ≠ (377 + (9 * Wn)) by omega)).trans i_274
                        have k2_f_283 : f_283 2 = nI (Wn + 1) := by rw [ef_283]; exact (pk_un (show 2 ≠ (377 + (9 * Wn)) by omega)).trans i_275
                        have kS_f_283 : SI f_283 := by rw [ef_283]; exact SI.upd i_276 (okS.wl (w := Wn) (q := n8) (by omega) (by omega) (by omega))
                        have kM_f_283 : MI f_283 := by rw [ef_283]; exact MI.upd i_277 (okM.out (show (377 + (9 * Wn)) < 13 ∨ 113 ≤ (377 + (9 * Wn)) by omega))
                        have kR_f_283 : RI Rn f_283 := by rw [ef_283]; exact RI.upd i_281 (fun r9 hr9 e9 => by omega)
                        have kG_f_283 : FR P f_283 fae fal fau fao farn farp fak (upd (upd fawn Wn 2) (Wn) (nI (n8))) (upd (upd fawp (Wn * 6 + 0) (nI z_269)) (Wn * 6 + 1) (nI z_270)) (upd fat Wn (mV bb mz (nx bb mz u8))) (upd fas Wn 0) := by rw [ef_283]; exact FR.pwn i_282 (show Wn < 8 by omega) (by omega)
                        have hP : va_P D vwCl [(ywa, .inl (cI, 6, .inl a8)), (yta, .inl (cI, 120, .inl tp)), (h0, .inr (9, [.ref ys, .ref yk, .ref yo, .ref yt, .int mk0, .ref yfa, .ref yfe, .int mL, .int mS, .int mM, .ref yro, .ref yhe, .ref ygr, .int mF, .int mC, .int mY, .ref yta, .int (nI (mz)), .int (nI ((nf bb mz (nx bb mz (mSt bb mz (nx bb mz u8)))))), .int (nI ((nx bb mz (nx bb mz (mSt bb mz (nx bb mz u8)))))), .int (mV bb mz (nx bb mz u8)), .int 0, .ref ywa, .ref ybi, .ref ysi, .ref ynu, .ref ymo])), (ys, .inl (cI, 449, .inl f_283))] H := hP
                        have hD : va_D A [(ywa, .inl (cI, 6, .inl a8)), (yta, .inl (cI, 120, .inl tp)), (h0, .inr (9, [.ref ys, .ref yk, .ref yo, .ref yt, .int mk0, .ref yfa, .ref yfe, .int mL, .int mS, .int mM, .ref yro, .ref yhe, .ref ygr, .int mF, .int mC, .int mY, .ref yta, .int (nI (mz)), .int (nI ((nf bb mz (nx bb mz (mSt bb mz (nx bb mz u8)))))), .int (nI ((nx bb mz (nx bb mz (mSt bb mz (nx bb mz u8)))))), .int (mV bb mz (nx bb mz u8)), .int 0, .ref ywa, .ref ybi, .ref ysi, .ref ynu, .ref ymo])), (ys, .inl (cI, 449, .inl f_283))] := hD
                        refine lv_iconst (v := 2) hx hb dX9_walkItem_218 (by decide) ?_
                        refine lv_istore (lv' := [(5, .int 2), (4, .int (nI (377 + (9 * Wn)))), (3, .int 0), (2, .int (mV bb mz (nx bb mz u8))), (1, .int (nI (n8))), (0, .ref h0)]) hx hb dX9_walkItem_219 hl (by decide) rfl (fun ls hl => ?_)
                        suffices loop_221 : ∀ (n_221 : Nat) (i : Nat) (s8 : Nat → Int32) (w8 : Nat → Int32) (H : Heap) (locs : List Loc) (ls : Array Slot), n8 - i < n_221 → (2 ≤ i) → (i ≤ n8) → (w8 = wkR bb mz u9 Wn i fawp) → (s8 0 = nI P) → (s8 1 = nI Rn) → (s8 2 = nI (Wn + 1)) → (SI s8) → (MI s8) → (P ≤ 10) → (Rn ≤ 8) → (Wn + 1 ≤ 8) → (RI Rn s8) → (FR P s8 fae fal fau fao farn farp fak (upd (upd fawn Wn 2) (Wn) (nI (n8))) w8 (upd fat Wn (mV bb mz (nx bb mz u8))) (upd fas Wn 0)) → va_P D vwCl [(ywa, .inl (cI, 6, .inl a8)), (yta, .inl (cI, 120, .inl tp)), (h0, .inr (9, [.ref ys, .ref yk, .ref yo, .ref yt, .int mk0, .ref yfa, .ref yfe, .int mL, .int mS, .int mM, .ref yro, .ref yhe, .ref ygr, .int mF, .int mC, .int mY, .ref yta, .int (nI (mz)), .int (nI ((nf bb mz (nx bb mz (mSt bb mz (nx bb mz u8)))))), .int (nI ((nx bb mz (nx bb mz (mSt bb mz (nx bb mz u8)))))), .int (mV bb mz (nx bb mz u8)), .int 0, .ref ywa, .ref ybi, .ref ysi, .ref ynu, .ref ymo])), (ys, .inl (cI, 449, .inl s8))] H → va_D A [(ywa, .inl (cI, 6, .inl a8)), (yta, .inl (cI, 120, .inl tp)), (h0, .inr (9, [.ref ys, .ref yk, .ref yo, .ref yt, .int mk0, .ref yfa, .ref yfe, .int mL, .int mS, .int mM, .ref yro, .ref yhe, .ref ygr, .int mF, .int mC, .int mY, .ref yta, .int (nI (mz)), .int (nI ((nf bb mz (nx bb mz (mSt bb mz (nx bb mz u8)))))), .int (nI ((nx bb mz (nx bb mz (mSt bb mz (nx bb mz u8)))))), .int (mV bb mz (nx bb mz u8)), .int 0, .ref ywa, .ref ybi, .ref ysi, .ref ynu, .ref ymo])), (ys, .inl (cI, 449, .inl s8))] → va_S A s.heap H locs → lv_has ls 6 [(5, .int (nI (i))), (4, .int (nI (377 + (9 * Wn)))), (3, .int 0), (2, .int (mV bb mz (nx bb mz u8))), (1, .int (nI (n8))), (0, .ref h0)] → W p l e ({ frames := 6, cells := 0, slots := 0, locals := 136 }) s m ([.ref h0] : List Value).toArray below meth c H locs 0 0 (MQ below (XQv (fun (u : Nat × Int32 × Int32 × (Nat → Int32) × Nat × (Nat → Int32) × (Nat → Int32) × (Nat → Int32) × (Nat → Int32) × (Nat → Int32)) => match u with | (u2, w2, v2, ms2, W2, wa2, gwn, gwp, gt, gs) => (((spWalk bb mz u9 P Wn = Sum.inr u2) ∧ (w2 = 0) ∧ (W2 = Wn + 1) ∧ (nx bb mz u9 ≤ u2) ∧ (gwn = upd fawn Wn (nI (wkC bb mz u9))) ∧ (gwp = wkR bb mz u9 Wn (wkC bb mz u9) fawp) ∧ (gt = upd fat Wn (wkTo bb mz u9)) ∧ (gs = upd fas Wn (wkSl bb mz u9))) ∨ ((spWalk bb mz u9 P Wn = Sum.inl u2) ∧ (w2 = 1))) ∧ (u2 ≤ mz) ∧ (ms2 0 = nI P) ∧ (ms2 1 = nI Rn) ∧ (ms2 2 = nI W2) ∧ (SI ms2) ∧ (MI ms2) ∧ (P ≤ 10) ∧ (Rn ≤ 8) ∧ (W2 ≤ 8) ∧ (RI Rn ms2) ∧ (FR P ms2 fae fal fau fao farn farp fak gwn gwp gt gs)) D (fun (u : Nat × Int32 × Int32 × (Nat → Int32) × Nat × (Nat → Int32) × (Nat → Int32) × (Nat → Int32) × (Nat → Int32) × (Nat → Int32)) => match u with | (u2, w2, v2, ms2, W2, wa2, gwn, gwp, gt, gs) => [(h0, .inr (9, [.ref ys, .ref yk, .ref yo, .ref yt, .int mk0, .ref yfa, .ref yfe, .int mL, .int mS, .int mM, .ref yro, .ref yhe, .ref ygr, .int mF, .int mC, .int mY, .ref yta, .int (nI (mz)), .int (nI (nf bb mz u2)), .int (nI (nx bb mz u2)), .int v2, .int w2, .ref ywa, .ref ybi, .ref ysi, .ref ynu, .ref ymo])), (ys, .inl (cI, 449, .inl ms2)), (yta, .inl (cI, 120, .inl tp)), (ywa, .inl (cI, 6, .inl wa2))]) A) ([.ref h0] : List Value).toArray s 0 0 A) (F0 m 221 ls []) by
                          exact loop_221 _ 2 f_283 (upd (upd fawp (Wn * 6 + 0) (nI z_269)) (Wn * 6 + 1) (nI z_270)) _ _ _ (Nat.lt_succ_self _) (by omega) (by omega) (wkR_2 (ez_269.symm.trans (hA9 0 (by omega))) (ez_270.symm.trans (hA9 1 (by omega)))) k0_f_283 k1_f_283 k2_f_283 kS_f_283 kM_f_283 i_278 i_279 i_280 kR_f_283 kG_f_283 hP hD hS (lv_sub hl [0, 1, 2, 3, 4, 5] rfl)
                        intro n_221
                        induction n_221 with
                        | zero =>
                          intro i s8 w8 H locs ls hm_221
                          exact absurd hm_221 (Nat.not_lt_zero _)
                        | succ n_221 ih_221 =>
                          intro i s8 w8 H locs ls hm_221 hi2 hi hw8 ht0 ht1 ht2 htS htM htp htr htw htR htG hP hD hS hl
                          refine lv_iload hx hb dX9_walkItem_221 (lv_at hl 0 rfl) ?_
                          refine lv_iload_n hx hb dX9_walkItem_223 rfl (lv_at hl 4 rfl) ?_
                          refine lv_icmp_ge (tgt := 252) hx hb dX9_walkItem_224 (by decide) (fun c_284 => ?_) (fun c_284 => ?_)
                          · skip
                            have nc_284 : n8 ≤ i := xn_le (a := n8) (b := i) (by omega) (by omega) c_284
                            exact W.vret hx hb hr (fun t ht hW => ⟨⟨(nx bb mz (mSt bb mz (nx bb mz u8)), 0, (mV bb mz (nx bb mz u8)), s8, Wn + 1, a8, upd (upd fawn Wn 2) (Wn) (nI (n8)), w8, upd fat Wn (mV bb mz (nx bb mz u8)), upd fas Wn 0), rfl, ⟨Or.inl ⟨hL8.trans ((spSt_end (by omega) (kd_nD h_171)).trans ((cif_pos (show 2 ≤ n8 by omega)).trans ((cif_pos (h_209)).trans ((cif_pos (h_220)).trans (cif_neg (h_229)))))), rfl, rfl, by omega, (upd_upd.trans (congrArg (fun n => upd fawn Wn (nI n)) (hN8.trans (wkn_end (by omega) (kd_nD h_171))).symm)), (hw8.trans (congrArg (fun n => wkR bb mz u9 Wn n fawp) ((show i = n8 by omega).trans (hN8.trans (wkn_end (by omega) (kd_nD h_171))).symm))), (congrArg (upd fat Wn) (wkTo_e (wkE_e (hN8.trans (wkn_end (by omega) (kd_nD h_171))) hu8x))), (congrArg (upd fas Wn) (wkSl_n (wkE_e (hN8.trans (wkn_end (by omega) (kd_nD h_171))) hu8x) h_229))⟩, (by first | assumption | omega), ht0, ht1, ht2, htS, htM, htp, htr, htw, htR, htG⟩, by rw [ht]; exact hP.sub [2, 3, 1, 0] rfl, hD.sub [2, 3, 1, 0] (by decide) rfl⟩, hS.F ht⟩) hS.2.2 dX9_walkItem_252 hlk
                          · skip
                            have nc_284 : i < n8 := xn_nle (a := n8) (b := i) (by omega) (by omega) c_284
                            refine lv_aload_n hx hb dX9_walkItem_227 rfl (lv_at hl 5 rfl) ?_
                            refine xg hF kf_X9_7 hK hP 2 rfl rfl dX9_walkItem_228 ?_
                            refine lv_iload hx hb dX9_walkItem_231 (lv_at hl 1 rfl) ?_
                            refine lv_iconst (v := 3) hx hb dX9_walkItem_233 (by decide) ?_
                            refine lv_iadd hx hb dX9_walkItem_234 ?_
                            refine xl_i (y := nI (377 + (9 * Wn) + 3)) (nI_add (377 + (9 * Wn)) 3) ?_
                            refine lv_iload hx hb dX9_walkItem_235 (lv_at hl 0 rfl) ?_
                            refine lv_iadd hx hb dX9_walkItem_237 ?_
                            refine xl_i (y := nI (377 + (9 * Wn) + 3 + i)) (nI_add (377 + (9 * Wn) + 3) i) ?_
                            refine lv_aload_n hx hb dX9_walkItem_238 rfl (lv_at hl 5 rfl) ?_
                            refine xg hF kf_X9_40 hK hP 2 rfl rfl dX9_walkItem_239 ?_
                            refine lv_iload hx hb dX9_walkItem_242 (lv_at hl 0 rfl) ?_
                            refine va_iald hx hb hK hP 0 0 rfl rfl (vp_in_nI (show i < 6 by omega) (by decide)) dX9_walkItem_244 ?_
                            refine xl_i (y := a8 i) (congrArg a8 (nI_clamp (show i < 2 ^ 31 by omega))) ?_
                            obtain ⟨z_285, ez_285, hz_2850⟩ := wk_A.get hA8 rfl (show i < n8 by omega)
                            refine xl_i (y := nI (z_285)) ez_285 ?_
                            refine va_iast hx hb hK hP hD hS 3 0 rfl rfl (vp_in_nI (show 377 + (9 * Wn) + 3 + i < 449 by omega) (by decide)) dX9_walkItem_245 (fun H locs hP hD hS => ?_)
                            rw [nI_clamp (show 377 + (9 * Wn) + 3 + i < 2 ^ 31 by omega)] at hP hD
                            obtain ⟨f_286, ef_286⟩ : ∃ g, g = upd s8 (377 + (9 * Wn) + 3 + i) (nI (z_285)) := ⟨_, rfl⟩
                            rw [← ef_286] at hP hD
                            have k0_f_286 : f_286 0 = nI P := by rw [ef_286]; exact (pk_un (show 0 ≠ (377 + (9 * Wn) + 3 + i) by omega)).trans ht0
                            have k1_f_286 : f_286 1 = nI Rn := by rw [ef_286]; exact (pk_un (show 1 ≠ (377 + (9 * Wn) + 3 + i) by omega)).trans ht1
                            have k2_f_286 : f_286 2 = nI (Wn + 1) := by rw [ef_286]; exact (pk_un (show 2 ≠ (377 + (9 * Wn) + 3 + i) by omega)).trans ht2
                            have kS_f_286 : SI f_286 := by rw [ef_286]; exact SI.upd htS (okS.ws (w := Wn) (i := i) (by omega) (by omega) (by omega) (show z_285 < 10 by omega))
                            have kM_f_286 : MI f_286 := by rw [ef_286]; exact MI.upd htM (okM.out (show (377 + (9 * Wn) + 3 + i) < 13 ∨ 113 ≤ (377 + (9 * Wn) + 3 + i) by omega))
                            have kR_f_286 : RI Rn f_286 := by rw [ef_286]; exact RI.upd htR (fun r9 hr9 e9 => by omega)
                            have kG_f_286 : FR P f_286 fae fal fau fao farn farp fak (upd (upd fawn Wn 2) (Wn) (nI (n8))) (upd w8 (Wn * 6 + i) (nI (z_285))) (upd fat Wn (mV bb mz (nx bb mz u8))) (upd fas Wn 0) := by rw [ef_286]; exact FR.pwp htG (show Wn < 8 by omega) (show i < 6 by omega) (by omega)
                            have hP : va_P D vwCl [(ywa, .inl (cI, 6, .inl a8)), (yta, .inl (cI, 120, .inl tp)), (h0, .inr (9, [.ref ys, .ref yk, .ref yo, .ref yt, .int mk0, .ref yfa, .ref yfe, .int mL, .int mS, .int mM, .ref yro, .ref yhe, .ref ygr, .int mF, .int mC, .int mY, .ref yta, .int (nI (mz)), .int (nI ((nf bb mz (nx bb mz (mSt bb mz (nx bb mz u8)))))), .int (nI ((nx bb mz (nx bb mz (mSt bb mz (nx bb mz u8)))))), .int (mV bb mz (nx bb mz u8)), .int 0, .ref ywa, .ref ybi, .ref ysi, .ref ynu, .ref ymo])), (ys, .inl (cI, 449, .inl f_286))] H := hP
                            have hD : va_D A [(ywa, .inl (cI, 6, .inl a8)), (yta, .inl (cI, 120, .inl tp)), (h0, .inr (9, [.ref ys, .ref yk, .ref yo, .ref yt, .int mk0, .ref yfa, .ref yfe, .int mL, .int mS, .int mM, .ref yro, .ref yhe, .ref ygr, .int mF, .int mC, .int mY, .ref yta, .int (nI (mz)), .int (nI ((nf bb mz (nx bb mz (mSt bb mz (nx bb mz u8)))))), .int (nI ((nx bb mz (nx bb mz (mSt bb mz (nx bb mz u8)))))), .int (mV bb mz (nx bb mz u8)), .int 0, .ref ywa, .ref ybi, .ref ysi, .ref ynu, .ref ymo])), (ys, .inl (cI, 449, .inl f_286))] := hD
                            refine lv_iinc (v := nI (i + 1)) (lv' := [(5, .int (nI (i + 1))), (4, .int (nI (377 + (9 * Wn)))), (3, .int 0), (2, .int (mV bb mz (nx bb mz u8))), (1, .int (nI (n8))), (0, .ref h0)]) hx hb dX9_walkItem_246 hl (k := 0) rfl (nI_1 (i)) (by decide) rfl (fun ls hl => ?_)
                            refine lv_goto (tgt := 221) hx hb dX9_walkItem_249 (by decide) ?_
                            exact ih_221 (i + 1) f_286 (upd w8 (Wn * 6 + i) (nI (z_285))) _ _ _ (by omega) (by omega) (by omega) (by rw [hw8]; exact wkR_put rfl (ez_285.symm.trans (hA9 i (by omega)))) k0_f_286 k1_f_286 k2_f_286 kS_f_286 kM_f_286 htp htr htw kR_f_286 kG_f_286 (hP.sub [0, 1, 2, 3] rfl) (hD.sub [0, 1, 2, 3] (by decide) rfl) hS (lv_sub hl [0, 1, 2, 3, 4, 5] rfl)
                    · skip
                      subst h_225
                      subst h_226
                      refine lv_aload_n hx hb dX9_walkItem_133 rfl (lv_at hl 1 rfl) ?_
                      refine xg hF kf_X9_275 hK hP 2 rfl rfl dX9_walkItem_134 ?_
                      refine lv_istore_n (lv' := [(2, .int v2_217), (1, .int (nI (n8))), (0, .ref h0)]) hx hb dX9_walkItem_137 rfl hl (by decide) rfl (fun ls hl => ?_)
                      refine lv_iconst (v := 0) hx hb dX9_walkItem_138 (by decide) ?_
                      refine lv_istore_n (lv' := [(3, .int 0), (2, .int v2_217), (1, .int (nI (n8))), (0, .ref h0)]) hx hb dX9_walkItem_139 rfl hl (by decide) rfl (fun ls hl => ?_)
                      refine lv_aload_n hx hb dX9_walkItem_140 rfl (lv_at hl 3 rfl) ?_
                      refine lv_bipush (v := 115) hx hb dX9_walkItem_141 (by decide) ?_
                      refine lv_bipush (v := 108) hx hb dX9_walkItem_143 (by decide) ?_
                      refine lv_bipush (v := 97) hx hb dX9_walkItem_145 (by decide) ?_
                      refine lv_bipush (v := 99) hx hb dX9_walkItem_147 (by decide) ?_
                      refine lv_bipush (v := 107) hx hb dX9_walkItem_149 (by decide) ?_
                      refine lv_iconst (v := 0) hx hb dX9_walkItem_151 (by decide) ?_
                      refine lv_iconst (v := 0) hx hb dX9_walkItem_152 (by decide) ?_
                      refine xc_Vr hF (c_X9_isWordW l D cI cJ cZ cS ta sa sv H.size h0 ys yk yo yt mk0 yfa yfe mL mS mM yro yhe ygr mF mC mY yta mz v2_217 ywa ybi ysi ynu ymo tp 115 108 97 99 107 0 0 (mSt bb mz (nx bb mz u8)) bb (by omega) hbb (by omega)) kv_X9_290 ⟨rfl, rfl, Nat.le_of_ble_eq_true rfl, Nat.le_of_ble_eq_true rfl⟩ ⟨Nat.le_of_ble_eq_true rfl, Nat.le_of_ble_eq_true rfl⟩ hK hN hZ hP hD hS hA [2, 3] rfl rfl 0 rfl rfl rfl rfl hl.1 rfl (Nat.le_of_ble_eq_true rfl) dX9_walkItem_153 (fun r_287 hw_r_287 => ?_)
                      subst hw_r_287
                      refine lv_if_eq (tgt := 176) hx hb dX9_walkItem_156 (by decide) (fun c_288 => ?_) (fun c_288 => absurd (by decide) c_288)
                      refine lv_aload_n hx hb dX9_walkItem_176 rfl (lv_at hl 3 rfl) ?_
                      refine xg hF kf_X9_266 hK hP 2 rfl rfl dX9_walkItem_177 ?_
                      refine lv_if_ne (tgt := 252) hx hb dX9_walkItem_180 (by decide) (fun c_289 => ?_) (fun c_289 => absurd c_289 (by decide))
                      exact W.vret hx hb hr (fun t ht hW => ⟨⟨(mSt bb mz (nx bb mz u8), 1, v2_217, ms, Wn, a8, fawn, fawp, fat, fas), rfl, ⟨Or.inr ⟨hL8.trans ((spSt_end (by omega) (kd_nD h_171)).trans ((cif_pos (show 2 ≤ n8 by omega)).trans ((cif_pos (h_209)).trans (cif_neg (h_224))))), rfl⟩, (by first | assumption | omega), hs0, hs1, hs2, hsS, hsM, hsp, hsr, hsw, hsR, hsG⟩, by rw [ht]; exact hP.sub [2, 0, 3, 1] rfl, hD.sub [2, 0, 3, 1] (by decide) rfl⟩, hS.F ht⟩) hS.2.2 dX9_walkItem_252 hlk
                  · skip
                    refine xc_Vv (wr := [(ys, .inl (cI, 449, .inl ms)), (ywa, .inl (cI, 6, .inl a8))]) hF (c_X9_needs0 l D cI cJ cZ cS ta sa sv H.size h0 ys yk yo yt mk0 yfa yfe mL mS mM yro yhe ygr mF mC mY yta mz mv ywa ybi ysi ynu ymo tp u8 bb (by omega) hbb (by omega)) kv_X9_278 ⟨rfl, rfl, Nat.le_of_ble_eq_true rfl, Nat.le_of_ble_eq_true rfl⟩ ⟨Nat.le_of_ble_eq_true rfl, Nat.le_of_ble_eq_true rfl⟩ hK hN hZ hP hD hS hA [2, 3] [0, 1] rfl rfl rfl rfl (by decide) 0 rfl rfl rfl rfl hl.1 rfl (Nat.le_of_ble_eq_true rfl) dX9_walkItem_120 (fun u_r_290 H locs hw_r_290 hP hD hS => ?_)
                    have hP : va_P D vwCl [(ys, .inl (cI, 449, .inl ms)), (ywa, .inl (cI, 6, .inl a8)), (h0, .inr (9, [.ref ys, .ref yk, .ref yo, .ref yt, .int mk0, .ref yfa, .ref yfe, .int mL, .int mS, .int mM, .ref yro, .ref yhe, .ref ygr, .int mF, .int mC, .int mY, .ref yta, .int (nI (mz)), .int (nI (nf bb mz u8)), .int (nI (nx bb mz u8)), .int mv, .int 1, .ref ywa, .ref ybi, .ref ysi, .ref ynu, .ref ymo])), (yta, .inl (cI, 120, .inl tp))] H := hP
                    have hD : va_D A [(ys, .inl (cI, 449, .inl ms)), (ywa, .inl (cI, 6, .inl a8)), (h0, .inr (9, [.ref ys, .ref yk, .ref yo, .ref yt, .int mk0, .ref yfa, .ref yfe, .int mL, .int mS, .int mM, .ref yro, .ref yhe, .ref ygr, .int mF, .int mC, .int mY, .ref yta, .int (nI (mz)), .int (nI (nf bb mz u8)), .int (nI (nx bb mz u8)), .int mv, .int 1, .ref ywa, .ref ybi, .ref ysi, .ref ynu, .ref ymo])), (yta, .inl (cI, 120, .inl tp))] := hD
                    refine lv_aload_n hx hb dX9_walkItem_123 rfl (lv_at hl 1 rfl) ?_
                    refine lv_sipush (v := (-9999)) hx hb dX9_walkItem_124 (by decide) ?_
                    refine lv_sipush (v := 9999) hx hb dX9_walkItem_127 (by decide) ?_
                    refine xc_Vv (wr := [(ys, .inl (cI, 449, .inl ms)), (ywa, .inl (cI, 6, .inl a8))]) hF (c_X9_mileW l D cI cJ cZ cS ta sa sv H.size h0 ys yk yo yt mk0 yfa yfe mL mS mM yro yhe ygr mF mC mY yta mz mv ywa ybi ysi ynu ymo tp (-9999) 9999 u8 bb (by omega) hbb (by omega)) kv_X9_287 ⟨rfl, rfl, Nat.le_of_ble_eq_true rfl, Nat.le_of_ble_eq_true rfl⟩ ⟨Nat.le_of_ble_eq_true rfl, Nat.le_of_ble_eq_true rfl⟩ hK hN hZ hP hD hS hA [2, 3] [0, 1] rfl rfl rfl rfl (by decide) 0 rfl rfl rfl rfl hl.1 rfl (Nat.le_of_ble_eq_true rfl) dX9_walkItem_130 (fun u_r_291 H locs hw_r_291 hP hD hS => ?_)
                    have hP : va_P D vwCl [(ys, .inl (cI, 449, .inl ms)), (ywa, .inl (cI, 6, .inl a8)), (h0, .inr (9, [.ref ys, .ref yk, .ref yo, .ref yt, .int mk0, .ref yfa, .ref yfe, .int mL, .int mS, .int mM, .ref yro, .ref yhe, .ref ygr, .int mF, .int mC, .int mY, .ref yta, .int (nI (mz)), .int (nI (nf bb mz u8)), .int (nI (nx bb mz u8)), .int mv, .int 1, .ref ywa, .ref ybi, .ref ysi, .ref ynu, .ref ymo])), (yta, .inl (cI, 120, .inl tp))] H := hP
                    have hD : va_D A [(ys, .inl (cI, 449, .inl ms)), (ywa, .inl (cI, 6, .inl a8)), (h0, .inr (9, [.ref ys, .ref yk, .ref yo, .ref yt, .int mk0, .ref yfa, .ref yfe, .int mL, .int mS, .int mM, .ref yro, .ref yhe, .ref ygr, .int mF, .int mC, .int mY, .ref yta, .int (nI (mz)), .int (nI (nf bb mz u8)), .int (nI (nx bb mz u8)), .int mv, .int 1, .ref ywa, .ref ybi, .ref ysi, .ref ynu, .ref ymo])), (yta, .inl (cI, 120, .inl tp))] := hD
                    refine lv_aload_n hx hb dX9_walkItem_133 rfl (lv_at hl 1 rfl) ?_
                    refine xg hF kf_X9_275 hK hP 2 rfl rfl dX9_walkItem_134 ?_
                    refine lv_istore_n (lv' := [(2, .int mv), (1, .int (nI (n8))), (0, .ref h0)]) hx hb dX9_walkItem_137 rfl hl (by decide) rfl (fun ls hl => ?_)
                    refine lv_iconst (v := 0) hx hb dX9_walkItem_138 (by decide) ?_
                    refine lv_istore_n (lv' := [(3, .int 0), (2, .int mv), (1, .int (nI (n8))), (0, .ref h0)]) hx hb dX9_walkItem_139 rfl hl (by decide) rfl (fun ls hl => ?_)
                    refine lv_aload_n hx hb dX9_walkItem_140 rfl (lv_at hl 3 rfl) ?_
                    refine lv_bipush (v := 115) hx hb dX9_walkItem_141 (by decide) ?_
                    refine lv_bipush (v := 108) hx hb dX9_walkItem_143 (by decide) ?_
                    refine lv_bipush (v := 97) hx hb dX9_walkItem_145 (by decide) ?_
                    refine lv_bipush (v := 99) hx hb dX9_walkItem_147 (by decide) ?_
                    refine lv_bipush (v := 107) hx hb dX9_walkItem_149 (by decide) ?_
                    refine lv_iconst (v := 0) hx hb dX9_walkItem_151 (by decide) ?_
                    refine lv_iconst (v := 0) hx hb dX9_walkItem_152 (by decide) ?_
                    refine xc_Vr hF (c_X9_isWordW l D cI cJ cZ cS ta sa sv H.size h0 ys yk yo yt mk0 yfa yfe mL mS mM yro yhe ygr mF mC mY yta mz mv ywa ybi ysi ynu ymo tp 115 108 97 99 107 0 0 u8 bb (by omega) hbb (by omega)) kv_X9_290 ⟨rfl, rfl, Nat.le_of_ble_eq_true rfl, Nat.le_of_ble_eq_true rfl⟩ ⟨Nat.le_of_ble_eq_true rfl, Nat.le_of_ble_eq_true rfl⟩ hK hN hZ hP hD hS hA [2, 3] rfl rfl 0 rfl rfl rfl rfl hl.1 rfl (Nat.le_of_ble_eq_true rfl) dX9_walkItem_153 (fun r_292 hw_r_292 => ?_)
                    subst hw_r_292
                    refine lv_if_eq (tgt := 176) hx hb dX9_walkItem_156 (by decide) (fun c_293 => ?_) (fun c_293 => absurd (by decide) c_293)
                    refine lv_aload_n hx hb dX9_walkItem_176 rfl (lv_at hl 3 rfl) ?_
                    refine xg hF kf_X9_266 hK hP 2 rfl rfl dX9_walkItem_177 ?_
                    refine lv_if_ne (tgt := 252) hx hb dX9_walkItem_180 (by decide) (fun c_294 => ?_) (fun c_294 => absurd c_294 (by decide))
                    exact W.vret hx hb hr (fun t ht hW => ⟨⟨(u8, 1, mv, ms, Wn, a8, fawn, fawp, fat, fas), rfl, ⟨Or.inr ⟨hL8.trans ((spSt_end (by omega) (kd_nD h_171)).trans ((cif_pos (show 2 ≤ n8 by omega)).trans (cif_neg (h_210)))), rfl⟩, (by first | assumption | omega), hs0, hs1, hs2, hsS, hsM, hsp, hsr, hsw, hsR, hsG⟩, by rw [ht]; exact hP.sub [2, 0, 3, 1] rfl, hD.sub [2, 0, 3, 1] (by decide) rfl⟩, hS.F ht⟩) hS.2.2 dX9_walkItem_252 hlk
              · skip
                refine xc_Sr hF (c_X9_isDigitM l D cI cJ cZ cS ta sa sv H.size  ) ks_X9_263 ⟨rfl, rfl, Nat.le_of_ble_eq_true rfl, Nat.le_of_ble_eq_true rfl⟩ ⟨Nat.le_of_ble_eq_true rfl, Nat.le_of_ble_eq_true rfl⟩ hK hN hZ hP hD hS hA [] rfl rfl rfl hl.1 rfl (Nat.le_of_ble_eq_true rfl) dX9_walkItem_48 (fun r_295 hw_r_295 => ?_)
                subst hw_r_295
                refine lv_if_eq (tgt := 105) hx hb dX9_walkItem_51 (by decide) (fun c_296 => ?_) (fun c_296 => absurd (by decide) c_296)
                refine lv_aload_n hx hb dX9_walkItem_105 rfl (lv_at hl 1 rfl) ?_
                refine lv_aload_n hx hb dX9_walkItem_106 rfl (lv_at hl 1 rfl) ?_
                refine lv_bipush (v := 97) hx hb dX9_walkItem_107 (by decide) ?_
                refine lv_bipush (v := 108) hx hb dX9_walkItem_109 (by decide) ?_
                refine lv_bipush (v := 108) hx hb dX9_walkItem_111 (by decide) ?_
                refine lv_iconst (v := 0) hx hb dX9_walkItem_113 (by decide) ?_
                refine lv_iconst (v := 0) hx hb dX9_walkItem_114 (by decide) ?_
                refine lv_iconst (v := 0) hx hb dX9_walkItem_115 (by decide) ?_
                refine lv_iconst (v := 0) hx hb dX9_walkItem_116 (by decide) ?_
                refine xc_Vr hF (c_X9_isWord_6 l D cI cJ cZ cS ta sa sv H.size h0 ys yk yo yt mk0 yfa yfe mL mS mM yro yhe ygr mF mC mY yta mz mv ywa ybi ysi ynu ymo tp u8 bb (by omega) hbb (by omega)) kv_X9_290 ⟨rfl, rfl, Nat.le_of_ble_eq_true rfl, Nat.le_of_ble_eq_true rfl⟩ ⟨Nat.le_of_ble_eq_true rfl, Nat.le_of_ble_eq_true rfl⟩ hK hN hZ hP hD hS hA [2, 3] rfl rfl 0 rfl rfl rfl rfl hl.1 rfl (Nat.le_of_ble_eq_true rfl) dX9_walkItem_117 (fun r_297 hw_r_297 => ?_)
                rcases hw_r_297 with ⟨rfl, h_298⟩ | ⟨rfl, h_299⟩
                · skip
                  refine xc_Vv (wr := [(ys, .inl (cI, 449, .inl ms)), (ywa, .inl (cI, 6, .inl a8))]) hF (c_X9_needs1 l D cI cJ cZ cS ta sa sv H.size h0 ys yk yo yt mk0 yfa yfe mL mS mM yro yhe ygr mF mC mY yta mz mv ywa ybi ysi ynu ymo tp u8 bb (by omega) hbb (by omega)) kv_X9_278 ⟨rfl, rfl, Nat.le_of_ble_eq_true rfl, Nat.le_of_ble_eq_true rfl⟩ ⟨Nat.le_of_ble_eq_true rfl, Nat.le_of_ble_eq_true rfl⟩ hK hN hZ hP hD hS hA [2, 3] [0, 1] rfl rfl rfl rfl (by decide) 0 rfl rfl rfl rfl hl.1 rfl (Nat.le_of_ble_eq_true rfl) dX9_walkItem_120 (fun u_r_300 H locs hw_r_300 hP hD hS => ?_)
                  obtain ⟨i_301, i_302⟩ := hw_r_300
                  have hP : va_P D vwCl [(ys, .inl (cI, 449, .inl ms)), (ywa, .inl (cI, 6, .inl a8)), (h0, .inr (9, [.ref ys, .ref yk, .ref yo, .ref yt, .int mk0, .ref yfa, .ref yfe, .int mL, .int mS, .int mM, .ref yro, .ref yhe, .ref ygr, .int mF, .int mC, .int mY, .ref yta, .int (nI (mz)), .int (nI (nf bb mz (nx bb mz u8))), .int (nI (nx bb mz (nx bb mz u8))), .int mv, .int 0, .ref ywa, .ref ybi, .ref ysi, .ref ynu, .ref ymo])), (yta, .inl (cI, 120, .inl tp))] H := hP
                  have hD : va_D A [(ys, .inl (cI, 449, .inl ms)), (ywa, .inl (cI, 6, .inl a8)), (h0, .inr (9, [.ref ys, .ref yk, .ref yo, .ref yt, .int mk0, .ref yfa, .ref yfe, .int mL, .int mS, .int mM, .ref yro, .ref yhe, .ref ygr, .int mF, .int mC, .int mY, .ref yta, .int (nI (mz)), .int (nI (nf bb mz (nx bb mz u8))), .int (nI (nx bb mz (nx bb mz u8))), .int mv, .int 0, .ref ywa, .ref ybi, .ref ysi, .ref ynu, .ref ymo])), (yta, .inl (cI, 120, .inl tp))] := hD
                  refine lv_aload_n hx hb dX9_walkItem_123 rfl (lv_at hl 1 rfl) ?_
                  refine lv_sipush (v := (-9999)) hx hb dX9_walkItem_124 (by decide) ?_
                  refine lv_sipush (v := 9999) hx hb dX9_walkItem_127 (by decide) ?_
                  refine xc_Vv (wr := [(ys, .inl (cI, 449, .inl ms)), (ywa, .inl (cI, 6, .inl a8))]) hF (c_X9_mile0 l D cI cJ cZ cS ta sa sv H.size h0 ys yk yo yt mk0 yfa yfe mL mS mM yro yhe ygr mF mC mY yta mz mv ywa ybi ysi ynu ymo tp (-9999) 9999 (nx bb mz u8) bb (by omega) hbb (by omega) (by decide) (by decide) (by decide) (by decide)) kv_X9_287 ⟨rfl, rfl, Nat.le_of_ble_eq_true rfl, Nat.le_of_ble_eq_true rfl⟩ ⟨Nat.le_of_ble_eq_true rfl, Nat.le_of_ble_eq_true rfl⟩ hK hN hZ hP hD hS hA [2, 3] [0, 1] rfl rfl rfl rfl (by decide) 0 rfl rfl rfl rfl hl.1 rfl (Nat.le_of_ble_eq_true rfl) dX9_walkItem_130 (fun u_r_303 H locs hw_r_303 hP hD hS => ?_)
                  obtain ⟨u2_304, w2_305, v2_306⟩ := u_r_303
                  try dsimp only at hw_r_303
                  obtain ⟨hw_r_303, i_307, i_308⟩ := hw_r_303
                  have hP : va_P D vwCl [(ys, .inl (cI, 449, .inl ms)), (ywa, .inl (cI, 6, .inl a8)), (h0, .inr (9, [.ref ys, .ref yk, .ref yo, .ref yt, .int mk0, .ref yfa, .ref yfe, .int mL, .int mS, .int mM, .ref yro, .ref yhe, .ref ygr, .int mF, .int mC, .int mY, .ref yta, .int (nI (mz)), .int (nI (nf bb mz u2_304)), .int (nI (nx bb mz u2_304)), .int v2_306, .int w2_305, .ref ywa, .ref ybi, .ref ysi, .ref ynu, .ref ymo])), (yta, .inl (cI, 120, .inl tp))] H := hP
                  have hD : va_D A [(ys, .inl (cI, 449, .inl ms)), (ywa, .inl (cI, 6, .inl a8)), (h0, .inr (9, [.ref ys, .ref yk, .ref yo, .ref yt, .int mk0, .ref yfa, .ref yfe, .int mL, .int mS, .int mM, .ref yro, .ref yhe, .ref ygr, .int mF, .int mC, .int mY, .ref yta, .int (nI (mz)), .int (nI (nf bb mz u2_304)), .int (nI (nx bb mz u2_304)), .int v2_306, .int w2_305, .ref ywa, .ref ybi, .ref ysi, .ref ynu, .ref ymo])), (yta, .inl (cI, 120, .inl tp))] := hD
                  rcases hw_r_303 with ⟨h_309, h_310, h_311, h_312⟩ | ⟨h_313, h_314, h_315⟩
                  · skip
                    subst h_310
                    subst h_311
                    subst h_312
                    refine lv_aload_n hx hb dX9_walkItem_133 rfl (lv_at hl 1 rfl) ?_
                    refine xg hF kf_X9_275 hK hP 2 rfl rfl dX9_walkItem_134 ?_
                    refine lv_istore_n (lv' := [(2, .int (mV bb mz (nx bb mz u8))), (1, .int (nI (n8))), (0, .ref h0)]) hx hb dX9_walkItem_137 rfl hl (by decide) rfl (fun ls hl => ?_)
                    refine lv_iconst (v := 0) hx hb dX9_walkItem_138 (by decide) ?_
                    refine lv_istore_n (lv' := [(3, .int 0), (2, .int (mV bb mz (nx bb mz u8))), (1, .int (nI (n8))), (0, .ref h0)]) hx hb dX9_walkItem_139 rfl hl (by decide) rfl (fun ls hl => ?_)
                    refine lv_aload_n hx hb dX9_walkItem_140 rfl (lv_at hl 3 rfl) ?_
                    refine lv_bipush (v := 115) hx hb dX9_walkItem_141 (by decide) ?_
                    refine lv_bipush (v := 108) hx hb dX9_walkItem_143 (by decide) ?_
                    refine lv_bipush (v := 97) hx hb dX9_walkItem_145 (by decide) ?_
                    refine lv_bipush (v := 99) hx hb dX9_walkItem_147 (by decide) ?_
                    refine lv_bipush (v := 107) hx hb dX9_walkItem_149 (by decide) ?_
                    refine lv_iconst (v := 0) hx hb dX9_walkItem_151 (by decide) ?_
                    refine lv_iconst (v := 0) hx hb dX9_walkItem_152 (by decide) ?_
                    refine xc_Vr hF (c_X9_isWord_7 l D cI cJ cZ cS ta sa sv H.size h0 ys yk yo yt mk0 yfa yfe mL mS mM yro yhe ygr mF mC mY yta mz (mV bb mz (nx bb mz u8)) ywa ybi ysi ynu ymo tp (nx bb mz (mSt bb mz (nx bb mz u8))) bb (by omega) hbb (by omega)) kv_X9_290 ⟨rfl, rfl, Nat.le_of_ble_eq_true rfl, Nat.le_of_ble_eq_true rfl⟩ ⟨Nat.le_of_ble_eq_true rfl, Nat.le_of_ble_eq_true rfl⟩ hK hN hZ hP hD hS hA [2, 3] rfl rfl 0 rfl rfl rfl rfl hl.1 rfl (Nat.le_of_ble_eq_true rfl) dX9_walkItem_153 (fun r_316 hw_r_316 => ?_)
                    rcases hw_r_316 with ⟨rfl, h_317⟩ | ⟨rfl, h_318⟩
                    · skip
                      refine lv_if_eq (tgt := 176) hx hb dX9_walkItem_156 (by decide) (fun c_319 => absurd c_319 (by decide)) (fun c_319 => ?_)
                      refine lv_aload_n hx hb dX9_walkItem_159 rfl (lv_at hl 3 rfl) ?_
                      refine lv_iconst (v := 1) hx hb dX9_walkItem_160 (by decide) ?_
                      refine xc_Vv (wr := [(ys, .inl (cI, 449, .inl ms)), (ywa, .inl (cI, 6, .inl a8))]) hF (c_X9_needs1 l D cI cJ cZ cS ta sa sv H.size h0 ys yk yo yt mk0 yfa yfe mL mS mM yro yhe ygr mF mC mY yta mz (mV bb mz (nx bb mz u8)) ywa ybi ysi ynu ymo tp (nx bb mz (mSt bb mz (nx bb mz u8))) bb (by omega) hbb (by omega)) kv_X9_278 ⟨rfl, rfl, Nat.le_of_ble_eq_true rfl, Nat.le_of_ble_eq_true rfl⟩ ⟨Nat.le_of_ble_eq_true rfl, Nat.le_of_ble_eq_true rfl⟩ hK hN hZ hP hD hS hA [2, 3] [0, 1] rfl rfl rfl rfl (by decide) 0 rfl rfl rfl rfl hl.1 rfl (Nat.le_of_ble_eq_true rfl) dX9_walkItem_161 (fun u_r_320 H locs hw_r_320 hP hD hS => ?_)
                      obtain ⟨i_321, i_322⟩ := hw_r_320
                      have hP : va_P D vwCl [(ys, .inl (cI, 449, .inl ms)), (ywa, .inl (cI, 6, .inl a8)), (h0, .inr (9, [.ref ys, .ref yk, .ref yo, .ref yt, .int mk0, .ref yfa, .ref yfe, .int mL, .int mS, .int mM, .ref yro, .ref yhe, .ref ygr, .int mF, .int mC, .int mY, .ref yta, .int (nI (mz)), .int (nI (nf bb mz (nx bb mz (nx bb mz (mSt bb mz (nx bb mz u8)))))), .int (nI (nx bb mz (nx bb mz (nx bb mz (mSt bb mz (nx bb mz u8)))))), .int (mV bb mz (nx bb mz u8)), .int 0, .ref ywa, .ref ybi, .ref ysi, .ref ynu, .ref ymo])), (yta, .inl (cI, 120, .inl tp))] H := hP
                      have hD : va_D A [(ys, .inl (cI, 449, .inl ms)), (ywa, .inl (cI, 6, .inl a8)), (h0, .inr (9, [.ref ys, .ref yk, .ref yo, .ref yt, .int mk0, .ref yfa, .ref yfe, .int mL, .int mS, .int mM, .ref yro, .ref yhe, .ref ygr, .int mF, .int mC, .int mY, .ref yta, .int (nI (mz)), .int (nI (nf bb mz (nx bb mz (nx bb mz (mSt bb mz (nx bb mz u8)))))), .int (nI (nx bb mz (nx bb mz (nx bb mz (mSt bb mz (nx bb mz u8)))))), .int (mV bb mz (nx bb mz u8)), .int 0, .ref ywa, .ref ybi, .ref ysi, .ref ynu, .ref ymo])), (yta, .inl (cI, 120, .inl tp))] := hD
                      refine lv_aload_n hx hb dX9_walkItem_164 rfl (lv_at hl 3 rfl) ?_
                      refine lv_iconst (v := 0) hx hb dX9_walkItem_165 (by decide) ?_
                      refine lv_bipush (v := 99) hx hb dX9_walkItem_166 (by decide) ?_
                      refine xc_Vv (wr := [(ys, .inl (cI, 449, .inl ms)), (ywa, .inl (cI, 6, .inl a8))]) hF (c_X9_number0 l D cI cJ cZ cS ta sa sv H.size h0 ys yk yo yt mk0 yfa yfe mL mS mM yro yhe ygr mF mC mY yta mz (mV bb mz (nx bb mz u8)) ywa ybi ysi ynu ymo tp 0 99 (nx bb mz (nx bb mz (mSt bb mz (nx bb mz u8)))) bb (by omega) hbb (by omega)) kv_X9_282 ⟨rfl, rfl, Nat.le_of_ble_eq_true rfl, Nat.le_of_ble_eq_true rfl⟩ ⟨Nat.le_of_ble_eq_true rfl, Nat.le_of_ble_eq_true rfl⟩ hK hN hZ hP hD hS hA [2, 3] [0, 1] rfl rfl rfl rfl (by decide) 0 rfl rfl rfl rfl hl.1 rfl (Nat.le_of_ble_eq_true rfl) dX9_walkItem_168 (fun u_r_323 H locs hw_r_323 hP hD hS => ?_)
                      obtain ⟨u2_324, w2_325, v2_326⟩ := u_r_323
                      try dsimp only at hw_r_323
                      obtain ⟨hw_r_323, i_327, i_328⟩ := hw_r_323
                      have hP : va_P D vwCl [(ys, .inl (cI, 449, .inl ms)), (ywa, .inl (cI, 6, .inl a8)), (h0, .inr (9, [.ref ys, .ref yk, .ref yo, .ref yt, .int mk0, .ref yfa, .ref yfe, .int mL, .int mS, .int mM, .ref yro, .ref yhe, .ref ygr, .int mF, .int mC, .int mY, .ref yta, .int (nI (mz)), .int (nI (nf bb mz u2_324)), .int (nI (nx bb mz u2_324)), .int v2_326, .int w2_325, .ref ywa, .ref ybi, .ref ysi, .ref ynu, .ref ymo])), (yta, .inl (cI, 120, .inl tp))] H := hP
                      have hD : va_D A [(ys, .inl (cI, 449, .inl ms)), (ywa, .inl (cI, 6, .inl a8)), (h0, .inr (9, [.ref ys, .ref yk, .ref yo, .ref yt, .int mk0, .ref yfa, .ref yfe, .int mL, .int mS, .int mM, .ref yro, .ref yhe, .ref ygr, .int mF, .int mC, .int mY, .ref yta, .int (nI (mz)), .int (nI (nf bb mz u2_324)), .int (nI (nx bb mz u2_324)), .int v2_326, .int w2_325, .ref ywa, .ref ybi, .ref ysi, .ref ynu, .ref ymo])), (yta, .inl (cI, 120, .inl tp))] := hD
                      rcases hw_r_323 with ⟨h_329, h_330, h_331, h_332⟩ | ⟨h_333, h_334, h_335⟩
                      · skip
                        subst h_330
                        subst h_331
                        subst h_332
                        refine lv_aload_n hx hb dX9_walkItem_171 rfl (lv_at hl 3 rfl) ?_
                        refine xg hF kf_X9_275 hK hP 2 rfl rfl dX9_walkItem_172 ?_
                        refine lv_istore_n (lv' := [(3, .int (nI (num bb (nf bb mz (nx bb mz (nx bb mz (mSt bb mz (nx bb mz u8))))) (nx bb mz (nx bb mz (nx bb mz (mSt bb mz (nx bb mz u8)))))))), (2, .int (mV bb mz (nx bb mz u8))), (1, .int (nI (n8))), (0, .ref h0)]) hx hb dX9_walkItem_175 rfl hl (by decide) rfl (fun ls hl => ?_)
                        refine lv_aload_n hx hb dX9_walkItem_176 rfl (lv_at hl 3 rfl) ?_
                        refine xg hF kf_X9_266 hK hP 2 rfl rfl dX9_walkItem_177 ?_
                        refine lv_if_ne (tgt := 252) hx hb dX9_walkItem_180 (by decide) (fun c_336 => absurd (by decide) c_336) (fun c_336 => ?_)
                        refine lv_sipush (v := 377) hx hb dX9_walkItem_183 (by decide) ?_
                        refine lv_bipush (v := 9) hx hb dX9_walkItem_186 (by decide) ?_
                        refine lv_aload_n hx hb dX9_walkItem_188 rfl (lv_at hl 3 rfl) ?_
                        refine lv_aload_n hx hb dX9_walkItem_189 rfl (lv_at hl 3 rfl) ?_
                        refine xg hF kf_X9_40 hK hP 2 rfl rfl dX9_walkItem_190 ?_
                        refine lv_iconst (v := 0) hx hb dX9_walkItem_193 (by decide) ?_
                        refine va_iald hx hb hK hP 1 0 rfl rfl (xin 0 6 (by decide) (by decide)) dX9_walkItem_194 ?_
                        refine xl_i (y := a8 0) (congrArg a8 rfl) ?_
                        obtain ⟨z_337, ez_337, hz_3370⟩ := wk_A.get hA8 rfl (show 0 < n8 by omega)
                        refine xl_i (y := nI (z_337)) ez_337 ?_
                        refine lv_aload_n hx hb dX9_walkItem_195 rfl (lv_at hl 3 rfl) ?_
                        refine xg hF kf_X9_40 hK hP 2 rfl rfl dX9_walkItem_196 ?_
                        refine lv_iconst (v := 1) hx hb dX9_walkItem_199 (by decide) ?_
                        refine va_iald hx hb hK hP 1 0 rfl rfl (xin 1 6 (by decide) (by decide)) dX9_walkItem_200 ?_
                        refine xl_i (y := a8 1) (congrArg a8 rfl) ?_
                        obtain ⟨z_338, ez_338, hz_3380⟩ := wk_A.get hA8 rfl (show 1 < n8 by omega)
                        refine xl_i (y := nI (z_338)) ez_338 ?_
                        refine lv_iload_n hx hb dX9_walkItem_201 rfl (lv_at hl 1 rfl) ?_
                        refine lv_iload_n hx hb dX9_walkItem_202 rfl (lv_at hl 0 rfl) ?_
                        refine xc_Vi (wr := [(ywa, .inl (cI, 6, .inl a8)), (yta, .inl (cI, 120, .inl tp))]) hF (c_X9_newWalk l D cI cJ cZ cS ta sa sv H.size h0 ys yk yo yt mk0 yfa yfe mL mS mM yro yhe ygr mF mC mY yta mz (nf bb mz (nx bb mz (nx bb mz (nx bb mz (mSt bb mz (nx bb mz u8)))))) (nx bb mz (nx bb mz (nx bb mz (nx bb mz (mSt bb mz (nx bb mz u8)))))) (nI (num bb (nf bb mz (nx bb mz (nx bb mz (mSt bb mz (nx bb mz u8))))) (nx bb mz (nx bb mz (nx bb mz (mSt bb mz (nx bb mz u8))))))) 0 ywa ybi ysi ynu ymo ms P Rn Wn fae fal fau fao farn farp fak fawn fawp fat fas z_337 z_338 (mV bb mz (nx bb mz u8)) (nI (num bb (nf bb mz (nx bb mz (nx bb mz (mSt bb mz (nx bb mz u8))))) (nx bb mz (nx bb mz (nx bb mz (mSt bb mz (nx bb mz u8))))))) (by omega) (by omega) (by omega) hs0 hs1 hs2 hsS hsM hsp hsr hsw hsR hsG) kv_X9_196 ⟨rfl, rfl, Nat.le_of_ble_eq_true rfl, Nat.le_of_ble_eq_true rfl⟩ ⟨Nat.le_of_ble_eq_true rfl, Nat.le_of_ble_eq_true rfl⟩ hK hN hZ hP hD hS hA [2, 0] [1, 3] rfl rfl rfl rfl (by decide) 0 rfl rfl rfl rfl hl.1 rfl (Nat.le_of_ble_eq_true rfl) dX9_walkItem_203 (fun r_339 u_r_339 H locs hw_r_339 hP hD hS => ?_)
                        obtain ⟨ms2_340, rfl⟩ : ∃ z, z = u_r_339 := ⟨_, rfl⟩
                        try dsimp only at hw_r_339
                        obtain ⟨hw_r_339, i_341, i_342, i_343, i_344, i_345, i_346, i_347, i_348, i_349, i_350⟩ := hw_r_339
                        have hP : va_P D vwCl [(ywa, .inl (cI, 6, .inl a8)), (yta, .inl (cI, 120, .inl tp)), (h0, .inr (9, [.ref ys, .ref yk, .ref yo, .ref yt, .int mk0, .ref yfa, .ref yfe, .int mL, .int mS, .int mM, .ref yro, .ref yhe, .ref ygr, .int mF, .int mC, .int mY, .ref yta, .int (nI (mz)), .int (nI ((nf bb mz (nx bb mz (nx bb mz (nx bb mz (mSt bb mz (nx bb mz u8)))))))), .int (nI ((nx bb mz (nx bb mz (nx bb mz (nx bb mz (mSt bb mz (nx bb mz u8)))))))), .int (nI (num bb (nf bb mz (nx bb mz (nx bb mz (mSt bb mz (nx bb mz u8))))) (nx bb mz (nx bb mz (nx bb mz (mSt bb mz (nx bb mz u8))))))), .int 0, .ref ywa, .ref ybi, .ref ysi, .ref ynu, .ref ymo])), (ys, .inl (cI, 449, .inl ms2_340))] H := hP
                        have hD : va_D A [(ywa, .inl (cI, 6, .inl a8)), (yta, .inl (cI, 120, .inl tp)), (h0, .inr (9, [.ref ys, .ref yk, .ref yo, .ref yt, .int mk0, .ref yfa, .ref yfe, .int mL, .int mS, .int mM, .ref yro, .ref yhe, .ref ygr, .int mF, .int mC, .int mY, .ref yta, .int (nI (mz)), .int (nI ((nf bb mz (nx bb mz (nx bb mz (nx bb mz (mSt bb mz (nx bb mz u8)))))))), .int (nI ((nx bb mz (nx bb mz (nx bb mz (nx bb mz (mSt bb mz (nx bb mz u8)))))))), .int (nI (num bb (nf bb mz (nx bb mz (nx bb mz (mSt bb mz (nx bb mz u8))))) (nx bb mz (nx bb mz (nx bb mz (mSt bb mz (nx bb mz u8))))))), .int 0, .ref ywa, .ref ybi, .ref ysi, .ref ynu, .ref ymo])), (ys, .inl (cI, 449, .inl ms2_340))] := hD
                        subst hw_r_339
                        refine lv_imul hx hb dX9_walkItem_206 ?_
                        refine xl_i (y := nI (9 * Wn)) (pk_mul 9 Wn) ?_
                        refine lv_iadd hx hb dX9_walkItem_207 ?_
                        refine xl_i (y := nI (377 + (9 * Wn))) (nI_add 377 (9 * Wn)) ?_
                        refine lv_istore (lv' := [(4, .int (nI (377 + (9 * Wn)))), (3, .int (nI (num bb (nf bb mz (nx bb mz (nx bb mz (mSt bb mz (nx bb mz u8))))) (nx bb mz (nx bb mz (nx bb mz (mSt bb mz (nx bb mz u8)))))))), (2, .int (mV bb mz (nx bb mz u8))), (1, .int (nI (n8))), (0, .ref h0)]) hx hb dX9_walkItem_208 hl (by decide) rfl (fun ls hl => ?_)
                        refine lv_aload_n hx hb dX9_walkItem_210 rfl (lv_at hl 4 rfl) ?_
                        refine xg hF kf_X9_7 hK hP 2 rfl rfl dX9_walkItem_211 ?_
                        refine lv_iload hx hb dX9_walkItem_214 (lv_at hl 0 rfl) ?_
                        refine lv_iload_n hx hb dX9_walkItem_216 rfl (lv_at hl 3 rfl) ?_
                        refine va_iast hx hb hK hP hD hS 3 0 rfl rfl (vp_in_nI (show 377 + (9 * Wn) < 449 by omega) (by decide)) dX9_walkItem_217 (fun H locs hP hD hS => ?_)
                        rw [nI_clamp (show 377 + (9 * Wn) < 2 ^ 31 by omega)] at hP hD
                        obtain ⟨f_351, ef_351⟩ : ∃ g, g = upd ms2_340 (377 + (9 * Wn)) (nI (n8)) := ⟨_, rfl⟩
                        rw [← ef_351] at hP hD
                        have k0_f_351 : f_351 0 = nI P := by rw [ef_351]; exact (pk_un (show 0 ≠ (377 + (9 * Wn)) by omega)).trans i_341
                        have k1_f_351 : f_351 1 = nI Rn := by rw [ef_351]; exact (pk_un (show 1 ≠ (377 + (9 * Wn)) by omega)).trans i_342
                        have k2_f_351 : f_351 2 = nI (Wn + 1) := by rw [ef_351]; exact (pk_un (show 2 ≠ (377 + (9 * Wn)) by omega)).trans i_343
                        have kS_f_351 : SI f_351 := by rw [ef_351]; exact SI.upd i_344 (okS.wl (w := Wn) (q := n8) (by omega) (by omega) (by omega))
                        have kM_f_351 : MI f_351 := by rw [ef_351]; exact MI.upd i_345 (okM.out (show (377 + (9 * Wn)) < 13 ∨ 113 ≤ (377 + (9 * Wn)) by omega))
                        have kR_f_351 : RI Rn f_351 := by rw [ef_351]; exact RI.upd i_349 (fun r9 hr9 e9 => by omega)
                        have kG_f_351 : FR P f_351 fae fal fau fao farn farp fak (upd (upd fawn Wn 2) (Wn) (nI (n8))) (upd (upd fawp (Wn * 6 + 0) (nI z_337)) (Wn * 6 + 1) (nI z_338)) (upd fat Wn (mV bb mz (nx bb mz u8))) (upd fas Wn (nI (num bb (nf bb mz (nx bb mz (nx bb mz (mSt bb mz (nx bb mz u8))))) (nx bb mz (nx bb mz (nx bb mz (mSt bb mz (nx bb mz u8)))))))) := by rw [ef_351]; exact FR.pwn i_350 (show Wn < 8 by omega) (by omega)
                        have hP : va_P D vwCl [(ywa, .inl (cI, 6, .inl a8)), (yta, .inl (cI, 120, .inl tp)), (h0, .inr (9, [.ref ys, .ref yk, .ref yo, .ref yt, .int mk0, .ref yfa, .ref yfe, .int mL, .int mS, .int mM, .ref yro, .ref yhe, .ref ygr, .int mF, .int mC, .int mY, .ref yta, .int (nI (mz)), .int (nI ((nf bb mz (nx bb mz (nx bb mz (nx bb mz (mSt bb mz (nx bb mz u8)))))))), .int (nI ((nx bb mz (nx bb mz (nx bb mz (nx bb mz (mSt bb mz (nx bb mz u8)))))))), .int (nI (num bb (nf bb mz (nx bb mz (nx bb mz (mSt bb mz (nx bb mz u8))))) (nx bb mz (nx bb mz (nx bb mz (mSt bb mz (nx bb mz u8))))))), .int 0, .ref ywa, .ref ybi, .ref ysi, .ref ynu, .ref ymo])), (ys, .inl (cI, 449, .inl f_351))] H := hP
                        have hD : va_D A [(ywa, .inl (cI, 6, .inl a8)), (yta, .inl (cI, 120, .inl tp)), (h0, .inr (9, [.ref ys, .ref yk, .ref yo, .ref yt, .int mk0, .ref yfa, .ref yfe, .int mL, .int mS, .int mM, .ref yro, .ref yhe, .ref ygr, .int mF, .int mC, .int mY, .ref yta, .int (nI (mz)), .int (nI ((nf bb mz (nx bb mz (nx bb mz (nx bb mz (mSt bb mz (nx bb mz u8)))))))), .int (nI ((nx bb mz (nx bb mz (nx bb mz (nx bb mz (mSt bb mz (nx bb mz u8)))))))), .int (nI (num bb (nf bb mz (nx bb mz (nx bb mz (mSt bb mz (nx bb mz u8))))) (nx bb mz (nx bb mz (nx bb mz (mSt bb mz (nx bb mz u8))))))), .int 0, .ref ywa, .ref ybi, .ref ysi, .ref ynu, .ref ymo])), (ys, .inl (cI, 449, .inl f_351))] := hD
                        refine lv_iconst (v := 2) hx hb dX9_walkItem_218 (by decide) ?_
                        refine lv_istore (lv' := [(5, .int 2), (4, .int (nI (377 + (9 * Wn)))), (3, .int (nI (num bb (nf bb mz (nx bb mz (nx bb mz (mSt bb mz (nx bb mz u8))))) (nx bb mz (nx bb mz (nx bb mz (mSt bb mz (nx bb mz u8)))))))), (2, .int (mV bb mz (nx bb mz u8))), (1, .int (nI (n8))), (0, .ref h0)]) hx hb dX9_walkItem_219 hl (by decide) rfl (fun ls hl => ?_)
                        suffices loop_221 : ∀ (n_221 : Nat) (i : Nat) (s8 : Nat → Int32) (w8 : Nat → Int32) (H : Heap) (locs : List Loc) (ls : Array Slot), n8 - i < n_221 → (2 ≤ i) → (i ≤ n8) → (w8 = wkR bb mz u9 Wn i fawp) → (s8 0 = nI P) → (s8 1 = nI Rn) → (s8 2 = nI (Wn + 1)) → (SI s8) → (MI s8) → (P ≤ 10) → (Rn ≤ 8) → (Wn + 1 ≤ 8) → (RI Rn s8) → (FR P s8 fae fal fau fao farn farp fak (upd (upd fawn Wn 2) (Wn) (nI (n8))) w8 (upd fat Wn (mV bb mz (nx bb mz u8))) (upd fas Wn (nI (num bb (nf bb mz (nx bb mz (nx bb mz (mSt bb mz (nx bb mz u8))))) (nx bb mz (nx bb mz (nx bb mz (mSt bb mz (nx bb mz u8))))))))) → va_P D vwCl [(ywa, .inl (cI, 6, .inl a8)), (yta, .inl (cI, 120, .inl tp)), (h0, .inr (9, [.ref ys, .ref yk, .ref yo, .ref yt, .int mk0, .ref yfa, .ref yfe, .int mL, .int mS, .int mM, .ref yro, .ref yhe, .ref ygr, .int mF, .int mC, .int mY, .ref yta, .int (nI (mz)), .int (nI ((nf bb mz (nx bb mz (nx bb mz (nx bb mz (mSt bb mz (nx bb mz u8)))))))), .int (nI ((nx bb mz (nx bb mz (nx bb mz (nx bb mz (mSt bb mz (nx bb mz u8)))))))), .int (nI (num bb (nf bb mz (nx bb mz (nx bb mz (mSt bb mz (nx bb mz u8))))) (nx bb mz (nx bb mz (nx bb mz (mSt bb mz (nx bb mz u8))))))), .int 0, .ref ywa, .ref ybi, .ref ysi, .ref ynu, .ref ymo])), (ys, .inl (cI, 449, .inl s8))] H → va_D A [(ywa, .inl (cI, 6, .inl a8)), (yta, .inl (cI, 120, .inl tp)), (h0, .inr (9, [.ref ys, .ref yk, .ref yo, .ref yt, .int mk0, .ref yfa, .ref yfe, .int mL, .int mS, .int mM, .ref yro, .ref yhe, .ref ygr, .int mF, .int mC, .int mY, .ref yta, .int (nI (mz)), .int (nI ((nf bb mz (nx bb mz (nx bb mz (nx bb mz (mSt bb mz (nx bb mz u8)))))))), .int (nI ((nx bb mz (nx bb mz (nx bb mz (nx bb mz (mSt bb mz (nx bb mz u8)))))))), .int (nI (num bb (nf bb mz (nx bb mz (nx bb mz (mSt bb mz (nx bb mz u8))))) (nx bb mz (nx bb mz (nx bb mz (mSt bb mz (nx bb mz u8))))))), .int 0, .ref ywa, .ref ybi, .ref ysi, .ref ynu, .ref ymo])), (ys, .inl (cI, 449, .inl s8))] → va_S A s.heap H locs → lv_has ls 6 [(5, .int (nI (i))), (4, .int (nI (377 + (9 * Wn)))), (3, .int (nI (num bb (nf bb mz (nx bb mz (nx bb mz (mSt bb mz (nx bb mz u8))))) (nx bb mz (nx bb mz (nx bb mz (mSt bb mz (nx bb mz u8)))))))), (2, .int (mV bb mz (nx bb mz u8))), (1, .int (nI (n8))), (0, .ref h0)] → W p l e ({ frames := 6, cells := 0, slots := 0, locals := 136 }) s m ([.ref h0] : List Value).toArray below meth c H locs 0 0 (MQ below (XQv (fun (u : Nat × Int32 × Int32 × (Nat → Int32) × Nat × (Nat → Int32) × (Nat → Int32) × (Nat → Int32) × (Nat → Int32) × (Nat → Int32)) => match u with | (u2, w2, v2, ms2, W2, wa2, gwn, gwp, gt, gs) => (((spWalk bb mz u9 P Wn = Sum.inr u2) ∧ (w2 = 0) ∧ (W2 = Wn + 1) ∧ (nx bb mz u9 ≤ u2) ∧ (gwn = upd fawn Wn (nI (wkC bb mz u9))) ∧ (gwp = wkR bb mz u9 Wn (wkC bb mz u9) fawp) ∧ (gt = upd fat Wn (wkTo bb mz u9)) ∧ (gs = upd fas Wn (wkSl bb mz u9))) ∨ ((spWalk bb mz u9 P Wn = Sum.inl u2) ∧ (w2 = 1))) ∧ (u2 ≤ mz) ∧ (ms2 0 = nI P) ∧ (ms2 1 = nI Rn) ∧ (ms2 2 = nI W2) ∧ (SI ms2) ∧ (MI ms2) ∧ (P ≤ 10) ∧ (Rn ≤ 8) ∧ (W2 ≤ 8) ∧ (RI Rn ms2) ∧ (FR P ms2 fae fal fau fao farn farp fak gwn gwp gt gs)) D (fun (u : Nat × Int32 × Int32 × (Nat → Int32) × Nat × (Nat → Int32) × (Nat → Int32) × (Nat → Int32) × (Nat → Int32) × (Nat → Int32)) => match u with | (u2, w2, v2, ms2, W2, wa2, gwn, gwp, gt, gs) => [(h0, .inr (9, [.ref ys, .ref yk, .ref yo, .ref yt, .int mk0, .ref yfa, .ref yfe, .int mL, .int mS, .int mM, .ref yro, .ref yhe, .ref ygr, .int mF, .int mC, .int mY, .ref yta, .int (nI (mz)), .int (nI (nf bb mz u2)), .int (nI (nx bb mz u2)), .int v2, .int w2, .ref ywa, .ref ybi, .ref ysi, .ref ynu, .ref ymo])), (ys, .inl (cI, 449, .inl ms2)), (yta, .inl (cI, 120, .inl tp)), (ywa, .inl (cI, 6, .inl wa2))]) A) ([.ref h0] : List Value).toArray s 0 0 A) (F0 m 221 ls []) by
                          exact loop_221 _ 2 f_351 (upd (upd fawp (Wn * 6 + 0) (nI z_337)) (Wn * 6 + 1) (nI z_338)) _ _ _ (Nat.lt_succ_self _) (by omega) (by omega) (wkR_2 (ez_337.symm.trans (hA9 0 (by omega))) (ez_338.symm.trans (hA9 1 (by omega)))) k0_f_351 k1_f_351 k2_f_351 kS_f_351 kM_f_351 i_346 i_347 i_348 kR_f_351 kG_f_351 hP hD hS (lv_sub hl [0, 1, 2, 3, 4, 5] rfl)
                        intro n_221
                        induction n_221 with
                        | zero =>
                          intro i s8 w8 H locs ls hm_221
                          exact absurd hm_221 (Nat.not_lt_zero _)
                        | succ n_221 ih_221 =>
                          intro i s8 w8 H locs ls hm_221 hi2 hi hw8 ht0 ht1 ht2 htS htM htp htr htw htR htG hP hD hS hl
                          refine lv_iload hx hb dX9_walkItem_221 (lv_at hl 0 rfl) ?_
                          refine lv_iload_n hx hb dX9_walkItem_223 rfl (lv_at hl 4 rfl) ?_
                          refine lv_icmp_ge (tgt := 252) hx hb dX9_walkItem_224 (by decide) (fun c_352 => ?_) (fun c_352 => ?_)
                          · skip
                            have nc_352 : n8 ≤ i := xn_le (a := n8) (b := i) (by omega) (by omega) c_352
                            exact W.vret hx hb hr (fun t ht hW => ⟨⟨(nx bb mz (nx bb mz (nx bb mz (mSt bb mz (nx bb mz u8)))), 0, (nI (num bb (nf bb mz (nx bb mz (nx bb mz (mSt bb mz (nx bb mz u8))))) (nx bb mz (nx bb mz (nx bb mz (mSt bb mz (nx bb mz u8))))))), s8, Wn + 1, a8, upd (upd fawn Wn 2) (Wn) (nI (n8)), w8, upd fat Wn (mV bb mz (nx bb mz u8)), upd fas Wn (nI (num bb (nf bb mz (nx bb mz (nx bb mz (mSt bb mz (nx bb mz u8))))) (nx bb mz (nx bb mz (nx bb mz (mSt bb mz (nx bb mz u8)))))))), rfl, ⟨Or.inl ⟨hL8.trans ((spSt_end (by omega) (kd_nz (by omega))).trans ((cif_pos (show 2 ≤ n8 by omega)).trans ((cif_pos (h_298)).trans ((cif_pos (h_309)).trans ((cif_pos (h_317)).trans (cif_pos (okR_99.mp h_329))))))), rfl, rfl, by omega, (upd_upd.trans (congrArg (fun n => upd fawn Wn (nI n)) (hN8.trans (wkn_end (by omega) (kd_nz (by omega)))).symm)), (hw8.trans (congrArg (fun n => wkR bb mz u9 Wn n fawp) ((show i = n8 by omega).trans (hN8.trans (wkn_end (by omega) (kd_nz (by omega)))).symm))), (congrArg (upd fat Wn) (wkTo_e (wkE_e (hN8.trans (wkn_end (by omega) (kd_nz (by omega)))) hu8x))), (congrArg (upd fas Wn) ((congrArg nI (tC_99 h_329).symm).trans (wkSl_y (wkE_e (hN8.trans (wkn_end (by omega) (kd_nz (by omega)))) hu8x) h_317)))⟩, (by first | assumption | omega), ht0, ht1, ht2, htS, htM, htp, htr, htw, htR, htG⟩, by rw [ht]; exact hP.sub [2, 3, 1, 0] rfl, hD.sub [2, 3, 1, 0] (by decide) rfl⟩, hS.F ht⟩) hS.2.2 dX9_walkItem_252 hlk
                          · skip
                            have nc_352 : i < n8 := xn_nle (a := n8) (b := i) (by omega) (by omega) c_352
                            refine lv_aload_n hx hb dX9_walkItem_227 rfl (lv_at hl 5 rfl) ?_
                            refine xg hF kf_X9_7 hK hP 2 rfl rfl dX9_walkItem_228 ?_
                            refine lv_iload hx hb dX9_walkItem_231 (lv_at hl 1 rfl) ?_
                            refine lv_iconst (v := 3) hx hb dX9_walkItem_233 (by decide) ?_
                            refine lv_iadd hx hb dX9_walkItem_234 ?_
                            refine xl_i (y := nI (377 + (9 * Wn) + 3)) (nI_add (377 + (9 * Wn)) 3) ?_
                            refine lv_iload hx hb dX9_walkItem_235 (lv_at hl 0 rfl) ?_
                            refine lv_iadd hx hb dX9_walkItem_237 ?_
                            refine xl_i (y := nI (377 + (9 * Wn) + 3 + i)) (nI_add (377 + (9 * Wn) + 3) i) ?_
                            refine lv_aload_n hx hb dX9_walkItem_238 rfl (lv_at hl 5 rfl) ?_
                            refine xg hF kf_X9_40 hK hP 2 rfl rfl dX9_walkItem_239 ?_
                            refine lv_iload hx hb dX9_walkItem_242 (lv_at hl 0 rfl) ?_
                            refine va_iald hx hb hK hP 0 0 rfl rfl (vp_in_nI (show i < 6 by omega) (by decide)) dX9_walkItem_244 ?_
                            refine xl_i (y := a8 i) (congrArg a8 (nI_clamp (show i < 2 ^ 31 by omega))) ?_
                            obtain ⟨z_353, ez_353, hz_3530⟩ := wk_A.get hA8 rfl (show i < n8 by omega)
                            refine xl_i (y := nI (z_353)) ez_353 ?_
                            refine va_iast hx hb hK hP hD hS 3 0 rfl rfl (vp_in_nI (show 377 + (9 * Wn) + 3 + i < 449 by omega) (by decide)) dX9_walkItem_245 (fun H locs hP hD hS => ?_)
                            rw [nI_clamp (show 377 + (9 * Wn) + 3 + i < 2 ^ 31 by omega)] at hP hD
                            obtain ⟨f_354, ef_354⟩ : ∃ g, g = upd s8 (377 + (9 * Wn) + 3 + i) (nI (z_353)) := ⟨_, rfl⟩
                            rw [← ef_354] at hP hD
                            have k0_f_354 : f_354 0 = nI P := by rw [ef_354]; exact (pk_un (show 0 ≠ (377 + (9 * Wn) + 3 + i) by omega)).trans ht0
                            have k1_f_354 : f_354 1 = nI Rn := by rw [ef_354]; exact (pk_un (show 1 ≠ (377 + (9 * Wn) + 3 + i) by omega)).trans ht1
                            have k2_f_354 : f_354 2 = nI (Wn + 1) := by rw [ef_354]; exact (pk_un (show 2 ≠ (377 + (9 * Wn) + 3 + i) by omega)).trans ht2
                            have kS_f_354 : SI f_354 := by rw [ef_354]; exact SI.upd htS (okS.ws (w := Wn) (i := i) (by omega) (by omega) (by omega) (show z_353 < 10 by omega))
                            have kM_f_354 : MI f_354 := by rw [ef_354]; exact MI.upd htM (okM.out (show (377 + (9 * Wn) + 3 + i) < 13 ∨ 113 ≤ (377 + (9 * Wn) + 3 + i) by omega))
                            have kR_f_354 : RI Rn f_354 := by rw [ef_354]; exact RI.upd htR (fun r9 hr9 e9 => by omega)
                            have kG_f_354 : FR P f_354 fae fal fau fao farn farp fak (upd (upd fawn Wn 2) (Wn) (nI (n8))) (upd w8 (Wn * 6 + i) (nI (z_353))) (upd fat Wn (mV bb mz (nx bb mz u8))) (upd fas Wn (nI (num bb (nf bb mz (nx bb mz (nx bb mz (mSt bb mz (nx bb mz u8))))) (nx bb mz (nx bb mz (nx bb mz (mSt bb mz (nx bb mz u8)))))))) := by rw [ef_354]; exact FR.pwp htG (show Wn < 8 by omega) (show i < 6 by omega) (by omega)
                            have hP : va_P D vwCl [(ywa, .inl (cI, 6, .inl a8)), (yta, .inl (cI, 120, .inl tp)), (h0, .inr (9, [.ref ys, .ref yk, .ref yo, .ref yt, .int mk0, .ref yfa, .ref yfe, .int mL, .int mS, .int mM, .ref yro, .ref yhe, .ref ygr, .int mF, .int mC, .int mY, .ref yta, .int (nI (mz)), .int (nI ((nf bb mz (nx bb mz (nx bb mz (nx bb mz (mSt bb mz (nx bb mz u8)))))))), .int (nI ((nx bb mz (nx bb mz (nx bb mz (nx bb mz (mSt bb mz (nx bb mz u8)))))))), .int (nI (num bb (nf bb mz (nx bb mz (nx bb mz (mSt bb mz (nx bb mz u8))))) (nx bb mz (nx bb mz (nx bb mz (mSt bb mz (nx bb mz u8))))))), .int 0, .ref ywa, .ref ybi, .ref ysi, .ref ynu, .ref ymo])), (ys, .inl (cI, 449, .inl f_354))] H := hP
                            have hD : va_D A [(ywa, .inl (cI, 6, .inl a8)), (yta, .inl (cI, 120, .inl tp)), (h0, .inr (9, [.ref ys, .ref yk, .ref yo, .ref yt, .int mk0, .ref yfa, .ref yfe, .int mL, .int mS, .int mM, .ref yro, .ref yhe, .ref ygr, .int mF, .int mC, .int mY, .ref yta, .int (nI (mz)), .int (nI ((nf bb mz (nx bb mz (nx bb mz (nx bb mz (mSt bb mz (nx bb mz u8)))))))), .int (nI ((nx bb mz (nx bb mz (nx bb mz (nx bb mz (mSt bb mz (nx bb mz u8)))))))), .int (nI (num bb (nf bb mz (nx bb mz (nx bb mz (mSt bb mz (nx bb mz u8))))) (nx bb mz (nx bb mz (nx bb mz (mSt bb mz (nx bb mz u8))))))), .int 0, .ref ywa, .ref ybi, .ref ysi, .ref ynu, .ref ymo])), (ys, .inl (cI, 449, .inl f_354))] := hD
                            refine lv_iinc (v := nI (i + 1)) (lv' := [(5, .int (nI (i + 1))), (4, .int (nI (377 + (9 * Wn)))), (3, .int (nI (num bb (nf bb mz (nx bb mz (nx bb mz (mSt bb mz (nx bb mz u8))))) (nx bb mz (nx bb mz (nx bb mz (mSt bb mz (nx bb mz u8)))))))), (2, .int (mV bb mz (nx bb mz u8))), (1, .int (nI (n8))), (0, .ref h0)]) hx hb dX9_walkItem_246 hl (k := 0) rfl (nI_1 (i)) (by decide) rfl (fun ls hl => ?_)
                            refine lv_goto (tgt := 221) hx hb dX9_walkItem_249 (by decide) ?_
                            exact ih_221 (i + 1) f_354 (upd w8 (Wn * 6 + i) (nI (z_353))) _ _ _ (by omega) (by omega) (by omega) (by rw [hw8]; exact wkR_put rfl (ez_353.symm.trans (hA9 i (by omega)))) k0_f_354 k1_f_354 k2_f_354 kS_f_354 kM_f_354 htp htr htw kR_f_354 kG_f_354 (hP.sub [0, 1, 2, 3] rfl) (hD.sub [0, 1, 2, 3] (by decide) rfl) hS (lv_sub hl [0, 1, 2, 3, 4, 5] rfl)
                      · skip
                        subst h_334
                        subst h_335
                        refine lv_aload_n hx hb dX9_walkItem_171 rfl (lv_at hl 3 rfl) ?_
                        refine xg hF kf_X9_275 hK hP 2 rfl rfl dX9_walkItem_172 ?_
                        refine lv_istore_n (lv' := [(3, .int v2_326), (2, .int (mV bb mz (nx bb mz u8))), (1, .int (nI (n8))), (0, .ref h0)]) hx hb dX9_walkItem_175 rfl hl (by decide) rfl (fun ls hl => ?_)
                        refine lv_aload_n hx hb dX9_walkItem_176 rfl (lv_at hl 3 rfl) ?_
                        refine xg hF kf_X9_266 hK hP 2 rfl rfl dX9_walkItem_177 ?_
                        refine lv_if_ne (tgt := 252) hx hb dX9_walkItem_180 (by decide) (fun c_355 => ?_) (fun c_355 => absurd c_355 (by decide))
                        exact W.vret hx hb hr (fun t ht hW => ⟨⟨(nx bb mz (nx bb mz (mSt bb mz (nx bb mz u8))), 1, v2_326, ms, Wn, a8, fawn, fawp, fat, fas), rfl, ⟨Or.inr ⟨hL8.trans ((spSt_end (by omega) (kd_nz (by omega))).trans ((cif_pos (show 2 ≤ n8 by omega)).trans ((cif_pos (h_298)).trans ((cif_pos (h_309)).trans ((cif_pos (h_317)).trans (cif_neg (fun h => h_333 (okR_99.mpr h)))))))), rfl⟩, (by first | assumption | omega), hs0, hs1, hs2, hsS, hsM, hsp, hsr, hsw, hsR, hsG⟩, by rw [ht]; exact hP.sub [2, 0, 3, 1] rfl, hD.sub [2, 0, 3, 1] (by decide) rfl⟩, hS.F ht⟩) hS.2.2 dX9_walkItem_252 hlk
                    · skip
                      refine lv_if_eq (tgt := 176) hx hb dX9_walkItem_156 (by decide) (fun c_356 => ?_) (fun c_356 => absurd (by decide) c_356)
                      refine lv_aload_n hx hb dX9_walkItem_176 rfl (lv_at hl 3 rfl) ?_
                      refine xg hF kf_X9_266 hK hP 2 rfl rfl dX9_walkItem_177 ?_
                      refine lv_if_ne (tgt := 252) hx hb dX9_walkItem_180 (by decide) (fun c_357 => absurd (by decide) c_357) (fun c_357 => ?_)
                      refine lv_sipush (v := 377) hx hb dX9_walkItem_183 (by decide) ?_
                      refine lv_bipush (v := 9) hx hb dX9_walkItem_186 (by decide) ?_
                      refine lv_aload_n hx hb dX9_walkItem_188 rfl (lv_at hl 3 rfl) ?_
                      refine lv_aload_n hx hb dX9_walkItem_189 rfl (lv_at hl 3 rfl) ?_
                      refine xg hF kf_X9_40 hK hP 2 rfl rfl dX9_walkItem_190 ?_
                      refine lv_iconst (v := 0) hx hb dX9_walkItem_193 (by decide) ?_
                      refine va_iald hx hb hK hP 1 0 rfl rfl (xin 0 6 (by decide) (by decide)) dX9_walkItem_194 ?_
                      refine xl_i (y := a8 0) (congrArg a8 rfl) ?_
                      obtain ⟨z_358, ez_358, hz_3580⟩ := wk_A.get hA8 rfl (show 0 < n8 by omega)
                      refine xl_i (y := nI (z_358)) ez_358 ?_
                      refine lv_aload_n hx hb dX9_walkItem_195 rfl (lv_at hl 3 rfl) ?_
                      refine xg hF kf_X9_40 hK hP 2 rfl rfl dX9_walkItem_196 ?_
                      refine lv_iconst (v := 1) hx hb dX9_walkItem_199 (by decide) ?_
                      refine va_iald hx hb hK hP 1 0 rfl rfl (xin 1 6 (by decide) (by decide)) dX9_walkItem_200 ?_
                      refine xl_i (y := a8 1) (congrArg a8 rfl) ?_
                      obtain ⟨z_359, ez_359, hz_3590⟩ := wk_A.get hA8 rfl (show 1 < n8 by omega)
                      refine xl_i (y := nI (z_359)) ez_359 ?_
                      refine lv_iload_n hx hb dX9_walkItem_201 rfl (lv_at hl 1 rfl) ?_
                      refine lv_iload_n hx hb dX9_walkItem_202 rfl (lv_at hl 0 rfl) ?_
                      refine xc_Vi (wr := [(ywa, .inl (cI, 6, .inl a8)), (yta, .inl (cI, 120, .inl tp))]) hF (c_X9_newWalk l D cI cJ cZ cS ta sa sv H.size h0 ys yk yo yt mk0 yfa yfe mL mS mM yro yhe ygr mF mC mY yta mz (nf bb mz (nx bb mz (mSt bb mz (nx bb mz u8)))) (nx bb mz (nx bb mz (mSt bb mz (nx bb mz u8)))) (mV bb mz (nx bb mz u8)) 0 ywa ybi ysi ynu ymo ms P Rn Wn fae fal fau fao farn farp fak fawn fawp fat fas z_358 z_359 (mV bb mz (nx bb mz u8)) 0 (by omega) (by omega) (by omega) hs0 hs1 hs2 hsS hsM hsp hsr hsw hsR hsG) kv_X9_196 ⟨rfl, rfl, Nat.le_of_ble_eq_true rfl, Nat.le_of_ble_eq_true rfl⟩ ⟨Nat.le_of_ble_eq_true rfl, Nat.le_of_ble_eq_true rfl⟩ hK hN hZ hP hD hS hA [2, 0] [1, 3] rfl rfl rfl rfl (by decide) 0 rfl rfl rfl rfl hl.1 rfl (Nat.le_of_ble_eq_true rfl) dX9_walkItem_203 (fun r_360 u_r_360 H locs hw_r_360 hP hD hS => ?_)
                      obtain ⟨ms2_361, rfl⟩ : ∃ z, z = u_r_360 := ⟨_, rfl⟩
                      try dsimp only at hw_r_360
                      obtain ⟨hw_r_360, i_362, i_363, i_364, i_365, i_366, i_367, i_368, i_369, i_370, i_371⟩ := hw_r_360
                      have hP : va_P D vwCl [(ywa, .inl (cI, 6, .inl a8)), (yta, .inl (cI, 120, .inl tp)), (h0, .inr (9, [.ref ys, .ref yk, .ref yo, .ref yt, .int mk0, .ref yfa, .ref yfe, .int mL, .int mS, .int mM, .ref yro, .ref yhe, .ref ygr, .int mF, .int mC, .int mY, .ref yta, .int (nI (mz)), .int (nI ((nf bb mz (nx bb mz (mSt bb mz (nx bb mz u8)))))), .int (nI ((nx bb mz (nx bb mz (mSt bb mz (nx bb mz u8)))))), .int (mV bb mz (nx bb mz u8)), .int 0, .ref ywa, .ref ybi, .ref ysi, .ref ynu, .ref ymo])), (ys, .inl (cI, 449, .inl ms2_361))] H := hP
                      have hD : va_D A [(ywa, .inl (cI, 6, .inl a8)), (yta, .inl (cI, 120, .inl tp)), (h0, .inr (9, [.ref ys, .ref yk, .ref yo, .ref yt, .int mk0, .ref yfa, .ref yfe, .int mL, .int mS, .int mM, .ref yro, .ref yhe, .ref ygr, .int mF, .int mC, .int mY, .ref yta, .int (nI (mz)), .int (nI ((nf bb mz (nx bb mz (mSt bb mz (nx bb mz u8)))))), .int (nI ((nx bb mz (nx bb mz (mSt bb mz (nx bb mz u8)))))), .int (mV bb mz (nx bb mz u8)), .int 0, .ref ywa, .ref ybi, .ref ysi, .ref ynu, .ref ymo])), (ys, .inl (cI, 449, .inl ms2_361))] := hD
                      subst hw_r_360
                      refine lv_imul hx hb dX9_walkItem_206 ?_
                      refine xl_i (y := nI (9 * Wn)) (pk_mul 9 Wn) ?_
                      refine lv_iadd hx hb dX9_walkItem_207 ?_
                      refine xl_i (y := nI (377 + (9 * Wn))) (nI_add 377 (9 * Wn)) ?_
                      refine lv_istore (lv' := [(4, .int (nI (377 + (9 * Wn)))), (3, .int 0), (2, .int (mV bb mz (nx bb mz u8))), (1, .int (nI (n8))), (0, .ref h0)]) hx hb dX9_walkItem_208 hl (by decide) rfl (fun ls hl => ?_)
                      refine lv_aload_n hx hb dX9_walkItem_210 rfl (lv_at hl 4 rfl) ?_
                      refine xg hF kf_X9_7 hK hP 2 rfl rfl dX9_walkItem_211 ?_
                      refine lv_iload hx hb dX9_walkItem_214 (lv_at hl 0 rfl) ?_
                      refine lv_iload_n hx hb dX9_walkItem_216 rfl (lv_at hl 3 rfl) ?_
                      refine va_iast hx hb hK hP hD hS 3 0 rfl rfl (vp_in_nI (show 377 + (9 * Wn) < 449 by omega) (by decide)) dX9_walkItem_217 (fun H locs hP hD hS => ?_)
                      rw [nI_clamp (show 377 + (9 * Wn) < 2 ^ 31 by omega)] at hP hD
                      obtain ⟨f_372, ef_372⟩ : ∃ g, g = upd ms2_361 (377 + (9 * Wn)) (nI (n8)) := ⟨_, rfl⟩
                      rw [← ef_372] at hP hD
                      have k0_f_372 : f_372 0 = nI P := by rw [ef_372]; exact (pk_un (show 0 ≠ (377 + (9 * Wn)) by omega)).trans i_362
                      have k1_f_372 : f_372 1 = nI Rn := by rw [ef_372]; exact (pk_un (show 1 ≠ (377 + (9 * Wn)) by omega)).trans i_363
                      have k2_f_372 : f_372 2 = nI (Wn + 1) := by rw [ef_372]; exact (pk_un (show 2 ≠ (377 + (9 * Wn)) by omega)).trans i_364
                      have kS_f_372 : SI f_372 := by rw [ef_372]; exact SI.upd i_365 (okS.wl (w := Wn) (q := n8) (by omega) (by omega) (by omega))
                      have kM_f_372 : MI f_372 := by rw [ef_372]; exact MI.upd i_366 (okM.out (show (377 + (9 * Wn)) < 13 ∨ 113 ≤ (377 + (9 * Wn)) by omega))
                      have kR_f_372 : RI Rn f_372 := by rw [ef_372]; exact RI.upd i_370 (fun r9 hr9 e9 => by omega)
                      have kG_f_372 : FR P f_372 fae fal fau fao farn farp fak (upd (upd fawn Wn 2) (Wn) (nI (n8))) (upd (upd fawp (Wn * 6 + 0) (nI z_358)) (Wn * 6 + 1) (nI z_359)) (upd fat Wn (mV bb mz (nx bb mz u8))) (upd fas Wn 0) := by rw [ef_372]; exact FR.pwn i_371 (show Wn < 8 by omega) (by omega)
                      have hP : va_P D vwCl [(ywa, .inl (cI, 6, .inl a8)), (yta, .inl (cI, 120, .inl tp)), (h0, .inr (9, [.ref ys, .ref yk, .ref yo, .ref yt, .int mk0, .ref yfa, .ref yfe, .int mL, .int mS, .int mM, .ref yro, .ref yhe, .ref ygr, .int mF, .int mC, .int mY, .ref yta, .int (nI (mz)), .int (nI ((nf bb mz (nx bb mz (mSt bb mz (nx bb mz u8)))))), .int (nI ((nx bb mz (nx bb mz (mSt bb mz (nx bb mz u8)))))), .int (mV bb mz (nx bb mz u8)), .int 0, .ref ywa, .ref ybi, .ref ysi, .ref ynu, .ref ymo])), (ys, .inl (cI, 449, .inl f_372))] H := hP
                      have hD : va_D A [(ywa, .inl (cI, 6, .inl a8)), (yta, .inl (cI, 120, .inl tp)), (h0, .inr (9, [.ref ys, .ref yk, .ref yo, .ref yt, .int mk0, .ref yfa, .ref yfe, .int mL, .int mS, .int mM, .ref yro, .ref yhe, .ref ygr, .int mF, .int mC, .int mY, .ref yta, .int (nI (mz)), .int (nI ((nf bb mz (nx bb mz (mSt bb mz (nx bb mz u8)))))), .int (nI ((nx bb mz (nx bb mz (mSt bb mz (nx bb mz u8)))))), .int (mV bb mz (nx bb mz u8)), .int 0, .ref ywa, .ref ybi, .ref ysi, .ref ynu, .ref ymo])), (ys, .inl (cI, 449, .inl f_372))] := hD
                      refine lv_iconst (v := 2) hx hb dX9_walkItem_218 (by decide) ?_
                      refine lv_istore (lv' := [(5, .int 2), (4, .int (nI (377 + (9 * Wn)))), (3, .int 0), (2, .int (mV bb mz (nx bb mz u8))), (1, .int (nI (n8))), (0, .ref h0)]) hx hb dX9_walkItem_219 hl (by decide) rfl (fun ls hl => ?_)
                      suffices loop_221 : ∀ (n_221 : Nat) (i : Nat) (s8 : Nat → Int32) (w8 : Nat → Int32) (H : Heap) (locs : List Loc) (ls : Array Slot), n8 - i < n_221 → (2 ≤ i) → (i ≤ n8) → (w8 = wkR bb mz u9 Wn i fawp) → (s8 0 = nI P) → (s8 1 = nI Rn) → (s8 2 = nI (Wn + 1)) → (SI s8) → (MI s8) → (P ≤ 10) → (Rn ≤ 8) → (Wn + 1 ≤ 8) → (RI Rn s8) → (FR P s8 fae fal fau fao farn farp fak (upd (upd fawn Wn 2) (Wn) (nI (n8))) w8 (upd fat Wn (mV bb mz (nx bb mz u8))) (upd fas Wn 0)) → va_P D vwCl [(ywa, .inl (cI, 6, .inl a8)), (yta, .inl (cI, 120, .inl tp)), (h0, .inr (9, [.ref ys, .ref yk, .ref yo, .ref yt, .int mk0, .ref yfa, .ref yfe, .int mL, .int mS, .int mM, .ref yro, .ref yhe, .ref ygr, .int mF, .int mC, .int mY, .ref yta, .int (nI (mz)), .int (nI ((nf bb mz (nx bb mz (mSt bb mz (nx bb mz u8)))))), .int (nI ((nx bb mz (nx bb mz (mSt bb mz (nx bb mz u8)))))), .int (mV bb mz (nx bb mz u8)), .int 0, .ref ywa, .ref ybi, .ref ysi, .ref ynu, .ref ymo])), (ys, .inl (cI, 449, .inl s8))] H → va_D A [(ywa, .inl (cI, 6, .inl a8)), (yta, .inl (cI, 120, .inl tp)), (h0, .inr (9, [.ref ys, .ref yk, .ref yo, .ref yt, .int mk0, .ref yfa, .ref yfe, .int mL, .int mS, .int mM, .ref yro, .ref yhe, .ref ygr, .int mF, .int mC, .int mY, .ref yta, .int (nI (mz)), .int (nI ((nf bb mz (nx bb mz (mSt bb mz (nx bb mz u8)))))), .int (nI ((nx bb mz (nx bb mz (mSt bb mz (nx bb mz u8)))))), .int (mV bb mz (nx bb mz u8)), .int 0, .ref ywa, .ref ybi, .ref ysi, .ref ynu, .ref ymo])), (ys, .inl (cI, 449, .inl s8))] → va_S A s.heap H locs → lv_has ls 6 [(5, .int (nI (i))), (4, .int (nI (377 + (9 * Wn)))), (3, .int 0), (2, .int (mV bb mz (nx bb mz u8))), (1, .int (nI (n8))), (0, .ref h0)] → W p l e ({ frames := 6, cells := 0, slots := 0, locals := 136 }) s m ([.ref h0] : List Value).toArray below meth c H locs 0 0 (MQ below (XQv (fun (u : Nat × Int32 × Int32 × (Nat → Int32) × Nat × (Nat → Int32) × (Nat → Int32) × (Nat → Int32) × (Nat → Int32) × (Nat → Int32)) => match u with | (u2, w2, v2, ms2, W2, wa2, gwn, gwp, gt, gs) => (((spWalk bb mz u9 P Wn = Sum.inr u2) ∧ (w2 = 0) ∧ (W2 = Wn + 1) ∧ (nx bb mz u9 ≤ u2) ∧ (gwn = upd fawn Wn (nI (wkC bb mz u9))) ∧ (gwp = wkR bb mz u9 Wn (wkC bb mz u9) fawp) ∧ (gt = upd fat Wn (wkTo bb mz u9)) ∧ (gs = upd fas Wn (wkSl bb mz u9))) ∨ ((spWalk bb mz u9 P Wn = Sum.inl u2) ∧ (w2 = 1))) ∧ (u2 ≤ mz) ∧ (ms2 0 = nI P) ∧ (ms2 1 = nI Rn) ∧ (ms2 2 = nI W2) ∧ (SI ms2) ∧ (MI ms2) ∧ (P ≤ 10) ∧ (Rn ≤ 8) ∧ (W2 ≤ 8) ∧ (RI Rn ms2) ∧ (FR P ms2 fae fal fau fao farn farp fak gwn gwp gt gs)) D (fun (u : Nat × Int32 × Int32 × (Nat → Int32) × Nat × (Nat → Int32) × (Nat → Int32) × (Nat → Int32) × (Nat → Int32) × (Nat → Int32)) => match u with | (u2, w2, v2, ms2, W2, wa2, gwn, gwp, gt, gs) => [(h0, .inr (9, [.ref ys, .ref yk, .ref yo, .ref yt, .int mk0, .ref yfa, .ref yfe, .int mL, .int mS, .int mM, .ref yro, .ref yhe, .ref ygr, .int mF, .int mC, .int mY, .ref yta, .int (nI (mz)), .int (nI (nf bb mz u2)), .int (nI (nx bb mz u2)), .int v2, .int w2, .ref ywa, .ref ybi, .ref ysi, .ref ynu, .ref ymo])), (ys, .inl (cI, 449, .inl ms2)), (yta, .inl (cI, 120, .inl tp)), (ywa, .inl (cI, 6, .inl wa2))]) A) ([.ref h0] : List Value).toArray s 0 0 A) (F0 m 221 ls []) by
                        exact loop_221 _ 2 f_372 (upd (upd fawp (Wn * 6 + 0) (nI z_358)) (Wn * 6 + 1) (nI z_359)) _ _ _ (Nat.lt_succ_self _) (by omega) (by omega) (wkR_2 (ez_358.symm.trans (hA9 0 (by omega))) (ez_359.symm.trans (hA9 1 (by omega)))) k0_f_372 k1_f_372 k2_f_372 kS_f_372 kM_f_372 i_367 i_368 i_369 kR_f_372 kG_f_372 hP hD hS (lv_sub hl [0, 1, 2, 3, 4, 5] rfl)
                      intro n_221
                      induction n_221 with
                      | zero =>
                        intro i s8 w8 H locs ls hm_221
                        exact absurd hm_221 (Nat.not_lt_zero _)
                      | succ n_221 ih_221 =>
                        intro i s8 w8 H locs ls hm_221 hi2 hi hw8 ht0 ht1 ht2 htS htM htp htr htw htR htG hP hD hS hl
                        refine lv_iload hx hb dX9_walkItem_221 (lv_at hl 0 rfl) ?_
                        refine lv_iload_n hx hb dX9_walkItem_223 rfl (lv_at hl 4 rfl) ?_
                        refine lv_icmp_ge (tgt := 252) hx hb dX9_walkItem_224 (by decide) (fun c_373 => ?_) (fun c_373 => ?_)
                        · skip
                          have nc_373 : n8 ≤ i := xn_le (a := n8) (b := i) (by omega) (by omega) c_373
                          exact W.vret hx hb hr (fun t ht hW => ⟨⟨(nx bb mz (mSt bb mz (nx bb mz u8)), 0, (mV bb mz (nx bb mz u8)), s8, Wn + 1, a8, upd (upd fawn Wn 2) (Wn) (nI (n8)), w8, upd fat Wn (mV bb mz (nx bb mz u8)), upd fas Wn 0), rfl, ⟨Or.inl ⟨hL8.trans ((spSt_end (by omega) (kd_nz (by omega))).trans ((cif_pos (show 2 ≤ n8 by omega)).trans ((cif_pos (h_298)).trans ((cif_pos (h_309)).trans (cif_neg (h_318)))))), rfl, rfl, by omega, (upd_upd.trans (congrArg (fun n => upd fawn Wn (nI n)) (hN8.trans (wkn_end (by omega) (kd_nz (by omega)))).symm)), (hw8.trans (congrArg (fun n => wkR bb mz u9 Wn n fawp) ((show i = n8 by omega).trans (hN8.trans (wkn_end (by omega) (kd_nz (by omega)))).symm))), (congrArg (upd fat Wn) (wkTo_e (wkE_e (hN8.trans (wkn_end (by omega) (kd_nz (by omega)))) hu8x))), (congrArg (upd fas Wn) (wkSl_n (wkE_e (hN8.trans (wkn_end (by omega) (kd_nz (by omega)))) hu8x) h_318))⟩, (by first | assumption | omega), ht0, ht1, ht2, htS, htM, htp, htr, htw, htR, htG⟩, by rw [ht]; exact hP.sub [2, 3, 1, 0] rfl, hD.sub [2, 3, 1, 0] (by decide) rfl⟩, hS.F ht⟩) hS.2.2 dX9_walkItem_252 hlk
                        · skip
                          have nc_373 : i < n8 := xn_nle (a := n8) (b := i) (by omega) (by omega) c_373
                          refine lv_aload_n hx hb dX9_walkItem_227 rfl (lv_at hl 5 rfl) ?_
                          refine xg hF kf_X9_7 hK hP 2 rfl rfl dX9_walkItem_228 ?_
                          refine lv_iload hx hb dX9_walkItem_231 (lv_at hl 1 rfl) ?_
                          refine lv_iconst (v := 3) hx hb dX9_walkItem_233 (by decide) ?_
                          refine lv_iadd hx hb dX9_walkItem_234 ?_
                          refine xl_i (y := nI (377 + (9 * Wn) + 3)) (nI_add (377 + (9 * Wn)) 3) ?_
                          refine lv_iload hx hb dX9_walkItem_235 (lv_at hl 0 rfl) ?_
                          refine lv_iadd hx hb dX9_walkItem_237 ?_
                          refine xl_i (y := nI (377 + (9 * Wn) + 3 + i)) (nI_add (377 + (9 * Wn) + 3) i) ?_
                          refine lv_aload_n hx hb dX9_walkItem_238 rfl (lv_at hl 5 rfl) ?_
                          refine xg hF kf_X9_40 hK hP 2 rfl rfl dX9_walkItem_239 ?_
                          refine lv_iload hx hb dX9_walkItem_242 (lv_at hl 0 rfl) ?_
                          refine va_iald hx hb hK hP 0 0 rfl rfl (vp_in_nI (show i < 6 by omega) (by decide)) dX9_walkItem_244 ?_
                          refine xl_i (y := a8 i) (congrArg a8 (nI_clamp (show i < 2 ^ 31 by omega))) ?_
                          obtain ⟨z_374, ez_374, hz_3740⟩ := wk_A.get hA8 rfl (show i < n8 by omega)
                          refine xl_i (y := nI (z_374)) ez_374 ?_
                          refine va_iast hx hb hK hP hD hS 3 0 rfl rfl (vp_in_nI (show 377 + (9 * Wn) + 3 + i < 449 by omega) (by decide)) dX9_walkItem_245 (fun H locs hP hD hS => ?_)
                          rw [nI_clamp (show 377 + (9 * Wn) + 3 + i < 2 ^ 31 by omega)] at hP hD
                          obtain ⟨f_375, ef_375⟩ : ∃ g, g = upd s8 (377 + (9 * Wn) + 3 + i) (nI (z_374)) := ⟨_, rfl⟩
                          rw [← ef_375] at hP hD
                          have k0_f_375 : f_375 0 = nI P := by rw [ef_375]; exact (pk_un (show 0 ≠ (377 + (9 * Wn) + 3 + i) by omega)).trans ht0
                          have k1_f_375 : f_375 1 = nI Rn := by rw [ef_375]; exact (pk_un (show 1 ≠ (377 + (9 * Wn) + 3 + i) by omega)).trans ht1
                          have k2_f_375 : f_375 2 = nI (Wn + 1) := by rw [ef_375]; exact (pk_un (show 2 ≠ (377 + (9 * Wn) + 3 + i) by omega)).trans ht2
                          have kS_f_375 : SI f_375 := by rw [ef_375]; exact SI.upd htS (okS.ws (w := Wn) (i := i) (by omega) (by omega) (by omega) (show z_374 < 10 by omega))
                          have kM_f_375 : MI f_375 := by rw [ef_375]; exact MI.upd htM (okM.out (show (377 + (9 * Wn) + 3 + i) < 13 ∨ 113 ≤ (377 + (9 * Wn) + 3 + i) by omega))
                          have kR_f_375 : RI Rn f_375 := by rw [ef_375]; exact RI.upd htR (fun r9 hr9 e9 => by omega)
                          have kG_f_375 : FR P f_375 fae fal fau fao farn farp fak (upd (upd fawn Wn 2) (Wn) (nI (n8))) (upd w8 (Wn * 6 + i) (nI (z_374))) (upd fat Wn (mV bb mz (nx bb mz u8))) (upd fas Wn 0) := by rw [ef_375]; exact FR.pwp htG (show Wn < 8 by omega) (show i < 6 by omega) (by omega)
                          have hP : va_P D vwCl [(ywa, .inl (cI, 6, .inl a8)), (yta, .inl (cI, 120, .inl tp)), (h0, .inr (9, [.ref ys, .ref yk, .ref yo, .ref yt, .int mk0, .ref yfa, .ref yfe, .int mL, .int mS, .int mM, .ref yro, .ref yhe, .ref ygr, .int mF, .int mC, .int mY, .ref yta, .int (nI (mz)), .int (nI ((nf bb mz (nx bb mz (mSt bb mz (nx bb mz u8)))))), .int (nI ((nx bb mz (nx bb mz (mSt bb mz (nx bb mz u8)))))), .int (mV bb mz (nx bb mz u8)), .int 0, .ref ywa, .ref ybi, .ref ysi, .ref ynu, .ref ymo])), (ys, .inl (cI, 449, .inl f_375))] H := hP
                          have hD : va_D A [(ywa, .inl (cI, 6, .inl a8)), (yta, .inl (cI, 120, .inl tp)), (h0, .inr (9, [.ref ys, .ref yk, .ref yo, .ref yt, .int mk0, .ref yfa, .ref yfe, .int mL, .int mS, .int mM, .ref yro, .ref yhe, .ref ygr, .int mF, .int mC, .int mY, .ref yta, .int (nI (mz)), .int (nI ((nf bb mz (nx bb mz (mSt bb mz (nx bb mz u8)))))), .int (nI ((nx bb mz (nx bb mz (mSt bb mz (nx bb mz u8)))))), .int (mV bb mz (nx bb mz u8)), .int 0, .ref ywa, .ref ybi, .ref ysi, .ref ynu, .ref ymo])), (ys, .inl (cI, 449, .inl f_375))] := hD
                          refine lv_iinc (v := nI (i + 1)) (lv' := [(5, .int (nI (i + 1))), (4, .int (nI (377 + (9 * Wn)))), (3, .int 0), (2, .int (mV bb mz (nx bb mz u8))), (1, .int (nI (n8))), (0, .ref h0)]) hx hb dX9_walkItem_246 hl (k := 0) rfl (nI_1 (i)) (by decide) rfl (fun ls hl => ?_)
                          refine lv_goto (tgt := 221) hx hb dX9_walkItem_249 (by decide) ?_
                          exact ih_221 (i + 1) f_375 (upd w8 (Wn * 6 + i) (nI (z_374))) _ _ _ (by omega) (by omega) (by omega) (by rw [hw8]; exact wkR_put rfl (ez_374.symm.trans (hA9 i (by omega)))) k0_f_375 k1_f_375 k2_f_375 kS_f_375 kM_f_375 htp htr htw kR_f_375 kG_f_375 (hP.sub [0, 1, 2, 3] rfl) (hD.sub [0, 1, 2, 3] (by decide) rfl) hS (lv_sub hl [0, 1, 2, 3, 4, 5] rfl)
                  · skip
                    subst h_314
                    subst h_315
                    refine lv_aload_n hx hb dX9_walkItem_133 rfl (lv_at hl 1 rfl) ?_
                    refine xg hF kf_X9_275 hK hP 2 rfl rfl dX9_walkItem_134 ?_
                    refine lv_istore_n (lv' := [(2, .int v2_306), (1, .int (nI (n8))), (0, .ref h0)]) hx hb dX9_walkItem_137 rfl hl (by decide) rfl (fun ls hl => ?_)
                    refine lv_iconst (v := 0) hx hb dX9_walkItem_138 (by decide) ?_
                    refine lv_istore_n (lv' := [(3, .int 0), (2, .int v2_306), (1, .int (nI (n8))), (0, .ref h0)]) hx hb dX9_walkItem_139 rfl hl (by decide) rfl (fun ls hl => ?_)
                    refine lv_aload_n hx hb dX9_walkItem_140 rfl (lv_at hl 3 rfl) ?_
                    refine lv_bipush (v := 115) hx hb dX9_walkItem_141 (by decide) ?_
                    refine lv_bipush (v := 108) hx hb dX9_walkItem_143 (by decide) ?_
                    refine lv_bipush (v := 97) hx hb dX9_walkItem_145 (by decide) ?_
                    refine lv_bipush (v := 99) hx hb dX9_walkItem_147 (by decide) ?_
                    refine lv_bipush (v := 107) hx hb dX9_walkItem_149 (by decide) ?_
                    refine lv_iconst (v := 0) hx hb dX9_walkItem_151 (by decide) ?_
                    refine lv_iconst (v := 0) hx hb dX9_walkItem_152 (by decide) ?_
                    refine xc_Vr hF (c_X9_isWordW l D cI cJ cZ cS ta sa sv H.size h0 ys yk yo yt mk0 yfa yfe mL mS mM yro yhe ygr mF mC mY yta mz v2_306 ywa ybi ysi ynu ymo tp 115 108 97 99 107 0 0 (mSt bb mz (nx bb mz u8)) bb (by omega) hbb (by omega)) kv_X9_290 ⟨rfl, rfl, Nat.le_of_ble_eq_true rfl, Nat.le_of_ble_eq_true rfl⟩ ⟨Nat.le_of_ble_eq_true rfl, Nat.le_of_ble_eq_true rfl⟩ hK hN hZ hP hD hS hA [2, 3] rfl rfl 0 rfl rfl rfl rfl hl.1 rfl (Nat.le_of_ble_eq_true rfl) dX9_walkItem_153 (fun r_376 hw_r_376 => ?_)
                    subst hw_r_376
                    refine lv_if_eq (tgt := 176) hx hb dX9_walkItem_156 (by decide) (fun c_377 => ?_) (fun c_377 => absurd (by decide) c_377)
                    refine lv_aload_n hx hb dX9_walkItem_176 rfl (lv_at hl 3 rfl) ?_
                    refine xg hF kf_X9_266 hK hP 2 rfl rfl dX9_walkItem_177 ?_
                    refine lv_if_ne (tgt := 252) hx hb dX9_walkItem_180 (by decide) (fun c_378 => ?_) (fun c_378 => absurd c_378 (by decide))
                    exact W.vret hx hb hr (fun t ht hW => ⟨⟨(mSt bb mz (nx bb mz u8), 1, v2_306, ms, Wn, a8, fawn, fawp, fat, fas), rfl, ⟨Or.inr ⟨hL8.trans ((spSt_end (by omega) (kd_nz (by omega))).trans ((cif_pos (show 2 ≤ n8 by omega)).trans ((cif_pos (h_298)).trans (cif_neg (h_313))))), rfl⟩, (by first | assumption | omega), hs0, hs1, hs2, hsS, hsM, hsp, hsr, hsw, hsR, hsG⟩, by rw [ht]; exact hP.sub [2, 0, 3, 1] rfl, hD.sub [2, 0, 3, 1] (by decide) rfl⟩, hS.F ht⟩) hS.2.2 dX9_walkItem_252 hlk
                · skip
                  refine xc_Vv (wr := [(ys, .inl (cI, 449, .inl ms)), (ywa, .inl (cI, 6, .inl a8))]) hF (c_X9_needs0 l D cI cJ cZ cS ta sa sv H.size h0 ys yk yo yt mk0 yfa yfe mL mS mM yro yhe ygr mF mC mY yta mz mv ywa ybi ysi ynu ymo tp u8 bb (by omega) hbb (by omega)) kv_X9_278 ⟨rfl, rfl, Nat.le_of_ble_eq_true rfl, Nat.le_of_ble_eq_true rfl⟩ ⟨Nat.le_of_ble_eq_true rfl, Nat.le_of_ble_eq_true rfl⟩ hK hN hZ hP hD hS hA [2, 3] [0, 1] rfl rfl rfl rfl (by decide) 0 rfl rfl rfl rfl hl.1 rfl (Nat.le_of_ble_eq_true rfl) dX9_walkItem_120 (fun u_r_379 H locs hw_r_379 hP hD hS => ?_)
                  have hP : va_P D vwCl [(ys, .inl (cI, 449, .inl ms)), (ywa, .inl (cI, 6, .inl a8)), (h0, .inr (9, [.ref ys, .ref yk, .ref yo, .ref yt, .int mk0, .ref yfa, .ref yfe, .int mL, .int mS, .int mM, .ref yro, .ref yhe, .ref ygr, .int mF, .int mC, .int mY, .ref yta, .int (nI (mz)), .int (nI (nf bb mz u8)), .int (nI (nx bb mz u8)), .int mv, .int 1, .ref ywa, .ref ybi, .ref ysi, .ref ynu, .ref ymo])), (yta, .inl (cI, 120, .inl tp))] H := hP
                  have hD : va_D A [(ys, .inl (cI, 449, .inl ms)), (ywa, .inl (cI, 6, .inl a8)), (h0, .inr (9, [.ref ys, .ref yk, .ref yo, .ref yt, .int mk0, .ref yfa, .ref yfe, .int mL, .int mS, .int mM, .ref yro, .ref yhe, .ref ygr, .int mF, .int mC, .int mY, .ref yta, .int (nI (mz)), .int (nI (nf bb mz u8)), .int (nI (nx bb mz u8)), .int mv, .int 1, .ref ywa, .ref ybi, .ref ysi, .ref ynu, .ref ymo])), (yta, .inl (cI, 120, .inl tp))] := hD
                  refine lv_aload_n hx hb dX9_walkItem_123 rfl (lv_at hl 1 rfl) ?_
                  refine lv_sipush (v := (-9999)) hx hb dX9_walkItem_124 (by decide) ?_
                  refine lv_sipush (v := 9999) hx hb dX9_walkItem_127 (by decide) ?_
                  refine xc_Vv (wr := [(ys, .inl (cI, 449, .inl ms)), (ywa, .inl (cI, 6, .inl a8))]) hF (c_X9_mileW l D cI cJ cZ cS ta sa sv H.size h0 ys yk yo yt mk0 yfa yfe mL mS mM yro yhe ygr mF mC mY yta mz mv ywa ybi ysi ynu ymo tp (-9999) 9999 u8 bb (by omega) hbb (by omega)) kv_X9_287 ⟨rfl, rfl, Nat.le_of_ble_eq_true rfl, Nat.le_of_ble_eq_true rfl⟩ ⟨Nat.le_of_ble_eq_true rfl, Nat.le_of_ble_eq_true rfl⟩ hK hN hZ hP hD hS hA [2, 3] [0, 1] rfl rfl rfl rfl (by decide) 0 rfl rfl rfl rfl hl.1 rfl (Nat.le_of_ble_eq_true rfl) dX9_walkItem_130 (fun u_r_380 H locs hw_r_380 hP hD hS => ?_)
                  have hP : va_P D vwCl [(ys, .inl (cI, 449, .inl ms)), (ywa, .inl (cI, 6, .inl a8)), (h0, .inr (9, [.ref ys, .ref yk, .ref yo, .ref yt, .int mk0, .ref yfa, .ref yfe, .int mL, .int mS, .int mM, .ref yro, .ref yhe, .ref ygr, .int mF, .int mC, .int mY, .ref yta, .int (nI (mz)), .int (nI (nf bb mz u8)), .int (nI (nx bb mz u8)), .int mv, .int 1, .ref ywa, .ref ybi, .ref ysi, .ref ynu, .ref ymo])), (yta, .inl (cI, 120, .inl tp))] H := hP
                  have hD : va_D A [(ys, .inl (cI, 449, .inl ms)), (ywa, .inl (cI, 6, .inl a8)), (h0, .inr (9, [.ref ys, .ref yk, .ref yo, .ref yt, .int mk0, .ref yfa, .ref yfe, .int mL, .int mS, .int mM, .ref yro, .ref yhe, .ref ygr, .int mF, .int mC, .int mY, .ref yta, .int (nI (mz)), .int (nI (nf bb mz u8)), .int (nI (nx bb mz u8)), .int mv, .int 1, .ref ywa, .ref ybi, .ref ysi, .ref ynu, .ref ymo])), (yta, .inl (cI, 120, .inl tp))] := hD
                  refine lv_aload_n hx hb dX9_walkItem_133 rfl (lv_at hl 1 rfl) ?_
                  refine xg hF kf_X9_275 hK hP 2 rfl rfl dX9_walkItem_134 ?_
                  refine lv_istore_n (lv' := [(2, .int mv), (1, .int (nI (n8))), (0, .ref h0)]) hx hb dX9_walkItem_137 rfl hl (by decide) rfl (fun ls hl => ?_)
                  refine lv_iconst (v := 0) hx hb dX9_walkItem_138 (by decide) ?_
                  refine lv_istore_n (lv' := [(3, .int 0), (2, .int mv), (1, .int (nI (n8))), (0, .ref h0)]) hx hb dX9_walkItem_139 rfl hl (by decide) rfl (fun ls hl => ?_)
                  refine lv_aload_n hx hb dX9_walkItem_140 rfl (lv_at hl 3 rfl) ?_
                  refine lv_bipush (v := 115) hx hb dX9_walkItem_141 (by decide) ?_
                  refine lv_bipush (v := 108) hx hb dX9_walkItem_143 (by decide) ?_
                  refine lv_bipush (v := 97) hx hb dX9_walkItem_145 (by decide) ?_
                  refine lv_bipush (v := 99) hx hb dX9_walkItem_147 (by decide) ?_
                  refine lv_bipush (v := 107) hx hb dX9_walkItem_149 (by decide) ?_
                  refine lv_iconst (v := 0) hx hb dX9_walkItem_151 (by decide) ?_
                  refine lv_iconst (v := 0) hx hb dX9_walkItem_152 (by decide) ?_
                  refine xc_Vr hF (c_X9_isWordW l D cI cJ cZ cS ta sa sv H.size h0 ys yk yo yt mk0 yfa yfe mL mS mM yro yhe ygr mF mC mY yta mz mv ywa ybi ysi ynu ymo tp 115 108 97 99 107 0 0 u8 bb (by omega) hbb (by omega)) kv_X9_290 ⟨rfl, rfl, Nat.le_of_ble_eq_true rfl, Nat.le_of_ble_eq_true rfl⟩ ⟨Nat.le_of_ble_eq_true rfl, Nat.le_of_ble_eq_true rfl⟩ hK hN hZ hP hD hS hA [2, 3] rfl rfl 0 rfl rfl rfl rfl hl.1 rfl (Nat.le_of_ble_eq_true rfl) dX9_walkItem_153 (fun r_381 hw_r_381 => ?_)
                  subst hw_r_381
                  refine lv_if_eq (tgt := 176) hx hb dX9_walkItem_156 (by decide) (fun c_382 => ?_) (fun c_382 => absurd (by decide) c_382)
                  refine lv_aload_n hx hb dX9_walkItem_176 rfl (lv_at hl 3 rfl) ?_
                  refine xg hF kf_X9_266 hK hP 2 rfl rfl dX9_walkItem_177 ?_
                  refine lv_if_ne (tgt := 252) hx hb dX9_walkItem_180 (by decide) (fun c_383 => ?_) (fun c_383 => absurd c_383 (by decide))
                  exact W.vret hx hb hr (fun t ht hW => ⟨⟨(u8, 1, mv, ms, Wn, a8, fawn, fawp, fat, fas), rfl, ⟨Or.inr ⟨hL8.trans ((spSt_end (by omega) (kd_nz (by omega))).trans ((cif_pos (show 2 ≤ n8 by omega)).trans (cif_neg (h_299)))), rfl⟩, (by first | assumption | omega), hs0, hs1, hs2, hsS, hsM, hsp, hsr, hsw, hsR, hsG⟩, by rw [ht]; exact hP.sub [2, 0, 3, 1] rfl, hD.sub [2, 0, 3, 1] (by decide) rfl⟩, hS.F ht⟩) hS.2.2 dX9_walkItem_252 hlk
      · skip
        refine lv_if_eq (tgt := 88) hx hb dX9_walkItem_65 (by decide) (fun c_384 => ?_) (fun c_384 => absurd (by decide) c_384)
        refine lv_iconst (v := 0) hx hb dX9_walkItem_88 (by decide) ?_
        refine xc_Vv (wr := [(ys, .inl (cI, 449, .inl ms)), (ywa, .inl (cI, 6, .inl wa))]) hF (c_X9_needs0 l D cI cJ cZ cS ta sa sv H.size h0 ys yk yo yt mk0 yfa yfe mL mS mM yro yhe ygr mF mC mY yta mz mv ywa ybi ysi ynu ymo tp (nx bb mz u9) bb (by omega) hbb (by omega)) kv_X9_278 ⟨rfl, rfl, Nat.le_of_ble_eq_true rfl, Nat.le_of_ble_eq_true rfl⟩ ⟨Nat.le_of_ble_eq_true rfl, Nat.le_of_ble_eq_true rfl⟩ hK hN hZ hP hD hS hA [2, 3] [0, 1] rfl rfl rfl rfl (by decide) 0 rfl rfl rfl rfl hl.1 rfl (Nat.le_of_ble_eq_true rfl) dX9_walkItem_89 (fun u_r_385 H locs hw_r_385 hP hD hS => ?_)
        have hP : va_P D vwCl [(ys, .inl (cI, 449, .inl ms)), (ywa, .inl (cI, 6, .inl wa)), (h0, .inr (9, [.ref ys, .ref yk, .ref yo, .ref yt, .int mk0, .ref yfa, .ref yfe, .int mL, .int mS, .int mM, .ref yro, .ref yhe, .ref ygr, .int mF, .int mC, .int mY, .ref yta, .int (nI (mz)), .int (nI (nf bb mz (nx bb mz u9))), .int (nI (nx bb mz (nx bb mz u9))), .int mv, .int 1, .ref ywa, .ref ybi, .ref ysi, .ref ynu, .ref ymo])), (yta, .inl (cI, 120, .inl tp))] H := hP
        have hD : va_D A [(ys, .inl (cI, 449, .inl ms)), (ywa, .inl (cI, 6, .inl wa)), (h0, .inr (9, [.ref ys, .ref yk, .ref yo, .ref yt, .int mk0, .ref yfa, .ref yfe, .int mL, .int mS, .int mM, .ref yro, .ref yhe, .ref ygr, .int mF, .int mC, .int mY, .ref yta, .int (nI (mz)), .int (nI (nf bb mz (nx bb mz u9))), .int (nI (nx bb mz (nx bb mz u9))), .int mv, .int 1, .ref ywa, .ref ybi, .ref ysi, .ref ynu, .ref ymo])), (yta, .inl (cI, 120, .inl tp))] := hD
        refine lv_aload_n hx hb dX9_walkItem_92 rfl (lv_at hl 2 rfl) ?_
        refine xg hF kf_X9_40 hK hP 2 rfl rfl dX9_walkItem_93 ?_
        refine lv_iload_n hx hb dX9_walkItem_96 rfl (lv_at hl 1 rfl) ?_
        refine lv_iload_n hx hb dX9_walkItem_97 rfl (lv_at hl 0 rfl) ?_
        refine va_iast hx hb hK hP hD hS 1 0 rfl rfl (xin 0 6 (by decide) (by decide)) dX9_walkItem_98 (fun H locs hP hD hS => ?_)
        obtain ⟨f_386, ef_386⟩ : ∃ g, g = upd wa 0 (nI (num bb (nf bb mz (nx bb mz u9)) (nx bb mz (nx bb mz u9)))) := ⟨_, rfl⟩
        have hP : va_P D vwCl [(ys, .inl (cI, 449, .inl ms)), (ywa, .inl (cI, 6, .inl (upd wa 0 (nI (num bb (nf bb mz (nx bb mz u9)) (nx bb mz (nx bb mz u9))))))), (h0, .inr (9, [.ref ys, .ref yk, .ref yo, .ref yt, .int mk0, .ref yfa, .ref yfe, .int mL, .int mS, .int mM, .ref yro, .ref yhe, .ref ygr, .int mF, .int mC, .int mY, .ref yta, .int (nI (mz)), .int (nI (nf bb mz (nx bb mz u9))), .int (nI (nx bb mz (nx bb mz u9))), .int mv, .int 1, .ref ywa, .ref ybi, .ref ysi, .ref ynu, .ref ymo])), (yta, .inl (cI, 120, .inl tp))] H := hP
        have hD : va_D A [(ys, .inl (cI, 449, .inl ms)), (ywa, .inl (cI, 6, .inl (upd wa 0 (nI (num bb (nf bb mz (nx bb mz u9)) (nx bb mz (nx bb mz u9))))))), (h0, .inr (9, [.ref ys, .ref yk, .ref yo, .ref yt, .int mk0, .ref yfa, .ref yfe, .int mL, .int mS, .int mM, .ref yro, .ref yhe, .ref ygr, .int mF, .int mC, .int mY, .ref yta, .int (nI (mz)), .int (nI (nf bb mz (nx bb mz u9))), .int (nI (nx bb mz (nx bb mz u9))), .int mv, .int 1, .ref ywa, .ref ybi, .ref ysi, .ref ynu, .ref ymo])), (yta, .inl (cI, 120, .inl tp))] := hD
        rw [← ef_386] at hP hD
        have hP : va_P D vwCl [(ys, .inl (cI, 449, .inl ms)), (ywa, .inl (cI, 6, .inl f_386)), (h0, .inr (9, [.ref ys, .ref yk, .ref yo, .ref yt, .int mk0, .ref yfa, .ref yfe, .int mL, .int mS, .int mM, .ref yro, .ref yhe, .ref ygr, .int mF, .int mC, .int mY, .ref yta, .int (nI (mz)), .int (nI (nf bb mz (nx bb mz u9))), .int (nI (nx bb mz (nx bb mz u9))), .int mv, .int 1, .ref ywa, .ref ybi, .ref ysi, .ref ynu, .ref ymo])), (yta, .inl (cI, 120, .inl tp))] H := hP
        have hD : va_D A [(ys, .inl (cI, 449, .inl ms)), (ywa, .inl (cI, 6, .inl f_386)), (h0, .inr (9, [.ref ys, .ref yk, .ref yo, .ref yt, .int mk0, .ref yfa, .ref yfe, .int mL, .int mS, .int mM, .ref yro, .ref yhe, .ref ygr, .int mF, .int mC, .int mY, .ref yta, .int (nI (mz)), .int (nI (nf bb mz (nx bb mz u9))), .int (nI (nx bb mz (nx bb mz u9))), .int mv, .int 1, .ref ywa, .ref ybi, .ref ysi, .ref ynu, .ref ymo])), (yta, .inl (cI, 120, .inl tp))] := hD
        refine lv_iinc (v := 1) (lv' := [(1, .int 1), (2, .int (nI (num bb (nf bb mz (nx bb mz u9)) (nx bb mz (nx bb mz u9))))), (0, .ref h0)]) hx hb dX9_walkItem_99 hl (k := 1) rfl (by decide) (by decide) rfl (fun ls hl => ?_)
        refine lv_goto (tgt := 22) hx hb dX9_walkItem_102 (by decide) ?_
        refine lv_aload_n hx hb dX9_walkItem_22 rfl (lv_at hl 2 rfl) ?_
        refine xg hF kf_X9_266 hK hP 2 rfl rfl dX9_walkItem_23 ?_
        refine lv_if_ne (tgt := 105) hx hb dX9_walkItem_26 (by decide) (fun c_387 => ?_) (fun c_387 => absurd c_387 (by decide))
        refine lv_aload_n hx hb dX9_walkItem_105 rfl (lv_at hl 2 rfl) ?_
        refine lv_aload_n hx hb dX9_walkItem_106 rfl (lv_at hl 2 rfl) ?_
        refine lv_bipush (v := 97) hx hb dX9_walkItem_107 (by decide) ?_
        refine lv_bipush (v := 108) hx hb dX9_walkItem_109 (by decide) ?_
        refine lv_bipush (v := 108) hx hb dX9_walkItem_111 (by decide) ?_
        refine lv_iconst (v := 0) hx hb dX9_walkItem_113 (by decide) ?_
        refine lv_iconst (v := 0) hx hb dX9_walkItem_114 (by decide) ?_
        refine lv_iconst (v := 0) hx hb dX9_walkItem_115 (by decide) ?_
        refine lv_iconst (v := 0) hx hb dX9_walkItem_116 (by decide) ?_
        refine xc_Vr hF (c_X9_isWordW l D cI cJ cZ cS ta sa sv H.size h0 ys yk yo yt mk0 yfa yfe mL mS mM yro yhe ygr mF mC mY yta mz mv ywa ybi ysi ynu ymo tp 97 108 108 0 0 0 0 (nx bb mz u9) bb (by omega) hbb (by omega)) kv_X9_290 ⟨rfl, rfl, Nat.le_of_ble_eq_true rfl, Nat.le_of_ble_eq_true rfl⟩ ⟨Nat.le_of_ble_eq_true rfl, Nat.le_of_ble_eq_true rfl⟩ hK hN hZ hP hD hS hA [2, 3] rfl rfl 0 rfl rfl rfl rfl hl.1 rfl (Nat.le_of_ble_eq_true rfl) dX9_walkItem_117 (fun r_388 hw_r_388 => ?_)
        subst hw_r_388
        refine xc_Vv (wr := [(ys, .inl (cI, 449, .inl ms)), (ywa, .inl (cI, 6, .inl f_386))]) hF (c_X9_needsW l D cI cJ cZ cS ta sa sv H.size h0 ys yk yo yt mk0 yfa yfe mL mS mM yro yhe ygr mF mC mY yta mz mv ywa ybi ysi ynu ymo tp 0 (nx bb mz u9) bb (by omega) hbb (by omega)) kv_X9_278 ⟨rfl, rfl, Nat.le_of_ble_eq_true rfl, Nat.le_of_ble_eq_true rfl⟩ ⟨Nat.le_of_ble_eq_true rfl, Nat.le_of_ble_eq_true rfl⟩ hK hN hZ hP hD hS hA [2, 3] [0, 1] rfl rfl rfl rfl (by decide) 0 rfl rfl rfl rfl hl.1 rfl (Nat.le_of_ble_eq_true rfl) dX9_walkItem_120 (fun u_r_389 H locs hw_r_389 hP hD hS => ?_)
        have hP : va_P D vwCl [(ys, .inl (cI, 449, .inl ms)), (ywa, .inl (cI, 6, .inl f_386)), (h0, .inr (9, [.ref ys, .ref yk, .ref yo, .ref yt, .int mk0, .ref yfa, .ref yfe, .int mL, .int mS, .int mM, .ref yro, .ref yhe, .ref ygr, .int mF, .int mC, .int mY, .ref yta, .int (nI (mz)), .int (nI (nf bb mz (nx bb mz u9))), .int (nI (nx bb mz (nx bb mz u9))), .int mv, .int 1, .ref ywa, .ref ybi, .ref ysi, .ref ynu, .ref ymo])), (yta, .inl (cI, 120, .inl tp))] H := hP
        have hD : va_D A [(ys, .inl (cI, 449, .inl ms)), (ywa, .inl (cI, 6, .inl f_386)), (h0, .inr (9, [.ref ys, .ref yk, .ref yo, .ref yt, .int mk0, .ref yfa, .ref yfe, .int mL, .int mS, .int mM, .ref yro, .ref yhe, .ref ygr, .int mF, .int mC, .int mY, .ref yta, .int (nI (mz)), .int (nI (nf bb mz (nx bb mz u9))), .int (nI (nx bb mz (nx bb mz u9))), .int mv, .int 1, .ref ywa, .ref ybi, .ref ysi, .ref ynu, .ref ymo])), (yta, .inl (cI, 120, .inl tp))] := hD
        refine lv_aload_n hx hb dX9_walkItem_123 rfl (lv_at hl 2 rfl) ?_
        refine lv_sipush (v := (-9999)) hx hb dX9_walkItem_124 (by decide) ?_
        refine lv_sipush (v := 9999) hx hb dX9_walkItem_127 (by decide) ?_
        refine xc_Vv (wr := [(ys, .inl (cI, 449, .inl ms)), (ywa, .inl (cI, 6, .inl f_386))]) hF (c_X9_mileW l D cI cJ cZ cS ta sa sv H.size h0 ys yk yo yt mk0 yfa yfe mL mS mM yro yhe ygr mF mC mY yta mz mv ywa ybi ysi ynu ymo tp (-9999) 9999 (nx bb mz u9) bb (by omega) hbb (by omega)) kv_X9_287 ⟨rfl, rfl, Nat.le_of_ble_eq_true rfl, Nat.le_of_ble_eq_true rfl⟩ ⟨Nat.le_of_ble_eq_true rfl, Nat.le_of_ble_eq_true rfl⟩ hK hN hZ hP hD hS hA [2, 3] [0, 1] rfl rfl rfl rfl (by decide) 0 rfl rfl rfl rfl hl.1 rfl (Nat.le_of_ble_eq_true rfl) dX9_walkItem_130 (fun u_r_390 H locs hw_r_390 hP hD hS => ?_)
        have hP : va_P D vwCl [(ys, .inl (cI, 449, .inl ms)), (ywa, .inl (cI, 6, .inl f_386)), (h0, .inr (9, [.ref ys, .ref yk, .ref yo, .ref yt, .int mk0, .ref yfa, .ref yfe, .int mL, .int mS, .int mM, .ref yro, .ref yhe, .ref ygr, .int mF, .int mC, .int mY, .ref yta, .int (nI (mz)), .int (nI (nf bb mz (nx bb mz u9))), .int (nI (nx bb mz (nx bb mz u9))), .int mv, .int 1, .ref ywa, .ref ybi, .ref ysi, .ref ynu, .ref ymo])), (yta, .inl (cI, 120, .inl tp))] H := hP
        have hD : va_D A [(ys, .inl (cI, 449, .inl ms)), (ywa, .inl (cI, 6, .inl f_386)), (h0, .inr (9, [.ref ys, .ref yk, .ref yo, .ref yt, .int mk0, .ref yfa, .ref yfe, .int mL, .int mS, .int mM, .ref yro, .ref yhe, .ref ygr, .int mF, .int mC, .int mY, .ref yta, .int (nI (mz)), .int (nI (nf bb mz (nx bb mz u9))), .int (nI (nx bb mz (nx bb mz u9))), .int mv, .int 1, .ref ywa, .ref ybi, .ref ysi, .ref ynu, .ref ymo])), (yta, .inl (cI, 120, .inl tp))] := hD
        refine lv_aload_n hx hb dX9_walkItem_133 rfl (lv_at hl 2 rfl) ?_
        refine xg hF kf_X9_275 hK hP 2 rfl rfl dX9_walkItem_134 ?_
        refine lv_istore_n (lv' := [(2, .int mv), (1, .int 1), (0, .ref h0)]) hx hb dX9_walkItem_137 rfl hl (by decide) rfl (fun ls hl => ?_)
        refine lv_iconst (v := 0) hx hb dX9_walkItem_138 (by decide) ?_
        refine lv_istore_n (lv' := [(3, .int 0), (2, .int mv), (1, .int 1), (0, .ref h0)]) hx hb dX9_walkItem_139 rfl hl (by decide) rfl (fun ls hl => ?_)
        refine lv_aload_n hx hb dX9_walkItem_140 rfl (lv_at hl 3 rfl) ?_
        refine lv_bipush (v := 115) hx hb dX9_walkItem_141 (by decide) ?_
        refine lv_bipush (v := 108) hx hb dX9_walkItem_143 (by decide) ?_
        refine lv_bipush (v := 97) hx hb dX9_walkItem_145 (by decide) ?_
        refine lv_bipush (v := 99) hx hb dX9_walkItem_147 (by decide) ?_
        refine lv_bipush (v := 107) hx hb dX9_walkItem_149 (by decide) ?_
        refine lv_iconst (v := 0) hx hb dX9_walkItem_151 (by decide) ?_
        refine lv_iconst (v := 0) hx hb dX9_walkItem_152 (by decide) ?_
        refine xc_Vr hF (c_X9_isWordW l D cI cJ cZ cS ta sa sv H.size h0 ys yk yo yt mk0 yfa yfe mL mS mM yro yhe ygr mF mC mY yta mz mv ywa ybi ysi ynu ymo tp 115 108 97 99 107 0 0 (nx bb mz u9) bb (by omega) hbb (by omega)) kv_X9_290 ⟨rfl, rfl, Nat.le_of_ble_eq_true rfl, Nat.le_of_ble_eq_true rfl⟩ ⟨Nat.le_of_ble_eq_true rfl, Nat.le_of_ble_eq_true rfl⟩ hK hN hZ hP hD hS hA [2, 3] rfl rfl 0 rfl rfl rfl rfl hl.1 rfl (Nat.le_of_ble_eq_true rfl) dX9_walkItem_153 (fun r_391 hw_r_391 => ?_)
        subst hw_r_391
        refine lv_if_eq (tgt := 176) hx hb dX9_walkItem_156 (by decide) (fun c_392 => ?_) (fun c_392 => absurd (by decide) c_392)
        refine lv_aload_n hx hb dX9_walkItem_176 rfl (lv_at hl 3 rfl) ?_
        refine xg hF kf_X9_266 hK hP 2 rfl rfl dX9_walkItem_177 ?_
        refine lv_if_ne (tgt := 252) hx hb dX9_walkItem_180 (by decide) (fun c_393 => ?_) (fun c_393 => absurd c_393 (by decide))
        exact W.vret hx hb hr (fun t ht hW => ⟨⟨(nx bb mz u9, 1, mv, ms, Wn, f_386, fawn, fawp, fat, fas), rfl, ⟨Or.inr ⟨(cif_pos (show Wn < 8 by omega)).trans (cif_neg (fun h => h_23 (okN_isP (by omega) h))), rfl⟩, (by first | assumption | omega), hs0, hs1, hs2, hsS, hsM, hsp, hsr, hsw, hsR, hsG⟩, by rw [ht]; exact hP.sub [2, 0, 3, 1] rfl, hD.sub [2, 0, 3, 1] (by decide) rfl⟩, hS.F ht⟩) hS.2.2 dX9_walkItem_252 hlk
    · skip
      refine lv_istore_n (lv' := [(2, .int (-1)), (1, .int 0), (0, .ref h0)]) hx hb dX9_walkItem_58 rfl hl (by decide) rfl (fun ls hl => ?_)
      refine lv_aload_n hx hb dX9_walkItem_59 rfl (lv_at hl 2 rfl) ?_
      refine lv_aload_n hx hb dX9_walkItem_60 rfl (lv_at hl 2 rfl) ?_
      refine lv_iload_n hx hb dX9_walkItem_61 rfl (lv_at hl 0 rfl) ?_
      refine xc_Vr hF (c_X9_isPlaceM l D cI cJ cZ cS ta sa sv H.size h0 ys yk yo yt mk0 yfa yfe mL mS mM yro yhe ygr mF mC mY yta mz (nf bb mz (nx bb mz u9)) (nx bb mz (nx bb mz u9)) mv 0 ywa ybi ysi ynu ymo ms P Rn Wn fae fal fau fao farn farp fak fawn fawp fat fas hs0 hs1 hs2 hsS hsM hsp hsr hsw hsR hsG) kv_X9_61 ⟨rfl, rfl, Nat.le_of_ble_eq_true rfl, Nat.le_of_ble_eq_true rfl⟩ ⟨Nat.le_of_ble_eq_true rfl, Nat.le_of_ble_eq_true rfl⟩ hK hN hZ hP hD hS hA [2, 0] rfl rfl 0 rfl rfl rfl rfl hl.1 rfl (Nat.le_of_ble_eq_true rfl) dX9_walkItem_62 (fun r_394 hw_r_394 => ?_)
      subst hw_r_394
      refine lv_if_eq (tgt := 88) hx hb dX9_walkItem_65 (by decide) (fun c_395 => ?_) (fun c_395 => absurd (by decide) c_395)
      refine lv_iconst (v := 0) hx hb dX9_walkItem_88 (by decide) ?_
      refine xc_Vv (wr := [(ys, .inl (cI, 449, .inl ms)), (ywa, .inl (cI, 6, .inl wa))]) hF (c_X9_needs0 l D cI cJ cZ cS ta sa sv H.size h0 ys yk yo yt mk0 yfa yfe mL mS mM yro yhe ygr mF mC mY yta mz mv ywa ybi ysi ynu ymo tp (nx bb mz u9) bb (by omega) hbb (by omega)) kv_X9_278 ⟨rfl, rfl, Nat.le_of_ble_eq_true rfl, Nat.le_of_ble_eq_true rfl⟩ ⟨Nat.le_of_ble_eq_true rfl, Nat.le_of_ble_eq_true rfl⟩ hK hN hZ hP hD hS hA [2, 3] [0, 1] rfl rfl rfl rfl (by decide) 0 rfl rfl rfl rfl hl.1 rfl (Nat.le_of_ble_eq_true rfl) dX9_walkItem_89 (fun u_r_396 H locs hw_r_396 hP hD hS => ?_)
      have hP : va_P D vwCl [(ys, .inl (cI, 449, .inl ms)), (ywa, .inl (cI, 6, .inl wa)), (h0, .inr (9, [.ref ys, .ref yk, .ref yo, .ref yt, .int mk0, .ref yfa, .ref yfe, .int mL, .int mS, .int mM, .ref yro, .ref yhe, .ref ygr, .int mF, .int mC, .int mY, .ref yta, .int (nI (mz)), .int (nI (nf bb mz (nx bb mz u9))), .int (nI (nx bb mz (nx bb mz u9))), .int mv, .int 1, .ref ywa, .ref ybi, .ref ysi, .ref ynu, .ref ymo])), (yta, .inl (cI, 120, .inl tp))] H := hP
      have hD : va_D A [(ys, .inl (cI, 449, .inl ms)), (ywa, .inl (cI, 6, .inl wa)), (h0, .inr (9, [.ref ys, .ref yk, .ref yo, .ref yt, .int mk0, .ref yfa, .ref yfe, .int mL, .int mS, .int mM, .ref yro, .ref yhe, .ref ygr, .int mF, .int mC, .int mY, .ref yta, .int (nI (mz)), .int (nI (nf bb mz (nx bb mz u9))), .int (nI (nx bb mz (nx bb mz u9))), .int mv, .int 1, .ref ywa, .ref ybi, .ref ysi, .ref ynu, .ref ymo])), (yta, .inl (cI, 120, .inl tp))] := hD
      refine lv_aload_n hx hb dX9_walkItem_92 rfl (lv_at hl 2 rfl) ?_
      refine xg hF kf_X9_40 hK hP 2 rfl rfl dX9_walkItem_93 ?_
      refine lv_iload_n hx hb dX9_walkItem_96 rfl (lv_at hl 1 rfl) ?_
      refine lv_iload_n hx hb dX9_walkItem_97 rfl (lv_at hl 0 rfl) ?_
      refine va_iast hx hb hK hP hD hS 1 0 rfl rfl (xin 0 6 (by decide) (by decide)) dX9_walkItem_98 (fun H locs hP hD hS => ?_)
      obtain ⟨f_397, ef_397⟩ : ∃ g, g = upd wa 0 (-1) := ⟨_, rfl⟩
      have hP : va_P D vwCl [(ys, .inl (cI, 449, .inl ms)), (ywa, .inl (cI, 6, .inl (upd wa 0 (-1)))), (h0, .inr (9, [.ref ys, .ref yk, .ref yo, .ref yt, .int mk0, .ref yfa, .ref yfe, .int mL, .int mS, .int mM, .ref yro, .ref yhe, .ref ygr, .int mF, .int mC, .int mY, .ref yta, .int (nI (mz)), .int (nI (nf bb mz (nx bb mz u9))), .int (nI (nx bb mz (nx bb mz u9))), .int mv, .int 1, .ref ywa, .ref ybi, .ref ysi, .ref ynu, .ref ymo])), (yta, .inl (cI, 120, .inl tp))] H := hP
      have hD : va_D A [(ys, .inl (cI, 449, .inl ms)), (ywa, .inl (cI, 6, .inl (upd wa 0 (-1)))), (h0, .inr (9, [.ref ys, .ref yk, .ref yo, .ref yt, .int mk0, .ref yfa, .ref yfe, .int mL, .int mS, .int mM, .ref yro, .ref yhe, .ref ygr, .int mF, .int mC, .int mY, .ref yta, .int (nI (mz)), .int (nI (nf bb mz (nx bb mz u9))), .int (nI (nx bb mz (nx bb mz u9))), .int mv, .int 1, .ref ywa, .ref ybi, .ref ysi, .ref ynu, .ref ymo])), (yta, .inl (cI, 120, .inl tp))] := hD
      rw [← ef_397] at hP hD
      have hP : va_P D vwCl [(ys, .inl (cI, 449, .inl ms)), (ywa, .inl (cI, 6, .inl f_397)), (h0, .inr (9, [.ref ys, .ref yk, .ref yo, .ref yt, .int mk0, .ref yfa, .ref yfe, .int mL, .int mS, .int mM, .ref yro, .ref yhe, .ref ygr, .int mF, .int mC, .int mY, .ref yta, .int (nI (mz)), .int (nI (nf bb mz (nx bb mz u9))), .int (nI (nx bb mz (nx bb mz u9))), .int mv, .int 1, .ref ywa, .ref ybi, .ref ysi, .ref ynu, .ref ymo])), (yta, .inl (cI, 120, .inl tp))] H := hP
      have hD : va_D A [(ys, .inl (cI, 449, .inl ms)), (ywa, .inl (cI, 6, .inl f_397)), (h0, .inr (9, [.ref ys, .ref yk, .ref yo, .ref yt, .int mk0, .ref yfa, .ref yfe, .int mL, .int mS, .int mM, .ref yro, .ref yhe, .ref ygr, .int mF, .int mC, .int mY, .ref yta, .int (nI (mz)), .int (nI (nf bb mz (nx bb mz u9))), .int (nI (nx bb mz (nx bb mz u9))), .int mv, .int 1, .ref ywa, .ref ybi, .ref ysi, .ref ynu, .ref ymo])), (yta, .inl (cI, 120, .inl tp))] := hD
      refine lv_iinc (v := 1) (lv' := [(1, .int 1), (2, .int (-1)), (0, .ref h0)]) hx hb dX9_walkItem_99 hl (k := 1) rfl (by decide) (by decide) rfl (fun ls hl => ?_)
      refine lv_goto (tgt := 22) hx hb dX9_walkItem_102 (by decide) ?_
      refine lv_aload_n hx hb dX9_walkItem_22 rfl (lv_at hl 2 rfl) ?_
      refine xg hF kf_X9_266 hK hP 2 rfl rfl dX9_walkItem_23 ?_
      refine lv_if_ne (tgt := 105) hx hb dX9_walkItem_26 (by decide) (fun c_398 => ?_) (fun c_398 => absurd c_398 (by decide))
      refine lv_aload_n hx hb dX9_walkItem_105 rfl (lv_at hl 2 rfl) ?_
      refine lv_aload_n hx hb dX9_walkItem_106 rfl (lv_at hl 2 rfl) ?_
      refine lv_bipush (v := 97) hx hb dX9_walkItem_107 (by decide) ?_
      refine lv_bipush (v := 108) hx hb dX9_walkItem_109 (by decide) ?_
      refine lv_bipush (v := 108) hx hb dX9_walkItem_111 (by decide) ?_
      refine lv_iconst (v := 0) hx hb dX9_walkItem_113 (by decide) ?_
      refine lv_iconst (v := 0) hx hb dX9_walkItem_114 (by decide) ?_
      refine lv_iconst (v := 0) hx hb dX9_walkItem_115 (by decide) ?_
      refine lv_iconst (v := 0) hx hb dX9_walkItem_116 (by decide) ?_
      refine xc_Vr hF (c_X9_isWordW l D cI cJ cZ cS ta sa sv H.size h0 ys yk yo yt mk0 yfa yfe mL mS mM yro yhe ygr mF mC mY yta mz mv ywa ybi ysi ynu ymo tp 97 108 108 0 0 0 0 (nx bb mz u9) bb (by omega) hbb (by omega)) kv_X9_290 ⟨rfl, rfl, Nat.le_of_ble_eq_true rfl, Nat.le_of_ble_eq_true rfl⟩ ⟨Nat.le_of_ble_eq_true rfl, Nat.le_of_ble_eq_true rfl⟩ hK hN hZ hP hD hS hA [2, 3] rfl rfl 0 rfl rfl rfl rfl hl.1 rfl (Nat.le_of_ble_eq_true rfl) dX9_walkItem_117 (fun r_399 hw_r_399 => ?_)
      subst hw_r_399
      refine xc_Vv (wr := [(ys, .inl (cI, 449, .inl ms)), (ywa, .inl (cI, 6, .inl f_397))]) hF (c_X9_needsW l D cI cJ cZ cS ta sa sv H.size h0 ys yk yo yt mk0 yfa yfe mL mS mM yro yhe ygr mF mC mY yta mz mv ywa ybi ysi ynu ymo tp 0 (nx bb mz u9) bb (by omega) hbb (by omega)) kv_X9_278 ⟨rfl, rfl, Nat.le_of_ble_eq_true rfl, Nat.le_of_ble_eq_true rfl⟩ ⟨Nat.le_of_ble_eq_true rfl, Nat.le_of_ble_eq_true rfl⟩ hK hN hZ hP hD hS hA [2, 3] [0, 1] rfl rfl rfl rfl (by decide) 0 rfl rfl rfl rfl hl.1 rfl (Nat.le_of_ble_eq_true rfl) dX9_walkItem_120 (fun u_r_400 H locs hw_r_400 hP hD hS => ?_)
      have hP : va_P D vwCl [(ys, .inl (cI, 449, .inl ms)), (ywa, .inl (cI, 6, .inl f_397)), (h0, .inr (9, [.ref ys, .ref yk, .ref yo, .ref yt, .int mk0, .ref yfa, .ref yfe, .int mL, .int mS, .int mM, .ref yro, .ref yhe, .ref ygr, .int mF, .int mC, .int mY, .ref yta, .int (nI (mz)), .int (nI (nf bb mz (nx bb mz u9))), .int (nI (nx bb mz (nx bb mz u9))), .int mv, .int 1, .ref ywa, .ref ybi, .ref ysi, .ref ynu, .ref ymo])), (yta, .inl (cI, 120, .inl tp))] H := hP
      have hD : va_D A [(ys, .inl (cI, 449, .inl ms)), (ywa, .inl (cI, 6, .inl f_397)), (h0, .inr (9, [.ref ys, .ref yk, .ref yo, .ref yt, .int mk0, .ref yfa, .ref yfe, .int mL, .int mS, .int mM, .ref yro, .ref yhe, .ref ygr, .int mF, .int mC, .int mY, .ref yta, .int (nI (mz)), .int (nI (nf bb mz (nx bb mz u9))), .int (nI (nx bb mz (nx bb mz u9))), .int mv, .int 1, .ref ywa, .ref ybi, .ref ysi, .ref ynu, .ref ymo])), (yta, .inl (cI, 120, .inl tp))] := hD
      refine lv_aload_n hx hb dX9_walkItem_123 rfl (lv_at hl 2 rfl) ?_
      refine lv_sipush (v := (-9999)) hx hb dX9_walkItem_124 (by decide) ?_
      refine lv_sipush (v := 9999) hx hb dX9_walkItem_127 (by decide) ?_
      refine xc_Vv (wr := [(ys, .inl (cI, 449, .inl ms)), (ywa, .inl (cI, 6, .inl f_397))]) hF (c_X9_mileW l D cI cJ cZ cS ta sa sv H.size h0 ys yk yo yt mk0 yfa yfe mL mS mM yro yhe ygr mF mC mY yta mz mv ywa ybi ysi ynu ymo tp (-9999) 9999 (nx bb mz u9) bb (by omega) hbb (by omega)) kv_X9_287 ⟨rfl, rfl, Nat.le_of_ble_eq_true rfl, Nat.le_of_ble_eq_true rfl⟩ ⟨Nat.le_of_ble_eq_true rfl, Nat.le_of_ble_eq_true rfl⟩ hK hN hZ hP hD hS hA [2, 3] [0, 1] rfl rfl rfl rfl (by decide) 0 rfl rfl rfl rfl hl.1 rfl (Nat.le_of_ble_eq_true rfl) dX9_walkItem_130 (fun u_r_401 H locs hw_r_401 hP hD hS => ?_)
      have hP : va_P D vwCl [(ys, .inl (cI, 449, .inl ms)), (ywa, .inl (cI, 6, .inl f_397)), (h0, .inr (9, [.ref ys, .ref yk, .ref yo, .ref yt, .int mk0, .ref yfa, .ref yfe, .int mL, .int mS, .int mM, .ref yro, .ref yhe, .ref ygr, .int mF, .int mC, .int mY, .ref yta, .int (nI (mz)), .int (nI (nf bb mz (nx bb mz u9))), .int (nI (nx bb mz (nx bb mz u9))), .int mv, .int 1, .ref ywa, .ref ybi, .ref ysi, .ref ynu, .ref ymo])), (yta, .inl (cI, 120, .inl tp))] H := hP
      have hD : va_D A [(ys, .inl (cI, 449, .inl ms)), (ywa, .inl (cI, 6, .inl f_397)), (h0, .inr (9, [.ref ys, .ref yk, .ref yo, .ref yt, .int mk0, .ref yfa, .ref yfe, .int mL, .int mS, .int mM, .ref yro, .ref yhe, .ref ygr, .int mF, .int mC, .int mY, .ref yta, .int (nI (mz)), .int (nI (nf bb mz (nx bb mz u9))), .int (nI (nx bb mz (nx bb mz u9))), .int mv, .int 1, .ref ywa, .ref ybi, .ref ysi, .ref ynu, .ref ymo])), (yta, .inl (cI, 120, .inl tp))] := hD
      refine lv_aload_n hx hb dX9_walkItem_133 rfl (lv_at hl 2 rfl) ?_
      refine xg hF kf_X9_275 hK hP 2 rfl rfl dX9_walkItem_134 ?_
      refine lv_istore_n (lv' := [(2, .int mv), (1, .int 1), (0, .ref h0)]) hx hb dX9_walkItem_137 rfl hl (by decide) rfl (fun ls hl => ?_)
      refine lv_iconst (v := 0) hx hb dX9_walkItem_138 (by decide) ?_
      refine lv_istore_n (lv' := [(3, .int 0), (2, .int mv), (1, .int 1), (0, .ref h0)]) hx hb dX9_walkItem_139 rfl hl (by decide) rfl (fun ls hl => ?_)
      refine lv_aload_n hx hb dX9_walkItem_140 rfl (lv_at hl 3 rfl) ?_
      refine lv_bipush (v := 115) hx hb dX9_walkItem_141 (by decide) ?_
      refine lv_bipush (v := 108) hx hb dX9_walkItem_143 (by decide) ?_
      refine lv_bipush (v := 97) hx hb dX9_walkItem_145 (by decide) ?_
      refine lv_bipush (v := 99) hx hb dX9_walkItem_147 (by decide) ?_
      refine lv_bipush (v := 107) hx hb dX9_walkItem_149 (by decide) ?_
      refine lv_iconst (v := 0) hx hb dX9_walkItem_151 (by decide) ?_
      refine lv_iconst (v := 0) hx hb dX9_walkItem_152 (by decide) ?_
      refine xc_Vr hF (c_X9_isWordW l D cI cJ cZ cS ta sa sv H.size h0 ys yk yo yt mk0 yfa yfe mL mS mM yro yhe ygr mF mC mY yta mz mv ywa ybi ysi ynu ymo tp 115 108 97 99 107 0 0 (nx bb mz u9) bb (by omega) hbb (by omega)) kv_X9_290 ⟨rfl, rfl, Nat.le_of_ble_eq_true rfl, Nat.le_of_ble_eq_true rfl⟩ ⟨Nat.le_of_ble_eq_true rfl, Nat.le_of_ble_eq_true rfl⟩ hK hN hZ hP hD hS hA [2, 3] rfl rfl 0 rfl rfl rfl rfl hl.1 rfl (Nat.le_of_ble_eq_true rfl) dX9_walkItem_153 (fun r_402 hw_r_402 => ?_)
      subst hw_r_402
      refine lv_if_eq (tgt := 176) hx hb dX9_walkItem_156 (by decide) (fun c_403 => ?_) (fun c_403 => absurd (by decide) c_403)
      refine lv_aload_n hx hb dX9_walkItem_176 rfl (lv_at hl 3 rfl) ?_
      refine xg hF kf_X9_266 hK hP 2 rfl rfl dX9_walkItem_177 ?_
      refine lv_if_ne (tgt := 252) hx hb dX9_walkItem_180 (by decide) (fun c_404 => ?_) (fun c_404 => absurd c_404 (by decide))
      exact W.vret hx hb hr (fun t ht hW => ⟨⟨(nx bb mz u9, 1, mv, ms, Wn, f_397, fawn, fawp, fat, fas), rfl, ⟨Or.inr ⟨(cif_pos (show Wn < 8 by omega)).trans (cif_neg (fun h => h_18 h.1)), rfl⟩, (by first | assumption | omega), hs0, hs1, hs2, hsS, hsM, hsp, hsr, hsw, hsR, hsG⟩, by rw [ht]; exact hP.sub [2, 0, 3, 1] rfl, hD.sub [2, 0, 3, 1] (by decide) rfl⟩, hS.F ht⟩) hS.2.2 dX9_walkItem_252 hlk
set_option maxHeartbeats 4000000 in
set_option maxRecDepth 100000 in
theorem c_X9_itemW (l : Launch) (D : va_G) (cI cJ cZ cS : ClassId) (ta : Nat) (sa sv : Nat → Nat) (sz : Nat) (h0 : Nat) (ys : Nat) (yk : Nat) (yo : Nat) (yt : Nat) (mk0 : Int32) (yfa : Nat) (yfe : Nat) (mL : Int32) (mS : Int32) (mM : Int32) (yro : Nat) (yhe : Nat) (ygr : Nat) (mF : Int32) (mC : Int32) (mY : Int32) (yta : Nat) (mz : Nat) (mv : Int32) (ywa : Nat) (ybi : Nat) (ysi : Nat) (ynu : Nat) (ymo : Nat) (ms : Nat → Int32) (tp : Nat → Int32) (wa : Nat → Int32) (P : Nat) (Rn : Nat) (Wn : Nat) (fae : Nat → Int32) (fal : Nat → Int32) (fau : Nat → Int32) (fao : Nat → Int32) (farn : Nat → Int32) (farp : Nat → Int32) (fak : Nat → Int32) (fawn : Nat → Int32) (fawp : Nat → Int32) (fat : Nat → Int32) (fas : Nat → Int32) (u9 : Nat) (bb : Nat → Int32) (hz : mz ≤ 120) (hbb : bA tp mz = bb) (hu9 : u9 ≤ mz) (hs0 : ms 0 = nI P) (hs1 : ms 1 = nI Rn) (hs2 : ms 2 = nI Wn) (hsS : SI ms) (hsM : MI ms) (hsp : P ≤ 10) (hsr : Rn ≤ 8) (hsw : Wn ≤ 8) (hsR : RI Rn ms) (hsG : FR P ms fae fal fau fao farn farp fak fawn fawp fat fas) : Met l yX9_item (Cond.code yX9_item cX9_item 2 none :: wsU) ({ frames := 1, cells := 0, slots := 0, locals := 28 }) (va_Pc [.ref h0] (XW D (xT cI cJ cZ cS) ta sa sv [(h0, .inr (9, [.ref ys, .ref yk, .ref yo, .ref yt, .int mk0, .ref yfa, .ref yfe, .int mL, .int mS, .int mM, .ref yro, .ref yhe, .ref ygr, .int mF, .int mC, .int mY, .ref yta, .int (nI (mz)), .int (nI (nf bb mz u9)), .int (nI (nx bb mz u9)), .int mv, .int 1, .ref ywa, .ref ybi, .ref ysi, .ref ynu, .ref ymo])), (ys, .inl (cI, 449, .inl ms)), (yta, .inl (cI, 120, .inl tp)), (ywa, .inl (cI, 6, .inl wa))] sz)) (XQv (fun (_ : Unit) => True) D (fun _ : Unit => [(h0, .inr (9, [.ref ys, .ref yk, .ref yo, .ref yt, .int mk0, .ref yfa, .ref yfe, .int mL, .int mS, .int mM, .ref yro, .ref yhe, .ref ygr, .int mF, .int mC, .int mY, .ref yta, .int (nI (mz)), .int (nI (nf bb mz u9)), .int (nI (nx bb mz u9)), .int mv, .int 1, .ref ywa, .ref ybi, .ref ysi, .ref ynu, .ref ymo])), (ys, .inl (cI, 449, .inl ms)), (yta, .inl (cI, 120, .inl tp)), (ywa, .inl (cI, 6, .inl wa))]) (va_A [(h0, .inr (9, [.ref ys, .ref yk, .ref yo, .ref yt, .int mk0, .ref yfa, .ref yfe, .int mL, .int mS, .int mM, .ref yro, .ref yhe, .ref ygr, .int mF, .int mC, .int mY, .ref yta, .int (nI (mz)), .int (nI (nf bb mz u9)), .int (nI (nx bb mz u9)), .int mv, .int 1, .ref ywa, .ref ybi, .ref ysi, .ref ynu, .ref ymo])), (ys, .inl (cI, 449, .inl ms)), (yta, .inl (cI, 120, .inl tp)), (ywa, .inl (cI, 6, .inl wa))] sz)) 0 0 (va_A [(h0, .inr (9, [.ref ys, .ref yk, .ref yo, .ref yt, .int mk0, .ref yfa, .ref yfe, .int mL, .int mS, .int mM, .ref yro, .ref yhe, .ref ygr, .int mF, .int mC, .int mY, .ref yta, .int (nI (mz)), .int (nI (nf bb mz u9)), .int (nI (nx bb mz u9)), .int mv, .int 1, .ref ywa, .ref ybi, .ref ysi, .ref ynu, .ref ymo])), (ys, .inl (cI, 449, .inl ms)), (yta, .inl (cI, 120, .inl tp)), (ywa, .inl (cI, 6, .inl wa))] sz) := by
  refine xh (QA := fun A => XQv (fun (_ : Unit) => True) D (fun _ : Unit => [(h0, .inr (9, [.ref ys, .ref yk, .ref yo, .ref yt, .int mk0, .ref yfa, .ref yfe, .int mL, .int mS, .int mM, .ref yro, .ref yhe, .ref ygr, .int mF, .int mC, .int mY, .ref yta, .int (nI (mz)), .int (nI (nf bb mz u9)), .int (nI (nx bb mz u9)), .int mv, .int 1, .ref ywa, .ref ybi, .ref ysi, .ref ynu, .ref ymo])), (ys, .inl (cI, 449, .inl ms)), (yta, .inl (cI, 120, .inl tp)), (ywa, .inl (cI, 6, .inl wa))]) A) (fr := fun A => A) (by decide) (Nat.le_of_ble_eq_true rfl) ?_
  intro p e s m below meth c ls A hF hr hlk hin hsz hP hK hD hN hZ hA hS hl
  have hF : CallFix p m c cX9_item 2 s _ _ RX9 := hF
  have hx := hF.1
  have hb := hF.2.1
  have hml := hF.2.2.1
  have hown := hF.2.2.2.1
  have hu : ∀ w ∈ wsU, w.before _ s = true := fun w h => hF.2.2.2.2 w (List.mem_cons_of_mem _ h)
  have hl : lv_has ls 2 [(0, .ref h0)] := hl
  refine lv_aload_n hx hb dX9_item_0 rfl (lv_at hl 0 rfl) ?_
  refine lv_bipush (v := 119) hx hb dX9_item_1 (by decide) ?_
  refine lv_bipush (v := 97) hx hb dX9_item_3 (by decide) ?_
  refine lv_bipush (v := 121) hx hb dX9_item_5 (by decide) ?_
  refine lv_iconst (v := 0) hx hb dX9_item_7 (by decide) ?_
  refine lv_iconst (v := 0) hx hb dX9_item_8 (by decide) ?_
  refine lv_iconst (v := 0) hx hb dX9_item_9 (by decide) ?_
  refine lv_iconst (v := 0) hx hb dX9_item_10 (by decide) ?_
  refine xc_Vr hF (c_X9_isWordW l D cI cJ cZ cS ta sa sv s.heap.size h0 ys yk yo yt mk0 yfa yfe mL mS mM yro yhe ygr mF mC mY yta mz mv ywa ybi ysi ynu ymo tp 119 97 121 0 0 0 0 u9 bb (by omega) hbb (by omega)) kv_X9_290 ⟨rfl, rfl, Nat.le_of_ble_eq_true rfl, Nat.le_of_ble_eq_true rfl⟩ ⟨Nat.le_of_ble_eq_true rfl, Nat.le_of_ble_eq_true rfl⟩ hK hN hZ hP hD hS hA [0, 2] rfl rfl 0 rfl rfl rfl rfl hl.1 rfl (Nat.le_of_ble_eq_true rfl) dX9_item_11 (fun r_1 hw_r_1 => ?_)
  subst hw_r_1
  refine lv_if_eq (tgt := 24) hx hb dX9_item_14 (by decide) (fun c_2 => ?_) (fun c_2 => absurd (by decide) c_2)
  refine lv_aload_n hx hb dX9_item_24 rfl (lv_at hl 0 rfl) ?_
  refine lv_bipush (v := 119) hx hb dX9_item_25 (by decide) ?_
  refine lv_bipush (v := 97) hx hb dX9_item_27 (by decide) ?_
  refine lv_bipush (v := 108) hx hb dX9_item_29 (by decide) ?_
  refine lv_bipush (v := 107) hx hb dX9_item_31 (by decide) ?_
  refine lv_iconst (v := 0) hx hb dX9_item_33 (by decide) ?_
  refine lv_iconst (v := 0) hx hb dX9_item_34 (by decide) ?_
  refine lv_iconst (v := 0) hx hb dX9_item_35 (by decide) ?_
  refine xc_Vr hF (c_X9_isWordW l D cI cJ cZ cS ta sa sv s.heap.size h0 ys yk yo yt mk0 yfa yfe mL mS mM yro yhe ygr mF mC mY yta mz mv ywa ybi ysi ynu ymo tp 119 97 108 107 0 0 0 u9 bb (by omega) hbb (by omega)) kv_X9_290 ⟨rfl, rfl, Nat.le_of_ble_eq_true rfl, Nat.le_of_ble_eq_true rfl⟩ ⟨Nat.le_of_ble_eq_true rfl, Nat.le_of_ble_eq_true rfl⟩ hK hN hZ hP hD hS hA [0, 2] rfl rfl 0 rfl rfl rfl rfl hl.1 rfl (Nat.le_of_ble_eq_true rfl) dX9_item_36 (fun r_3 hw_r_3 => ?_)
  subst hw_r_3
  refine lv_if_eq (tgt := 49) hx hb dX9_item_39 (by decide) (fun c_4 => ?_) (fun c_4 => absurd (by decide) c_4)
  refine lv_aload_n hx hb dX9_item_49 rfl (lv_at hl 0 rfl) ?_
  refine lv_aload_n hx hb dX9_item_50 rfl (lv_at hl 0 rfl) ?_
  refine lv_bipush (v := 112) hx hb dX9_item_51 (by decide) ?_
  refine lv_bipush (v := 108) hx hb dX9_item_53 (by decide) ?_
  refine lv_bipush (v := 97) hx hb dX9_item_55 (by decide) ?_
  refine lv_bipush (v := 99) hx hb dX9_item_57 (by decide) ?_
  refine lv_bipush (v := 101) hx hb dX9_item_59 (by decide) ?_
  refine lv_iconst (v := 0) hx hb dX9_item_61 (by decide) ?_
  refine lv_iconst (v := 0) hx hb dX9_item_62 (by decide) ?_
  refine xc_Vr hF (c_X9_isWordW l D cI cJ cZ cS ta sa sv s.heap.size h0 ys yk yo yt mk0 yfa yfe mL mS mM yro yhe ygr mF mC mY yta mz mv ywa ybi ysi ynu ymo tp 112 108 97 99 101 0 0 u9 bb (by omega) hbb (by omega)) kv_X9_290 ⟨rfl, rfl, Nat.le_of_ble_eq_true rfl, Nat.le_of_ble_eq_true rfl⟩ ⟨Nat.le_of_ble_eq_true rfl, Nat.le_of_ble_eq_true rfl⟩ hK hN hZ hP hD hS hA [0, 2] rfl rfl 0 rfl rfl rfl rfl hl.1 rfl (Nat.le_of_ble_eq_true rfl) dX9_item_63 (fun r_5 hw_r_5 => ?_)
  subst hw_r_5
  refine lv_if_eq (tgt := 84) hx hb dX9_item_66 (by decide) (fun c_6 => ?_) (fun c_6 => absurd (by decide) c_6)
  refine lv_iconst (v := 0) hx hb dX9_item_84 (by decide) ?_
  refine xc_Vv (wr := [(ys, .inl (cI, 449, .inl ms)), (ywa, .inl (cI, 6, .inl wa))]) hF (c_X9_needsW l D cI cJ cZ cS ta sa sv s.heap.size h0 ys yk yo yt mk0 yfa yfe mL mS mM yro yhe ygr mF mC mY yta mz mv ywa ybi ysi ynu ymo tp 0 u9 bb (by omega) hbb (by omega)) kv_X9_278 ⟨rfl, rfl, Nat.le_of_ble_eq_true rfl, Nat.le_of_ble_eq_true rfl⟩ ⟨Nat.le_of_ble_eq_true rfl, Nat.le_of_ble_eq_true rfl⟩ hK hN hZ hP hD hS hA [0, 2] [1, 3] rfl rfl rfl rfl (by decide) 0 rfl rfl rfl rfl hl.1 rfl (Nat.le_of_ble_eq_true rfl) dX9_item_85 (fun u_r_7 H locs hw_r_7 hP hD hS => ?_)
  have hP : va_P D vwCl [(ys, .inl (cI, 449, .inl ms)), (ywa, .inl (cI, 6, .inl wa)), (h0, .inr (9, [.ref ys, .ref yk, .ref yo, .ref yt, .int mk0, .ref yfa, .ref yfe, .int mL, .int mS, .int mM, .ref yro, .ref yhe, .ref ygr, .int mF, .int mC, .int mY, .ref yta, .int (nI (mz)), .int (nI (nf bb mz u9)), .int (nI (nx bb mz u9)), .int mv, .int 1, .ref ywa, .ref ybi, .ref ysi, .ref ynu, .ref ymo])), (yta, .inl (cI, 120, .inl tp))] H := hP
  have hD : va_D A [(ys, .inl (cI, 449, .inl ms)), (ywa, .inl (cI, 6, .inl wa)), (h0, .inr (9, [.ref ys, .ref yk, .ref yo, .ref yt, .int mk0, .ref yfa, .ref yfe, .int mL, .int mS, .int mM, .ref yro, .ref yhe, .ref ygr, .int mF, .int mC, .int mY, .ref yta, .int (nI (mz)), .int (nI (nf bb mz u9)), .int (nI (nx bb mz u9)), .int mv, .int 1, .ref ywa, .ref ybi, .ref ysi, .ref ynu, .ref ymo])), (yta, .inl (cI, 120, .inl tp))] := hD
  refine lv_aload_n hx hb dX9_item_88 rfl (lv_at hl 0 rfl) ?_
  refine xg hF kf_X9_266 hK hP 2 rfl rfl dX9_item_89 ?_
  refine lv_if_eq (tgt := 99) hx hb dX9_item_92 (by decide) (fun c_8 => absurd c_8 (by decide)) (fun c_8 => ?_)
  refine lv_iconst (v := 0) hx hb dX9_item_95 (by decide) ?_
  refine lv_goto (tgt := 103) hx hb dX9_item_96 (by decide) ?_
  refine lv_istore_n (lv' := [(1, .int 0), (0, .ref h0)]) hx hb dX9_item_103 rfl hl (by decide) rfl (fun ls hl => ?_)
  refine lv_aload_n hx hb dX9_item_104 rfl (lv_at hl 1 rfl) ?_
  refine lv_bipush (v := 101) hx hb dX9_item_105 (by decide) ?_
  refine lv_bipush (v := 114) hx hb dX9_item_107 (by decide) ?_
  refine lv_bipush (v := 114) hx hb dX9_item_109 (by decide) ?_
  refine lv_bipush (v := 97) hx hb dX9_item_111 (by decide) ?_
  refine lv_bipush (v := 110) hx hb dX9_item_113 (by decide) ?_
  refine lv_bipush (v := 100) hx hb dX9_item_115 (by decide) ?_
  refine lv_bipush (v := 115) hx hb dX9_item_117 (by decide) ?_
  refine xc_Vr hF (c_X9_isWordW l D cI cJ cZ cS ta sa sv H.size h0 ys yk yo yt mk0 yfa yfe mL mS mM yro yhe ygr mF mC mY yta mz mv ywa ybi ysi ynu ymo tp 101 114 114 97 110 100 115 u9 bb (by omega) hbb (by omega)) kv_X9_290 ⟨rfl, rfl, Nat.le_of_ble_eq_true rfl, Nat.le_of_ble_eq_true rfl⟩ ⟨Nat.le_of_ble_eq_true rfl, Nat.le_of_ble_eq_true rfl⟩ hK hN hZ hP hD hS hA [2, 3] rfl rfl 0 rfl rfl rfl rfl hl.1 rfl (Nat.le_of_ble_eq_true rfl) dX9_item_119 (fun r_9 hw_r_9 => ?_)
  subst hw_r_9
  refine lv_if_eq (tgt := 156) hx hb dX9_item_122 (by decide) (fun c_10 => ?_) (fun c_10 => absurd (by decide) c_10)
  exact W.vret hx hb hr (fun t ht hW => ⟨⟨(), rfl, trivial, by rw [ht]; exact hP.sub [2, 0, 3, 1] rfl, hD.sub [2, 0, 3, 1] (by decide) rfl⟩, hS.F ht⟩) hS.2.2 dX9_item_156 hlk
set_option maxHeartbeats 4000000 in
set_option maxRecDepth 100000 in
theorem c_X9_item0 (l : Launch) (D : va_G) (cI cJ cZ cS : ClassId) (ta : Nat) (sa sv : Nat → Nat) (sz : Nat) (h0 : Nat) (ys : Nat) (yk : Nat) (yo : Nat) (yt : Nat) (mk0 : Int32) (yfa : Nat) (yfe : Nat) (mL : Int32) (mS : Int32) (mM : Int32) (yro : Nat) (yhe : Nat) (ygr : Nat) (mF : Int32) (mC : Int32) (mY : Int32) (yta : Nat) (mz : Nat) (mv : Int32) (ywa : Nat) (ybi : Nat) (ysi : Nat) (ynu : Nat) (ymo : Nat) (ms : Nat → Int32) (tp : Nat → Int32) (wa : Nat → Int32) (P : Nat) (Rn : Nat) (Wn : Nat) (fae : Nat → Int32) (fal : Nat → Int32) (fau : Nat → Int32) (fao : Nat → Int32) (farn : Nat → Int32) (farp : Nat → Int32) (fak : Nat → Int32) (fawn : Nat → Int32) (fawp : Nat → Int32) (fat : Nat → Int32) (fas : Nat → Int32) (u9 : Nat) (bb : Nat → Int32) (hz : mz ≤ 120) (hbb : bA tp mz = bb) (hu9 : u9 ≤ mz) (hs0 : ms 0 = nI P) (hs1 : ms 1 = nI Rn) (hs2 : ms 2 = nI Wn) (hsS : SI ms) (hsM : MI ms) (hsp : P ≤ 10) (hsr : Rn ≤ 8) (hsw : Wn ≤ 8) (hsR : RI Rn ms) (hsG : FR P ms fae fal fau fao farn farp fak fawn fawp fat fas) : Met l yX9_item (Cond.code yX9_item cX9_item 2 none :: wsU) ({ frames := 7, cells := 0, slots := 0, locals := 162 }) (va_Pc [.ref h0] (XW D (xT cI cJ cZ cS) ta sa sv [(h0, .inr (9, [.ref ys, .ref yk, .ref yo, .ref yt, .int mk0, .ref yfa, .ref yfe, .int mL, .int mS, .int mM, .ref yro, .ref yhe, .ref ygr, .int mF, .int mC, .int mY, .ref yta, .int (nI (mz)), .int (nI (nf bb mz u9)), .int (nI (nx bb mz u9)), .int mv, .int 0, .ref ywa, .ref ybi, .ref ysi, .ref ynu, .ref ymo])), (ys, .inl (cI, 449, .inl ms)), (yta, .inl (cI, 120, .inl tp)), (ywa, .inl (cI, 6, .inl wa))] sz)) (XQv (fun (u : Nat × Int32 × Int32 × (Nat → Int32) × Nat × Nat × (Nat → Int32) × (Nat → Int32) × (Nat → Int32) × (Nat → Int32) × (Nat → Int32) × (Nat → Int32) × (Nat → Int32) × (Nat → Int32) × (Nat → Int32)) => match u with | (u2, w2, v2, ms2, P2, W2, wa2, ge, gl, gu, go, gwn, gwp, gt, gs) => (((spItem bb mz u9 P Wn = Sum.inr u2) ∧ (w2 = 0) ∧ (P2 = spP bb mz u9 P) ∧ (W2 = spW bb mz u9 Wn) ∧ (u9 < u2) ∧ (ge = stE bb mz u9 P Wn fae) ∧ (gl = stL bb mz u9 P Wn fal) ∧ (gu = stU bb mz u9 P Wn fau) ∧ (go = stO bb mz u9 P Wn fao) ∧ (gwn = stN bb mz u9 P Wn fawn) ∧ (gwp = stR bb mz u9 P Wn fawp) ∧ (gt = stT bb mz u9 P Wn fat) ∧ (gs = stS bb mz u9 P Wn fas)) ∨ ((spItem bb mz u9 P Wn = Sum.inl u2) ∧ (w2 = 1))) ∧ (u2 ≤ mz) ∧ (ms2 0 = nI P2) ∧ (ms2 1 = nI Rn) ∧ (ms2 2 = nI W2) ∧ (SI ms2) ∧ (MI ms2) ∧ (P2 ≤ 10) ∧ (Rn ≤ 8) ∧ (W2 ≤ 8) ∧ (RI Rn ms2) ∧ (FR P2 ms2 ge gl gu go farn farp fak gwn gwp gt gs)) D (fun (u : Nat × Int32 × Int32 × (Nat → Int32) × Nat × Nat × (Nat → Int32) × (Nat → Int32) × (Nat → Int32) × (Nat → Int32) × (Nat → Int32) × (Nat → Int32) × (Nat → Int32) × (Nat → Int32) × (Nat → Int32)) => match u with | (u2, w2, v2, ms2, P2, W2, wa2, ge, gl, gu, go, gwn, gwp, gt, gs) => [(h0, .inr (9, [.ref ys, .ref yk, .ref yo, .ref yt, .int mk0, .ref yfa, .ref yfe, .int mL, .int mS, .int mM, .ref yro, .ref yhe, .ref ygr, .int mF, .int mC, .int mY, .ref yta, .int (nI (mz)), .int (nI (nf bb mz u2)), .int (nI (nx bb mz u2)), .int v2, .int w2, .ref ywa, .ref ybi, .ref ysi, .ref ynu, .ref ymo])), (ys, .inl (cI, 449, .inl ms2)), (yta, .inl (cI, 120, .inl tp)), (ywa, .inl (cI, 6, .inl wa2))]) (va_A [(h0, .inr (9, [.ref ys, .ref yk, .ref yo, .ref yt, .int mk0, .ref yfa, .ref yfe, .int mL, .int mS, .int mM, .ref yro, .ref yhe, .ref ygr, .int mF, .int mC, .int mY, .ref yta, .int (nI (mz)), .int (nI (nf bb mz u9)), .int (nI (nx bb mz u9)), .int mv, .int 0, .ref ywa, .ref ybi, .ref ysi, .ref ynu, .ref ymo])), (ys, .inl (cI, 449, .inl ms)), (yta, .inl (cI, 120, .inl tp)), (ywa, .inl (cI, 6, .inl wa))] sz)) 0 0 (va_A [(h0, .inr (9, [.ref ys, .ref yk, .ref yo, .ref yt, .int mk0, .ref yfa, .ref yfe, .int mL, .int mS, .int mM, .ref yro, .ref yhe, .ref ygr, .int mF, .int mC, .int mY, .ref yta, .int (nI (mz)), .int (nI (nf bb mz u9)), .int (nI (nx bb mz u9)), .int mv, .int 0, .ref ywa, .ref ybi, .ref ysi, .ref ynu, .ref ymo])), (ys, .inl (cI, 449, .inl ms)), (yta, .inl (cI, 120, .inl tp)), (ywa, .inl (cI, 6, .inl wa))] sz) := by
  refine xh (QA := fun A => XQv (fun (u : Nat × Int32 × Int32 × (Nat → Int32) × Nat × Nat × (Nat → Int32) × (Nat → Int32) × (Nat → Int32) × (Nat → Int32) × (Nat → Int32) × (Nat → Int32) × (Nat → Int32) × (Nat → Int32) × (Nat → Int32)) => match u with | (u2, w2, v2, ms2, P2, W2, wa2, ge, gl, gu, go, gwn, gwp, gt, gs) => (((spItem bb mz u9 P Wn = Sum.inr u2) ∧ (w2 = 0) ∧ (P2 = spP bb mz u9 P) ∧ (W2 = spW bb mz u9 Wn) ∧ (u9 < u2) ∧ (ge = stE bb mz u9 P Wn fae) ∧ (gl = stL bb mz u9 P Wn fal) ∧ (gu = stU bb mz u9 P Wn fau) ∧ (go = stO bb mz u9 P Wn fao) ∧ (gwn = stN bb mz u9 P Wn fawn) ∧ (gwp = stR bb mz u9 P Wn fawp) ∧ (gt = stT bb mz u9 P Wn fat) ∧ (gs = stS bb mz u9 P Wn fas)) ∨ ((spItem bb mz u9 P Wn = Sum.inl u2) ∧ (w2 = 1))) ∧ (u2 ≤ mz) ∧ (ms2 0 = nI P2) ∧ (ms2 1 = nI Rn) ∧ (ms2 2 = nI W2) ∧ (SI ms2) ∧ (MI ms2) ∧ (P2 ≤ 10) ∧ (Rn ≤ 8) ∧ (W2 ≤ 8) ∧ (RI Rn ms2) ∧ (FR P2 ms2 ge gl gu go farn farp fak gwn gwp gt gs)) D (fun (u : Nat × Int32 × Int32 × (Nat → Int32) × Nat × Nat × (Nat → Int32) × (Nat → Int32) × (Nat → Int32) × (Nat → Int32) × (Nat → Int32) × (Nat → Int32) × (Nat → Int32) × (Nat → Int32) × (Nat → Int32)) => match u with | (u2, w2, v2, ms2, P2, W2, wa2, ge, gl, gu, go, gwn, gwp, gt, gs) => [(h0, .inr (9, [.ref ys, .ref yk, .ref yo, .ref yt, .int mk0, .ref yfa, .ref yfe, .int mL, .int mS, .int mM, .ref yro, .ref yhe, .ref ygr, .int mF, .int mC, .int mY, .ref yta, .int (nI (mz)), .int (nI (nf bb mz u2)), .int (nI (nx bb mz u2)), .int v2, .int w2, .ref ywa, .ref ybi, .ref ysi, .ref ynu, .ref ymo])), (ys, .inl (cI, 449, .inl ms2)), (yta, .inl (cI, 120, .inl tp)), (ywa, .inl (cI, 6, .inl wa2))]) A) (fr := fun A => A) (by decide) (Nat.le_of_ble_eq_true rfl) ?_
  intro p e s m below meth c ls A hF hr hlk hin hsz hP hK hD hN hZ hA hS hl
  have hF : CallFix p m c cX9_item 2 s _ _ RX9 := hF
  have hx := hF.1
  have hb := hF.2.1
  have hml := hF.2.2.1
  have hown := hF.2.2.2.1
  have hu : ∀ w ∈ wsU, w.before _ s = true := fun w h => hF.2.2.2.2 w (List.mem_cons_of_mem _ h)
  have hl : lv_has ls 2 [(0, .ref h0)] := hl
  have htk := tk_le (b := bb) hu9
  refine lv_aload_n hx hb dX9_item_0 rfl (lv_at hl 0 rfl) ?_
  refine lv_bipush (v := 119) hx hb dX9_item_1 (by decide) ?_
  refine lv_bipush (v := 97) hx hb dX9_item_3 (by decide) ?_
  refine lv_bipush (v := 121) hx hb dX9_item_5 (by decide) ?_
  refine lv_iconst (v := 0) hx hb dX9_item_7 (by decide) ?_
  refine lv_iconst (v := 0) hx hb dX9_item_8 (by decide) ?_
  refine lv_iconst (v := 0) hx hb dX9_item_9 (by decide) ?_
  refine lv_iconst (v := 0) hx hb dX9_item_10 (by decide) ?_
  refine xc_Vr hF (c_X9_isWord_1 l D cI cJ cZ cS ta sa sv s.heap.size h0 ys yk yo yt mk0 yfa yfe mL mS mM yro yhe ygr mF mC mY yta mz mv ywa ybi ysi ynu ymo tp u9 bb (by omega) hbb (by omega)) kv_X9_290 ⟨rfl, rfl, Nat.le_of_ble_eq_true rfl, Nat.le_of_ble_eq_true rfl⟩ ⟨Nat.le_of_ble_eq_true rfl, Nat.le_of_ble_eq_true rfl⟩ hK hN hZ hP hD hS hA [0, 2] rfl rfl 0 rfl rfl rfl rfl hl.1 rfl (Nat.le_of_ble_eq_true rfl) dX9_item_11 (fun r_1 hw_r_1 => ?_)
  rcases hw_r_1 with ⟨rfl, h_2⟩ | ⟨rfl, h_3⟩
  · skip
    refine lv_if_eq (tgt := 24) hx hb dX9_item_14 (by decide) (fun c_4 => absurd c_4 (by decide)) (fun c_4 => ?_)
    refine lv_aload_n hx hb dX9_item_17 rfl (lv_at hl 0 rfl) ?_
    refine xc_Vv (wr := [(ywa, .inl (cI, 6, .inl wa))]) hF (c_X9_wayItem l D cI cJ cZ cS ta sa sv s.heap.size h0 ys yk yo yt mk0 yfa yfe mL mS mM yro yhe ygr mF mC mY yta mz mv ywa ybi ysi ynu ymo ms tp P Rn Wn fae fal fau fao farn farp fak fawn fawp fat fas u9 bb (by omega) hbb (by omega) hs0 hs1 hs2 hsS hsM hsp hsr hsw hsR hsG) kv_X9_294 ⟨rfl, rfl, Nat.le_of_ble_eq_true rfl, Nat.le_of_ble_eq_true rfl⟩ ⟨Nat.le_of_ble_eq_true rfl, Nat.le_of_ble_eq_true rfl⟩ hK hN hZ hP hD hS hA [0, 1, 2] [3] rfl rfl rfl rfl (by decide) 0 rfl rfl rfl rfl hl.1 rfl (Nat.le_of_ble_eq_true rfl) dX9_item_18 (fun u_r_5 H locs hw_r_5 hP hD hS => ?_)
    obtain ⟨u2_6, w2_7, v2_8, ms2_9, gl_10, gu_11, go_12⟩ := u_r_5
    try dsimp only at hw_r_5
    obtain ⟨hw_r_5, i_13, i_14, i_15, i_16, i_17, i_18, i_19, i_20, i_21, i_22, i_23⟩ := hw_r_5
    have hP : va_P D vwCl [(ywa, .inl (cI, 6, .inl wa)), (h0, .inr (9, [.ref ys, .ref yk, .ref yo, .ref yt, .int mk0, .ref yfa, .ref yfe, .int mL, .int mS, .int mM, .ref yro, .ref yhe, .ref ygr, .int mF, .int mC, .int mY, .ref yta, .int (nI (mz)), .int (nI (nf bb mz u2_6)), .int (nI (nx bb mz u2_6)), .int v2_8, .int w2_7, .ref ywa, .ref ybi, .ref ysi, .ref ynu, .ref ymo])), (ys, .inl (cI, 449, .inl ms2_9)), (yta, .inl (cI, 120, .inl tp))] H := hP
    have hD : va_D A [(ywa, .inl (cI, 6, .inl wa)), (h0, .inr (9, [.ref ys, .ref yk, .ref yo, .ref yt, .int mk0, .ref yfa, .ref yfe, .int mL, .int mS, .int mM, .ref yro, .ref yhe, .ref ygr, .int mF, .int mC, .int mY, .ref yta, .int (nI (mz)), .int (nI (nf bb mz u2_6)), .int (nI (nx bb mz u2_6)), .int v2_8, .int w2_7, .ref ywa, .ref ybi, .ref ysi, .ref ynu, .ref ymo])), (ys, .inl (cI, 449, .inl ms2_9)), (yta, .inl (cI, 120, .inl tp))] := hD
    rcases hw_r_5 with ⟨h_24, h_25, h_26, h_27, h_28, h_29⟩ | ⟨h_30, h_31⟩
    · skip
      subst h_25
      refine lv_goto (tgt := 156) hx hb dX9_item_21 (by decide) ?_
      exact W.vret hx hb hr (fun t ht hW => ⟨⟨(u2_6, 0, v2_8, ms2_9, P, Wn, wa, fae, gl_10, gu_11, go_12, fawn, fawp, fat, fas), rfl, ⟨Or.inl ⟨(cif_neg (tW_ne (j := 0) h_2 (show xLen.getD 1 0 ≠ xLen.getD 0 0 by decide))).trans ((cif_pos (h_2)).trans (h_24)), rfl, (cif_neg (tW_ne (j := 0) h_2 (show xLen.getD 1 0 ≠ xLen.getD 0 0 by decide))).symm, (cif_neg (tW_ne (j := 2) h_2 (show xLen.getD 1 0 ≠ xLen.getD 2 0 by decide))).symm, (by have h9 := tW_lt (by decide) hu9 h_2; omega), (cif_neg (tW_ne (j := 0) h_2 (show xLen.getD 1 0 ≠ xLen.getD 0 0 by decide))).symm, (h_27.trans (cif_pos h_2).symm), (h_28.trans (cif_pos h_2).symm), (h_29.trans (cif_pos h_2).symm), (cif_neg (tW_ne (j := 2) h_2 (show xLen.getD 1 0 ≠ xLen.getD 2 0 by decide))).symm, (cif_neg (tW_ne (j := 2) h_2 (show xLen.getD 1 0 ≠ xLen.getD 2 0 by decide))).symm, (cif_neg (tW_ne (j := 2) h_2 (show xLen.getD 1 0 ≠ xLen.getD 2 0 by decide))).symm, (cif_neg (tW_ne (j := 2) h_2 (show xLen.getD 1 0 ≠ xLen.getD 2 0 by decide))).symm⟩, (by first | assumption | omega), i_14, i_15, i_16, i_17, i_18, i_19, i_20, i_21, i_22, i_23⟩, by rw [ht]; exact hP.sub [1, 2, 3, 0] rfl, hD.sub [1, 2, 3, 0] (by decide) rfl⟩, hS.F ht⟩) hS.2.2 dX9_item_156 hlk
    · skip
      subst h_31
      refine lv_goto (tgt := 156) hx hb dX9_item_21 (by decide) ?_
      exact W.vret hx hb hr (fun t ht hW => ⟨⟨(u2_6, 1, v2_8, ms2_9, P, Wn, wa, fae, gl_10, gu_11, go_12, fawn, fawp, fat, fas), rfl, ⟨Or.inr ⟨(cif_neg (tW_ne (j := 0) h_2 (show xLen.getD 1 0 ≠ xLen.getD 0 0 by decide))).trans ((cif_pos (h_2)).trans (h_30)), rfl⟩, (by first | assumption | omega), i_14, i_15, i_16, i_17, i_18, i_19, i_20, i_21, i_22, i_23⟩, by rw [ht]; exact hP.sub [1, 2, 3, 0] rfl, hD.sub [1, 2, 3, 0] (by decide) rfl⟩, hS.F ht⟩) hS.2.2 dX9_item_156 hlk
  · skip
    refine lv_if_eq (tgt := 24) hx hb dX9_item_14 (by decide) (fun c_32 => ?_) (fun c_32 => absurd (by decide) c_32)
    refine lv_aload_n hx hb dX9_item_24 rfl (lv_at hl 0 rfl) ?_
    refine lv_bipush (v := 119) hx hb dX9_item_25 (by decide) ?_
    refine lv_bipush (v := 97) hx hb dX9_item_27 (by decide) ?_
    refine lv_bipush (v := 108) hx hb dX9_item_29 (by decide) ?_
    refine lv_bipush (v := 107) hx hb dX9_item_31 (by decide) ?_
    refine lv_iconst (v := 0) hx hb dX9_item_33 (by decide) ?_
    refine lv_iconst (v := 0) hx hb dX9_item_34 (by decide) ?_
    refine lv_iconst (v := 0) hx hb dX9_item_35 (by decide) ?_
    refine xc_Vr hF (c_X9_isWord_2 l D cI cJ cZ cS ta sa sv s.heap.size h0 ys yk yo yt mk0 yfa yfe mL mS mM yro yhe ygr mF mC mY yta mz mv ywa ybi ysi ynu ymo tp u9 bb (by omega) hbb (by omega)) kv_X9_290 ⟨rfl, rfl, Nat.le_of_ble_eq_true rfl, Nat.le_of_ble_eq_true rfl⟩ ⟨Nat.le_of_ble_eq_true rfl, Nat.le_of_ble_eq_true rfl⟩ hK hN hZ hP hD hS hA [0, 2] rfl rfl 0 rfl rfl rfl rfl hl.1 rfl (Nat.le_of_ble_eq_true rfl) dX9_item_36 (fun r_33 hw_r_33 => ?_)
    rcases hw_r_33 with ⟨rfl, h_34⟩ | ⟨rfl, h_35⟩
    · skip
      refine lv_if_eq (tgt := 49) hx hb dX9_item_39 (by decide) (fun c_36 => absurd c_36 (by decide)) (fun c_36 => ?_)
      refine lv_aload_n hx hb dX9_item_42 rfl (lv_at hl 0 rfl) ?_
      refine xc_Vv (wr := []) hF (c_X9_walkItem l D cI cJ cZ cS ta sa sv s.heap.size h0 ys yk yo yt mk0 yfa yfe mL mS mM yro yhe ygr mF mC mY yta mz mv ywa ybi ysi ynu ymo ms tp wa P Rn Wn fae fal fau fao farn farp fak fawn fawp fat fas u9 bb (by omega) hbb (by omega) hs0 hs1 hs2 hsS hsM hsp hsr hsw hsR hsG) kv_X9_297 ⟨rfl, rfl, Nat.le_of_ble_eq_true rfl, Nat.le_of_ble_eq_true rfl⟩ ⟨Nat.le_of_ble_eq_true rfl, Nat.le_of_ble_eq_true rfl⟩ hK hN hZ hP hD hS hA [0, 1, 2, 3] [] rfl rfl rfl rfl (by decide) 0 rfl rfl rfl rfl hl.1 rfl (Nat.le_of_ble_eq_true rfl) dX9_item_43 (fun u_r_37 H locs hw_r_37 hP hD hS => ?_)
      obtain ⟨u2_38, w2_39, v2_40, ms2_41, W2_42, wa2_43, gwn_44, gwp_45, gt_46, gs_47⟩ := u_r_37
      try dsimp only at hw_r_37
      obtain ⟨hw_r_37, i_48, i_49, i_50, i_51, i_52, i_53, i_54, i_55, i_56, i_57, i_58⟩ := hw_r_37
      have hP : va_P D vwCl [(h0, .inr (9, [.ref ys, .ref yk, .ref yo, .ref yt, .int mk0, .ref yfa, .ref yfe, .int mL, .int mS, .int mM, .ref yro, .ref yhe, .ref ygr, .int mF, .int mC, .int mY, .ref yta, .int (nI (mz)), .int (nI (nf bb mz u2_38)), .int (nI (nx bb mz u2_38)), .int v2_40, .int w2_39, .ref ywa, .ref ybi, .ref ysi, .ref ynu, .ref ymo])), (ys, .inl (cI, 449, .inl ms2_41)), (yta, .inl (cI, 120, .inl tp)), (ywa, .inl (cI, 6, .inl wa2_43))] H := hP
      have hD : va_D A [(h0, .inr (9, [.ref ys, .ref yk, .ref yo, .ref yt, .int mk0, .ref yfa, .ref yfe, .int mL, .int mS, .int mM, .ref yro, .ref yhe, .ref ygr, .int mF, .int mC, .int mY, .ref yta, .int (nI (mz)), .int (nI (nf bb mz u2_38)), .int (nI (nx bb mz u2_38)), .int v2_40, .int w2_39, .ref ywa, .ref ybi, .ref ysi, .ref ynu, .ref ymo])), (ys, .inl (cI, 449, .inl ms2_41)), (yta, .inl (cI, 120, .inl tp)), (ywa, .inl (cI, 6, .inl wa2_43))] := hD
      rcases hw_r_37 with ⟨h_59, h_60, h_61, h_62, h_63, h_64, h_65, h_66⟩ | ⟨h_67, h_68⟩
      · skip
        subst h_60
        subst h_61
        refine lv_goto (tgt := 156) hx hb dX9_item_46 (by decide) ?_
        exact W.vret hx hb hr (fun t ht hW => ⟨⟨(u2_38, 0, v2_40, ms2_41, P, (Wn + 1), wa2_43, fae, fal, fau, fao, gwn_44, gwp_45, gt_46, gs_47), rfl, ⟨Or.inl ⟨(cif_neg (tW_ne (j := 0) h_34 (show xLen.getD 2 0 ≠ xLen.getD 0 0 by decide))).trans ((cif_neg (h_3)).trans ((cif_pos (h_34)).trans (h_59))), rfl, (cif_neg (tW_ne (j := 0) h_34 (show xLen.getD 2 0 ≠ xLen.getD 0 0 by decide))).symm, (cif_pos h_34).symm, (by have h9 := tW_lt (by decide) hu9 h_34; omega), (cif_neg (tW_ne (j := 0) h_34 (show xLen.getD 2 0 ≠ xLen.getD 0 0 by decide))).symm, (cif_neg h_3).symm, (cif_neg h_3).symm, (cif_neg h_3).symm, (h_63.trans (cif_pos h_34).symm), (h_64.trans (cif_pos h_34).symm), (h_65.trans (cif_pos h_34).symm), (h_66.trans (cif_pos h_34).symm)⟩, (by first | assumption | omega), i_49, i_50, i_51, i_52, i_53, i_54, i_55, i_56, i_57, i_58⟩, by rw [ht]; exact hP.sub [0, 1, 2, 3] rfl, hD.sub [0, 1, 2, 3] (by decide) rfl⟩, hS.F ht⟩) hS.2.2 dX9_item_156 hlk
      · skip
        subst h_68
        refine lv_goto (tgt := 156) hx hb dX9_item_46 (by decide) ?_
        exact W.vret hx hb hr (fun t ht hW => ⟨⟨(u2_38, 1, v2_40, ms2_41, P, W2_42, wa2_43, fae, fal, fau, fao, gwn_44, gwp_45, gt_46, gs_47), rfl, ⟨Or.inr ⟨(cif_neg (tW_ne (j := 0) h_34 (show xLen.getD 2 0 ≠ xLen.getD 0 0 by decide))).trans ((cif_neg (h_3)).trans ((cif_pos (h_34)).trans (h_67))), rfl⟩, (by first | assumption | omega), i_49, i_50, i_51, i_52, i_53, i_54, i_55, i_56, i_57, i_58⟩, by rw [ht]; exact hP.sub [0, 1, 2, 3] rfl, hD.sub [0, 1, 2, 3] (by decide) rfl⟩, hS.F ht⟩) hS.2.2 dX9_item_156 hlk
    · skip
      refine lv_if_eq (tgt := 49) hx hb dX9_item_39 (by decide) (fun c_69 => ?_) (fun c_69 => absurd (by decide) c_69)
      refine lv_aload_n hx hb dX9_item_49 rfl (lv_at hl 0 rfl) ?_
      refine lv_aload_n hx hb dX9_item_50 rfl (lv_at hl 0 rfl) ?_
      refine lv_bipush (v := 112) hx hb dX9_item_51 (by decide) ?_
      refine lv_bipush (v := 108) hx hb dX9_item_53 (by decide) ?_
      refine lv_bipush (v := 97) hx hb dX9_item_55 (by decide) ?_
      refine lv_bipush (v := 99) hx hb dX9_item_57 (by decide) ?_
      refine lv_bipush (v := 101) hx hb dX9_item_59 (by decide) ?_
      refine lv_iconst (v := 0) hx hb dX9_item_61 (by decide) ?_
      refine lv_iconst (v := 0) hx hb dX9_item_62 (by decide) ?_
      refine xc_Vr hF (c_X9_isWord_0 l D cI cJ cZ cS ta sa sv s.heap.size h0 ys yk yo yt mk0 yfa yfe mL mS mM yro yhe ygr mF mC mY yta mz mv ywa ybi ysi ynu ymo tp u9 bb (by omega) hbb (by omega)) kv_X9_290 ⟨rfl, rfl, Nat.le_of_ble_eq_true rfl, Nat.le_of_ble_eq_true rfl⟩ ⟨Nat.le_of_ble_eq_true rfl, Nat.le_of_ble_eq_true rfl⟩ hK hN hZ hP hD hS hA [0, 2] rfl rfl 0 rfl rfl rfl rfl hl.1 rfl (Nat.le_of_ble_eq_true rfl) dX9_item_63 (fun r_70 hw_r_70 => ?_)
      rcases hw_r_70 with ⟨rfl, h_71⟩ | ⟨rfl, h_72⟩
      · skip
        refine lv_if_eq (tgt := 84) hx hb dX9_item_66 (by decide) (fun c_73 => absurd c_73 (by decide)) (fun c_73 => ?_)
        refine lv_aload_n hx hb dX9_item_69 rfl (lv_at hl 0 rfl) ?_
        refine xg hF kf_X9_7 hK hP 0 rfl rfl dX9_item_70 ?_
        refine lv_iconst (v := 0) hx hb dX9_item_73 (by decide) ?_
        refine va_iald hx hb hK hP 1 0 rfl rfl (xin 0 449 (by decide) (by decide)) dX9_item_74 ?_
        refine xl_i (y := nI (P)) hs0 ?_
        refine lv_bipush (v := 10) hx hb dX9_item_75 (by decide) ?_
        refine lv_icmp_ge (tgt := 84) hx hb dX9_item_77 (by decide) (fun c_74 => ?_) (fun c_74 => ?_)
        · skip
          have nc_74 : 10 ≤ P := xn_le (a := 10) (b := P) (by omega) (by omega) c_74
          refine lv_iconst (v := 0) hx hb dX9_item_84 (by decide) ?_
          refine xc_Vv (wr := [(ys, .inl (cI, 449, .inl ms)), (ywa, .inl (cI, 6, .inl wa))]) hF (c_X9_needs0 l D cI cJ cZ cS ta sa sv s.heap.size h0 ys yk yo yt mk0 yfa yfe mL mS mM yro yhe ygr mF mC mY yta mz mv ywa ybi ysi ynu ymo tp u9 bb (by omega) hbb (by omega)) kv_X9_278 ⟨rfl, rfl, Nat.le_of_ble_eq_true rfl, Nat.le_of_ble_eq_true rfl⟩ ⟨Nat.le_of_ble_eq_true rfl, Nat.le_of_ble_eq_true rfl⟩ hK hN hZ hP hD hS hA [0, 2] [1, 3] rfl rfl rfl rfl (by decide) 0 rfl rfl rfl rfl hl.1 rfl (Nat.le_of_ble_eq_true rfl) dX9_item_85 (fun u_r_75 H locs hw_r_75 hP hD hS => ?_)
          have hP : va_P D vwCl [(ys, .inl (cI, 449, .inl ms)), (ywa, .inl (cI, 6, .inl wa)), (h0, .inr (9, [.ref ys, .ref yk, .ref yo, .ref yt, .int mk0, .ref yfa, .ref yfe, .int mL, .int mS, .int mM, .ref yro, .ref yhe, .ref ygr, .int mF, .int mC, .int mY, .ref yta, .int (nI (mz)), .int (nI (nf bb mz u9)), .int (nI (nx bb mz u9)), .int mv, .int 1, .ref ywa, .ref ybi, .ref ysi, .ref ynu, .ref ymo])), (yta, .inl (cI, 120, .inl tp))] H := hP
          have hD : va_D A [(ys, .inl (cI, 449, .inl ms)), (ywa, .inl (cI, 6, .inl wa)), (h0, .inr (9, [.ref ys, .ref yk, .ref yo, .ref yt, .int mk0, .ref yfa, .ref yfe, .int mL, .int mS, .int mM, .ref yro, .ref yhe, .ref ygr, .int mF, .int mC, .int mY, .ref yta, .int (nI (mz)), .int (nI (nf bb mz u9)), .int (nI (nx bb mz u9)), .int mv, .int 1, .ref ywa, .ref ybi, .ref ysi, .ref ynu, .ref ymo])), (yta, .inl (cI, 120, .inl tp))] := hD
          refine lv_aload_n hx hb dX9_item_88 rfl (lv_at hl 0 rfl) ?_
          refine xg hF kf_X9_266 hK hP 2 rfl rfl dX9_item_89 ?_
          refine lv_if_eq (tgt := 99) hx hb dX9_item_92 (by decide) (fun c_76 => absurd c_76 (by decide)) (fun c_76 => ?_)
          refine lv_iconst (v := 0) hx hb dX9_item_95 (by decide) ?_
          refine lv_goto (tgt := 103) hx hb dX9_item_96 (by decide) ?_
          refine lv_istore_n (lv' := [(1, .int 0), (0, .ref h0)]) hx hb dX9_item_103 rfl hl (by decide) rfl (fun ls hl => ?_)
          refine lv_aload_n hx hb dX9_item_104 rfl (lv_at hl 1 rfl) ?_
          refine lv_bipush (v := 101) hx hb dX9_item_105 (by decide) ?_
          refine lv_bipush (v := 114) hx hb dX9_item_107 (by decide) ?_
          refine lv_bipush (v := 114) hx hb dX9_item_109 (by decide) ?_
          refine lv_bipush (v := 97) hx hb dX9_item_111 (by decide) ?_
          refine lv_bipush (v := 110) hx hb dX9_item_113 (by decide) ?_
          refine lv_bipush (v := 100) hx hb dX9_item_115 (by decide) ?_
          refine lv_bipush (v := 115) hx hb dX9_item_117 (by decide) ?_
          refine xc_Vr hF (c_X9_isWordW l D cI cJ cZ cS ta sa sv H.size h0 ys yk yo yt mk0 yfa yfe mL mS mM yro yhe ygr mF mC mY yta mz mv ywa ybi ysi ynu ymo tp 101 114 114 97 110 100 115 u9 bb (by omega) hbb (by omega)) kv_X9_290 ⟨rfl, rfl, Nat.le_of_ble_eq_true rfl, Nat.le_of_ble_eq_true rfl⟩ ⟨Nat.le_of_ble_eq_true rfl, Nat.le_of_ble_eq_true rfl⟩ hK hN hZ hP hD hS hA [2, 3] rfl rfl 0 rfl rfl rfl rfl hl.1 rfl (Nat.le_of_ble_eq_true rfl) dX9_item_119 (fun r_77 hw_r_77 => ?_)
          subst hw_r_77
          refine lv_if_eq (tgt := 156) hx hb dX9_item_122 (by decide) (fun c_78 => ?_) (fun c_78 => absurd (by decide) c_78)
          exact W.vret hx hb hr (fun t ht hW => ⟨⟨(u9, 1, mv, ms, P, Wn, wa, fae, fal, fau, fao, fawn, fawp, fat, fas), rfl, ⟨Or.inr ⟨(cif_pos (h_71)).trans (cif_neg (show ¬ P < 10 by omega)), rfl⟩, (by first | assumption | omega), hs0, hs1, hs2, hsS, hsM, hsp, hsr, hsw, hsR, hsG⟩, by rw [ht]; exact hP.sub [2, 0, 3, 1] rfl, hD.sub [2, 0, 3, 1] (by decide) rfl⟩, hS.F ht⟩) hS.2.2 dX9_item_156 hlk
        · skip
          have nc_74 : P < 10 := xn_nle (a := 10) (b := P) (by omega) (by omega) c_74
          refine lv_iconst (v := 1) hx hb dX9_item_80 (by decide) ?_
          refine lv_goto (tgt := 85) hx hb dX9_item_81 (by decide) ?_
          refine xc_Vv (wr := [(ys, .inl (cI, 449, .inl ms)), (ywa, .inl (cI, 6, .inl wa))]) hF (c_X9_needs1 l D cI cJ cZ cS ta sa sv s.heap.size h0 ys yk yo yt mk0 yfa yfe mL mS mM yro yhe ygr mF mC mY yta mz mv ywa ybi ysi ynu ymo tp u9 bb (by omega) hbb (by omega)) kv_X9_278 ⟨rfl, rfl, Nat.le_of_ble_eq_true rfl, Nat.le_of_ble_eq_true rfl⟩ ⟨Nat.le_of_ble_eq_true rfl, Nat.le_of_ble_eq_true rfl⟩ hK hN hZ hP hD hS hA [0, 2] [1, 3] rfl rfl rfl rfl (by decide) 0 rfl rfl rfl rfl hl.1 rfl (Nat.le_of_ble_eq_true rfl) dX9_item_85 (fun u_r_79 H locs hw_r_79 hP hD hS => ?_)
          obtain ⟨i_80, i_81⟩ := hw_r_79
          have hP : va_P D vwCl [(ys, .inl (cI, 449, .inl ms)), (ywa, .inl (cI, 6, .inl wa)), (h0, .inr (9, [.ref ys, .ref yk, .ref yo, .ref yt, .int mk0, .ref yfa, .ref yfe, .int mL, .int mS, .int mM, .ref yro, .ref yhe, .ref ygr, .int mF, .int mC, .int mY, .ref yta, .int (nI (mz)), .int (nI (nf bb mz (nx bb mz u9))), .int (nI (nx bb mz (nx bb mz u9))), .int mv, .int 0, .ref ywa, .ref ybi, .ref ysi, .ref ynu, .ref ymo])), (yta, .inl (cI, 120, .inl tp))] H := hP
          have hD : va_D A [(ys, .inl (cI, 449, .inl ms)), (ywa, .inl (cI, 6, .inl wa)), (h0, .inr (9, [.ref ys, .ref yk, .ref yo, .ref yt, .int mk0, .ref yfa, .ref yfe, .int mL, .int mS, .int mM, .ref yro, .ref yhe, .ref ygr, .int mF, .int mC, .int mY, .ref yta, .int (nI (mz)), .int (nI (nf bb mz (nx bb mz u9))), .int (nI (nx bb mz (nx bb mz u9))), .int mv, .int 0, .ref ywa, .ref ybi, .ref ysi, .ref ynu, .ref ymo])), (yta, .inl (cI, 120, .inl tp))] := hD
          refine lv_aload_n hx hb dX9_item_88 rfl (lv_at hl 0 rfl) ?_
          refine xg hF kf_X9_266 hK hP 2 rfl rfl dX9_item_89 ?_
          refine lv_if_eq (tgt := 99) hx hb dX9_item_92 (by decide) (fun c_82 => ?_) (fun c_82 => absurd (by decide) c_82)
          refine lv_aload_n hx hb dX9_item_99 rfl (lv_at hl 0 rfl) ?_
          refine xc_Vi (wr := [(ywa, .inl (cI, 6, .inl wa)), (yta, .inl (cI, 120, .inl tp))]) hF (c_X9_newPlace l D cI cJ cZ cS ta sa sv H.size h0 ys yk yo yt mk0 yfa yfe mL mS mM yro yhe ygr mF mC mY yta mz (nf bb mz (nx bb mz u9)) (nx bb mz (nx bb mz u9)) mv 0 ywa ybi ysi ynu ymo ms P Rn Wn fae fal fau fao farn farp fak fawn fawp fat fas (by omega) hs0 hs1 hs2 hsS hsM hsp hsr hsw hsR hsG) kv_X9_74 ⟨rfl, rfl, Nat.le_of_ble_eq_true rfl, Nat.le_of_ble_eq_true rfl⟩ ⟨Nat.le_of_ble_eq_true rfl, Nat.le_of_ble_eq_true rfl⟩ hK hN hZ hP hD hS hA [2, 0] [1, 3] rfl rfl rfl rfl (by decide) 0 rfl rfl rfl rfl hl.1 rfl (Nat.le_of_ble_eq_true rfl) dX9_item_100 (fun r_83 u_r_83 H locs hw_r_83 hP hD hS => ?_)
          obtain ⟨ms2_84, rfl⟩ : ∃ z, z = u_r_83 := ⟨_, rfl⟩
          try dsimp only at hw_r_83
          obtain ⟨hw_r_83, i_85, i_86, i_87, i_88, i_89, i_90, i_91, i_92, i_93, i_94⟩ := hw_r_83
          have hP : va_P D vwCl [(ywa, .inl (cI, 6, .inl wa)), (yta, .inl (cI, 120, .inl tp)), (h0, .inr (9, [.ref ys, .ref yk, .ref yo, .ref yt, .int mk0, .ref yfa, .ref yfe, .int mL, .int mS, .int mM, .ref yro, .ref yhe, .ref ygr, .int mF, .int mC, .int mY, .ref yta, .int (nI (mz)), .int (nI ((nf bb mz (nx bb mz u9)))), .int (nI ((nx bb mz (nx bb mz u9)))), .int mv, .int 0, .ref ywa, .ref ybi, .ref ysi, .ref ynu, .ref ymo])), (ys, .inl (cI, 449, .inl ms2_84))] H := hP
          have hD : va_D A [(ywa, .inl (cI, 6, .inl wa)), (yta, .inl (cI, 120, .inl tp)), (h0, .inr (9, [.ref ys, .ref yk, .ref yo, .ref yt, .int mk0, .ref yfa, .ref yfe, .int mL, .int mS, .int mM, .ref yro, .ref yhe, .ref ygr, .int mF, .int mC, .int mY, .ref yta, .int (nI (mz)), .int (nI ((nf bb mz (nx bb mz u9)))), .int (nI ((nx bb mz (nx bb mz u9)))), .int mv, .int 0, .ref ywa, .ref ybi, .ref ysi, .ref ynu, .ref ymo])), (ys, .inl (cI, 449, .inl ms2_84))] := hD
          subst hw_r_83
          refine lv_istore_n (lv' := [(1, .int (nI (P))), (0, .ref h0)]) hx hb dX9_item_103 rfl hl (by decide) rfl (fun ls hl => ?_)
          refine lv_aload_n hx hb dX9_item_104 rfl (lv_at hl 1 rfl) ?_
          refine lv_bipush (v := 101) hx hb dX9_item_105 (by decide) ?_
          refine lv_bipush (v := 114) hx hb dX9_item_107 (by decide) ?_
          refine lv_bipush (v := 114) hx hb dX9_item_109 (by decide) ?_
          refine lv_bipush (v := 97) hx hb dX9_item_111 (by decide) ?_
          refine lv_bipush (v := 110) hx hb dX9_item_113 (by decide) ?_
          refine lv_bipush (v := 100) hx hb dX9_item_115 (by decide) ?_
          refine lv_bipush (v := 115) hx hb dX9_item_117 (by decide) ?_
          refine xc_Vr hF (c_X9_isWord_3 l D cI cJ cZ cS ta sa sv H.size h0 ys yk yo yt mk0 yfa yfe mL mS mM yro yhe ygr mF mC mY yta mz mv ywa ybi ysi ynu ymo tp (nx bb mz u9) bb (by omega) hbb (by omega)) kv_X9_290 ⟨rfl, rfl, Nat.le_of_ble_eq_true rfl, Nat.le_of_ble_eq_true rfl⟩ ⟨Nat.le_of_ble_eq_true rfl, Nat.le_of_ble_eq_true rfl⟩ hK hN hZ hP hD hS hA [2, 1] rfl rfl 0 rfl rfl rfl rfl hl.1 rfl (Nat.le_of_ble_eq_true rfl) dX9_item_119 (fun r_95 hw_r_95 => ?_)
          rcases hw_r_95 with ⟨rfl, h_96⟩ | ⟨rfl, h_97⟩
          · skip
            refine lv_if_eq (tgt := 156) hx hb dX9_item_122 (by decide) (fun c_98 => absurd c_98 (by decide)) (fun c_98 => ?_)
            refine lv_aload_n hx hb dX9_item_125 rfl (lv_at hl 1 rfl) ?_
            refine lv_iconst (v := 1) hx hb dX9_item_126 (by decide) ?_
            refine xc_Vv (wr := [(ywa, .inl (cI, 6, .inl wa)), (ys, .inl (cI, 449, .inl ms2_84))]) hF (c_X9_needs1 l D cI cJ cZ cS ta sa sv H.size h0 ys yk yo yt mk0 yfa yfe mL mS mM yro yhe ygr mF mC mY yta mz mv ywa ybi ysi ynu ymo tp (nx bb mz u9) bb (by omega) hbb (by omega)) kv_X9_278 ⟨rfl, rfl, Nat.le_of_ble_eq_true rfl, Nat.le_of_ble_eq_true rfl⟩ ⟨Nat.le_of_ble_eq_true rfl, Nat.le_of_ble_eq_true rfl⟩ hK hN hZ hP hD hS hA [2, 1] [0, 3] rfl rfl rfl rfl (by decide) 0 rfl rfl rfl rfl hl.1 rfl (Nat.le_of_ble_eq_true rfl) dX9_item_127 (fun u_r_99 H locs hw_r_99 hP hD hS => ?_)
            obtain ⟨i_100, i_101⟩ := hw_r_99
            have hP : va_P D vwCl [(ywa, .inl (cI, 6, .inl wa)), (ys, .inl (cI, 449, .inl ms2_84)), (h0, .inr (9, [.ref ys, .ref yk, .ref yo, .ref yt, .int mk0, .ref yfa, .ref yfe, .int mL, .int mS, .int mM, .ref yro, .ref yhe, .ref ygr, .int mF, .int mC, .int mY, .ref yta, .int (nI (mz)), .int (nI (nf bb mz (nx bb mz (nx bb mz u9)))), .int (nI (nx bb mz (nx bb mz (nx bb mz u9)))), .int mv, .int 0, .ref ywa, .ref ybi, .ref ysi, .ref ynu, .ref ymo])), (yta, .inl (cI, 120, .inl tp))] H := hP
            have hD : va_D A [(ywa, .inl (cI, 6, .inl wa)), (ys, .inl (cI, 449, .inl ms2_84)), (h0, .inr (9, [.ref ys, .ref yk, .ref yo, .ref yt, .int mk0, .ref yfa, .ref yfe, .int mL, .int mS, .int mM, .ref yro, .ref yhe, .ref ygr, .int mF, .int mC, .int mY, .ref yta, .int (nI (mz)), .int (nI (nf bb mz (nx bb mz (nx bb mz u9)))), .int (nI (nx bb mz (nx bb mz (nx bb mz u9)))), .int mv, .int 0, .ref ywa, .ref ybi, .ref ysi, .ref ynu, .ref ymo])), (yta, .inl (cI, 120, .inl tp))] := hD
            refine lv_aload_n hx hb dX9_item_130 rfl (lv_at hl 1 rfl) ?_
            refine lv_iconst (v := 0) hx hb dX9_item_131 (by decide) ?_
            refine lv_bipush (v := 99) hx hb dX9_item_132 (by decide) ?_
            refine xc_Vv (wr := [(ywa, .inl (cI, 6, .inl wa)), (ys, .inl (cI, 449, .inl ms2_84))]) hF (c_X9_number0 l D cI cJ cZ cS ta sa sv H.size h0 ys yk yo yt mk0 yfa yfe mL mS mM yro yhe ygr mF mC mY yta mz mv ywa ybi ysi ynu ymo tp 0 99 (nx bb mz (nx bb mz u9)) bb (by omega) hbb (by omega)) kv_X9_282 ⟨rfl, rfl, Nat.le_of_ble_eq_true rfl, Nat.le_of_ble_eq_true rfl⟩ ⟨Nat.le_of_ble_eq_true rfl, Nat.le_of_ble_eq_true rfl⟩ hK hN hZ hP hD hS hA [2, 3] [0, 1] rfl rfl rfl rfl (by decide) 0 rfl rfl rfl rfl hl.1 rfl (Nat.le_of_ble_eq_true rfl) dX9_item_134 (fun u_r_102 H locs hw_r_102 hP hD hS => ?_)
            obtain ⟨u2_103, w2_104, v2_105⟩ := u_r_102
            try dsimp only at hw_r_102
            obtain ⟨hw_r_102, i_106, i_107⟩ := hw_r_102
            have hP : va_P D vwCl [(ywa, .inl (cI, 6, .inl wa)), (ys, .inl (cI, 449, .inl ms2_84)), (h0, .inr (9, [.ref ys, .ref yk, .ref yo, .ref yt, .int mk0, .ref yfa, .ref yfe, .int mL, .int mS, .int mM, .ref yro, .ref yhe, .ref ygr, .int mF, .int mC, .int mY, .ref yta, .int (nI (mz)), .int (nI (nf bb mz u2_103)), .int (nI (nx bb mz u2_103)), .int v2_105, .int w2_104, .ref ywa, .ref ybi, .ref ysi, .ref ynu, .ref ymo])), (yta, .inl (cI, 120, .inl tp))] H := hP
            have hD : va_D A [(ywa, .inl (cI, 6, .inl wa)), (ys, .inl (cI, 449, .inl ms2_84)), (h0, .inr (9, [.ref ys, .ref yk, .ref yo, .ref yt, .int mk0, .ref yfa, .ref yfe, .int mL, .int mS, .int mM, .ref yro, .ref yhe, .ref ygr, .int mF, .int mC, .int mY, .ref yta, .int (nI (mz)), .int (nI (nf bb mz u2_103)), .int (nI (nx bb mz u2_103)), .int v2_105, .int w2_104, .ref ywa, .ref ybi, .ref ysi, .ref ynu, .ref ymo])), (yta, .inl (cI, 120, .inl tp))] := hD
            rcases hw_r_102 with ⟨h_108, h_109, h_110, h_111⟩ | ⟨h_112, h_113, h_114⟩
            · skip
              subst h_109
              subst h_110
              subst h_111
              refine lv_aload_n hx hb dX9_item_137 rfl (lv_at hl 1 rfl) ?_
              refine xg hF kf_X9_266 hK hP 2 rfl rfl dX9_item_138 ?_
              refine lv_if_ne (tgt := 156) hx hb dX9_item_141 (by decide) (fun c_115 => absurd (by decide) c_115) (fun c_115 => ?_)
              refine lv_aload_n hx hb dX9_item_144 rfl (lv_at hl 1 rfl) ?_
              refine xg hF kf_X9_7 hK hP 2 rfl rfl dX9_item_145 ?_
              refine lv_iconst (v := 3) hx hb dX9_item_148 (by decide) ?_
              refine lv_iload_n hx hb dX9_item_149 rfl (lv_at hl 0 rfl) ?_
              refine lv_iadd hx hb dX9_item_150 ?_
              refine xl_i (y := nI (3 + P)) (nI_add 3 P) ?_
              refine lv_aload_n hx hb dX9_item_151 rfl (lv_at hl 1 rfl) ?_
              refine xg hF kf_X9_275 hK hP 2 rfl rfl dX9_item_152 ?_
              refine va_iast hx hb hK hP hD hS 1 0 rfl rfl (vp_in_nI (show 3 + P < 449 by omega) (by decide)) dX9_item_155 (fun H locs hP hD hS => ?_)
              rw [nI_clamp (show 3 + P < 2 ^ 31 by omega)] at hP hD
              obtain ⟨f_116, ef_116⟩ : ∃ g, g = upd ms2_84 (3 + P) (nI (num bb (nf bb mz (nx bb mz (nx bb mz u9))) (nx bb mz (nx bb mz (nx bb mz u9))))) := ⟨_, rfl⟩
              rw [← ef_116] at hP hD
              have k0_f_116 : f_116 0 = nI (P + 1) := by rw [ef_116]; exact (pk_un (show 0 ≠ (3 + P) by omega)).trans i_85
              have k1_f_116 : f_116 1 = nI Rn := by rw [ef_116]; exact (pk_un (show 1 ≠ (3 + P) by omega)).trans i_86
              have k2_f_116 : f_116 2 = nI Wn := by rw [ef_116]; exact (pk_un (show 2 ≠ (3 + P) by omega)).trans i_87
              have kS_f_116 : SI f_116 := by rw [ef_116]; exact SI.upd i_88 (okS.low (show (3 + P) < 313 by omega))
              have kM_f_116 : MI f_116 := by rw [ef_116]; exact MI.upd i_89 (okM.out (show (3 + P) < 13 ∨ 113 ≤ (3 + P) by omega))
              have kR_f_116 : RI Rn f_116 := by rw [ef_116]; exact RI.upd i_93 (fun r9 hr9 e9 => by omega)
              have kG_f_116 : FR (P + 1) f_116 (upd (upd fae P 0) (P) (nI (num bb (nf bb mz (nx bb mz (nx bb mz u9))) (nx bb mz (nx bb mz (nx bb mz u9)))))) fal fau fao farn farp fak fawn fawp fat fas := by rw [ef_116]; exact FR.pe i_94 (show P < 10 by omega) (show P < (P + 1) by omega) (by omega)
              have hP : va_P D vwCl [(ywa, .inl (cI, 6, .inl wa)), (ys, .inl (cI, 449, .inl f_116)), (h0, .inr (9, [.ref ys, .ref yk, .ref yo, .ref yt, .int mk0, .ref yfa, .ref yfe, .int mL, .int mS, .int mM, .ref yro, .ref yhe, .ref ygr, .int mF, .int mC, .int mY, .ref yta, .int (nI (mz)), .int (nI (nf bb mz (nx bb mz (nx bb mz (nx bb mz u9))))), .int (nI (nx bb mz (nx bb mz (nx bb mz (nx bb mz u9))))), .int (nI (num bb (nf bb mz (nx bb mz (nx bb mz u9))) (nx bb mz (nx bb mz (nx bb mz u9))))), .int 0, .ref ywa, .ref ybi, .ref ysi, .ref ynu, .ref ymo])), (yta, .inl (cI, 120, .inl tp))] H := hP
              have hD : va_D A [(ywa, .inl (cI, 6, .inl wa)), (ys, .inl (cI, 449, .inl f_116)), (h0, .inr (9, [.ref ys, .ref yk, .ref yo, .ref yt, .int mk0, .ref yfa, .ref yfe, .int mL, .int mS, .int mM, .ref yro, .ref yhe, .ref ygr, .int mF, .int mC, .int mY, .ref yta, .int (nI (mz)), .int (nI (nf bb mz (nx bb mz (nx bb mz (nx bb mz u9))))), .int (nI (nx bb mz (nx bb mz (nx bb mz (nx bb mz u9))))), .int (nI (num bb (nf bb mz (nx bb mz (nx bb mz u9))) (nx bb mz (nx bb mz (nx bb mz u9))))), .int 0, .ref ywa, .ref ybi, .ref ysi, .ref ynu, .ref ymo])), (yta, .inl (cI, 120, .inl tp))] := hD
              exact W.vret hx hb hr (fun t ht hW => ⟨⟨(nx bb mz (nx bb mz (nx bb mz u9)), 0, nI (num bb (nf bb mz (nx bb mz (nx bb mz u9))) (nx bb mz (nx bb mz (nx bb mz u9)))), f_116, P + 1, Wn, wa, upd (upd fae P 0) (P) (nI (num bb (nf bb mz (nx bb mz (nx bb mz u9))) (nx bb mz (nx bb mz (nx bb mz u9))))), fal, fau, fao, fawn, fawp, fat, fas), rfl, ⟨Or.inl ⟨(cif_pos (h_71)).trans ((cif_pos (show P < 10 by omega)).trans ((cif_pos (h_96)).trans (cif_pos (okR_99.mp h_108)))), rfl, (cif_pos h_71).symm, (cif_neg h_35).symm, (by have h9 := tW_lt (by decide) hu9 h_71; omega), ((upd_upd.trans (congrArg (upd fae P) (show nI (num bb (nf bb mz (nx bb mz (nx bb mz u9))) (nx bb mz (nx bb mz (nx bb mz u9)))) = spEv bb mz u9 from (congrArg nI (tC_99 h_108).symm).trans (cif_pos h_96).symm))).trans (cif_pos h_71).symm), (cif_neg h_3).symm, (cif_neg h_3).symm, (cif_neg h_3).symm, (cif_neg h_35).symm, (cif_neg h_35).symm, (cif_neg h_35).symm, (cif_neg h_35).symm⟩, (by first | assumption | omega), k0_f_116, k1_f_116, k2_f_116, kS_f_116, kM_f_116, i_90, i_91, i_92, kR_f_116, kG_f_116⟩, by rw [ht]; exact hP.sub [2, 1, 3, 0] rfl, hD.sub [2, 1, 3, 0] (by decide) rfl⟩, hS.F ht⟩) hS.2.2 dX9_item_156 hlk
            · skip
              subst h_113
              subst h_114
              refine lv_aload_n hx hb dX9_item_137 rfl (lv_at hl 1 rfl) ?_
              refine xg hF kf_X9_266 hK hP 2 rfl rfl dX9_item_138 ?_
              refine lv_if_ne (tgt := 156) hx hb dX9_item_141 (by decide) (fun c_117 => ?_) (fun c_117 => absurd c_117 (by decide))
              exact W.vret hx hb hr (fun t ht hW => ⟨⟨(nx bb mz (nx bb mz u9), 1, v2_105, ms2_84, P + 1, Wn, wa, upd fae P 0, fal, fau, fao, fawn, fawp, fat, fas), rfl, ⟨Or.inr ⟨(cif_pos (h_71)).trans ((cif_pos (show P < 10 by omega)).trans ((cif_pos (h_96)).trans (cif_neg (fun h => h_112 (okR_99.mpr h))))), rfl⟩, (by first | assumption | omega), i_85, i_86, i_87, i_88, i_89, i_90, i_91, i_92, i_93, i_94⟩, by rw [ht]; exact hP.sub [2, 1, 3, 0] rfl, hD.sub [2, 1, 3, 0] (by decide) rfl⟩, hS.F ht⟩) hS.2.2 dX9_item_156 hlk
          · skip
            refine lv_if_eq (tgt := 156) hx hb dX9_item_122 (by decide) (fun c_118 => ?_) (fun c_118 => absurd (by decide) c_118)
            exact W.vret hx hb hr (fun t ht hW => ⟨⟨(nx bb mz u9, 0, mv, ms2_84, P + 1, Wn, wa, upd fae P 0, fal, fau, fao, fawn, fawp, fat, fas), rfl, ⟨Or.inl ⟨(cif_pos (h_71)).trans ((cif_pos (show P < 10 by omega)).trans (cif_neg (h_97))), rfl, (cif_pos h_71).symm, (cif_neg h_35).symm, (by have h9 := tW_lt (by decide) hu9 h_71; omega), ((congrArg (upd fae P) (show (0 : Int32) = spEv bb mz u9 from (cif_neg h_97).symm)).trans (cif_pos h_71).symm), (cif_neg h_3).symm, (cif_neg h_3).symm, (cif_neg h_3).symm, (cif_neg h_35).symm, (cif_neg h_35).symm, (cif_neg h_35).symm, (cif_neg h_35).symm⟩, (by first | assumption | omega), i_85, i_86, i_87, i_88, i_89, i_90, i_91, i_92, i_93, i_94⟩, by rw [ht]; exact hP.sub [2, 3, 1, 0] rfl, hD.sub [2, 3, 1, 0] (by decide) rfl⟩, hS.F ht⟩) hS.2.2 dX9_item_156 hlk
      · skip
        refine lv_if_eq (tgt := 84) hx hb dX9_item_66 (by decide) (fun c_119 => ?_) (fun c_119 => absurd (by decide) c_119)
        refine lv_iconst (v := 0) hx hb dX9_item_84 (by decide) ?_
        refine xc_Vv (wr := [(ys, .inl (cI, 449, .inl ms)), (ywa, .inl (cI, 6, .inl wa))]) hF (c_X9_needs0 l D cI cJ cZ cS ta sa sv s.heap.size h0 ys yk yo yt mk0 yfa yfe mL mS mM yro yhe ygr mF mC mY yta mz mv ywa ybi ysi ynu ymo tp u9 bb (by omega) hbb (by omega)) kv_X9_278 ⟨rfl, rfl, Nat.le_of_ble_eq_true rfl, Nat.le_of_ble_eq_true rfl⟩ ⟨Nat.le_of_ble_eq_true rfl, Nat.le_of_ble_eq_true rfl⟩ hK hN hZ hP hD hS hA [0, 2] [1, 3] rfl rfl rfl rfl (by decide) 0 rfl rfl rfl rfl hl.1 rfl (Nat.le_of_ble_eq_true rfl) dX9_item_85 (fun u_r_120 H locs hw_r_120 hP hD hS => ?_)
        have hP : va_P D vwCl [(ys, .inl (cI, 449, .inl ms)), (ywa, .inl (cI, 6, .inl wa)), (h0, .inr (9, [.ref ys, .ref yk, .ref yo, .ref yt, .int mk0, .ref yfa, .ref yfe, .int mL, .int mS, .int mM, .ref yro, .ref yhe, .ref ygr, .int mF, .int mC, .int mY, .ref yta, .int (nI (mz)), .int (nI (nf bb mz u9)), .int (nI (nx bb mz u9)), .int mv, .int 1, .ref ywa, .ref ybi, .ref ysi, .ref ynu, .ref ymo])), (yta, .inl (cI, 120, .inl tp))] H := hP
        have hD : va_D A [(ys, .inl (cI, 449, .inl ms)), (ywa, .inl (cI, 6, .inl wa)), (h0, .inr (9, [.ref ys, .ref yk, .ref yo, .ref yt, .int mk0, .ref yfa, .ref yfe, .int mL, .int mS, .int mM, .ref yro, .ref yhe, .ref ygr, .int mF, .int mC, .int mY, .ref yta, .int (nI (mz)), .int (nI (nf bb mz u9)), .int (nI (nx bb mz u9)), .int mv, .int 1, .ref ywa, .ref ybi, .ref ysi, .ref ynu, .ref ymo])), (yta, .inl (cI, 120, .inl tp))] := hD
        refine lv_aload_n hx hb dX9_item_88 rfl (lv_at hl 0 rfl) ?_
        refine xg hF kf_X9_266 hK hP 2 rfl rfl dX9_item_89 ?_
        refine lv_if_eq (tgt := 99) hx hb dX9_item_92 (by decide) (fun c_121 => absurd c_121 (by decide)) (fun c_121 => ?_)
        refine lv_iconst (v := 0) hx hb dX9_item_95 (by decide) ?_
        refine lv_goto (tgt := 103) hx hb dX9_item_96 (by decide) ?_
        refine lv_istore_n (lv' := [(1, .int 0), (0, .ref h0)]) hx hb dX9_item_103 rfl hl (by decide) rfl (fun ls hl => ?_)
        refine lv_aload_n hx hb dX9_item_104 rfl (lv_at hl 1 rfl) ?_
        refine lv_bipush (v := 101) hx hb dX9_item_105 (by decide) ?_
        refine lv_bipush (v := 114) hx hb dX9_item_107 (by decide) ?_
        refine lv_bipush (v := 114) hx hb dX9_item_109 (by decide) ?_
        refine lv_bipush (v := 97) hx hb dX9_item_111 (by decide) ?_
        refine lv_bipush (v := 110) hx hb dX9_item_113 (by decide) ?_
        refine lv_bipush (v := 100) hx hb dX9_item_115 (by decide) ?_
        refine lv_bipush (v := 115) hx hb dX9_item_117 (by decide) ?_
        refine xc_Vr hF (c_X9_isWordW l D cI cJ cZ cS ta sa sv H.size h0 ys yk yo yt mk0 yfa yfe mL mS mM yro yhe ygr mF mC mY yta mz mv ywa ybi ysi ynu ymo tp 101 114 114 97 110 100 115 u9 bb (by omega) hbb (by omega)) kv_X9_290 ⟨rfl, rfl, Nat.le_of_ble_eq_true rfl, Nat.le_of_ble_eq_true rfl⟩ ⟨Nat.le_of_ble_eq_true rfl, Nat.le_of_ble_eq_true rfl⟩ hK hN hZ hP hD hS hA [2, 3] rfl rfl 0 rfl rfl rfl rfl hl.1 rfl (Nat.le_of_ble_eq_true rfl) dX9_item_119 (fun r_122 hw_r_122 => ?_)
        subst hw_r_122
        refine lv_if_eq (tgt := 156) hx hb dX9_item_122 (by decide) (fun c_123 => ?_) (fun c_123 => absurd (by decide) c_123)
        exact W.vret hx hb hr (fun t ht hW => ⟨⟨(u9, 1, mv, ms, P, Wn, wa, fae, fal, fau, fao, fawn, fawp, fat, fas), rfl, ⟨Or.inr ⟨(cif_neg (h_72)).trans ((cif_neg (h_3)).trans (cif_neg (h_35))), rfl⟩, (by first | assumption | omega), hs0, hs1, hs2, hsS, hsM, hsp, hsr, hsw, hsR, hsG⟩, by rw [ht]; exact hP.sub [2, 0, 3, 1] rfl, hD.sub [2, 0, 3, 1] (by decide) rfl⟩, hS.F ht⟩) hS.2.2 dX9_item_156 hlk
set_option maxHeartbeats 4000000 in
set_option maxRecDepth 100000 in
theorem c_X9_land (l : Launch) (D : va_G) (cI cJ cZ cS : ClassId) (ta : Nat) (sa sv : Nat → Nat) (sz : Nat) (h0 : Nat) (ys : Nat) (yk : Nat) (yo : Nat) (yt : Nat) (mk0 : Int32) (yfa : Nat) (yfe : Nat) (mL : Int32) (mS : Int32) (mM : Int32) (yro : Nat) (yhe : Nat) (ygr : Nat) (mF : Int32) (mC : Int32) (mY : Int32) (yta : Nat) (mz : Nat) (mf : Nat) (mt : Nat) (mv : Int32) (mw : Int32) (ywa : Nat) (ybi : Nat) (ysi : Nat) (ynu : Nat) (ymo : Nat) (ms : Nat → Int32) (oo : Nat → Int32) (tp : Nat → Int32) (wa : Nat → Int32) (P : Nat) (Rn : Nat) (Wn : Nat) (fae : Nat → Int32) (fal : Nat → Int32) (fau : Nat → Int32) (fao : Nat → Int32) (farn : Nat → Int32) (farp : Nat → Int32) (fak : Nat → Int32) (fawn : Nat → Int32) (fawp : Nat → Int32) (fat : Nat → Int32) (fas : Nat → Int32) (bb : Nat → Int32) (hz : mz ≤ 120) (hbb : bA tp mz = bb) (hs0 : ms 0 = nI P) (hs1 : ms 1 = nI Rn) (hs2 : ms 2 = nI Wn) (hsS : SI ms) (hsM : MI ms) (hsp : P ≤ 10) (hsr : Rn ≤ 8) (hsw : Wn ≤ 8) (hsR : RI Rn ms) (hsG : FR P ms fae fal fau fao farn farp fak fawn fawp fat fas) : Met l yX9_land (Cond.code yX9_land cX9_land 2 (some .int) :: wsU) ({ frames := 8, cells := 0, slots := 0, locals := 183 }) (va_Pc [.ref h0] (XW D (xT cI cJ cZ cS) ta sa sv [(h0, .inr (9, [.ref ys, .ref yk, .ref yo, .ref yt, .int mk0, .ref yfa, .ref yfe, .int mL, .int mS, .int mM, .ref yro, .ref yhe, .ref ygr, .int mF, .int mC, .int mY, .ref yta, .int (nI (mz)), .int (nI (mf)), .int (nI (mt)), .int mv, .int mw, .ref ywa, .ref ybi, .ref ysi, .ref ynu, .ref ymo])), (ys, .inl (cI, 449, .inl ms)), (yo, .inl (cI, 449, .inl oo)), (yta, .inl (cI, 120, .inl tp)), (ywa, .inl (cI, 6, .inl wa))] sz)) (XQi (fun (r : Int32) (u : Nat × Nat × Int32 × Int32 × (Nat → Int32) × Nat × Nat × (Nat → Int32) × (Nat → Int32) × (Nat → Int32) × (Nat → Int32) × (Nat → Int32) × (Nat → Int32) × (Nat → Int32) × (Nat → Int32) × (Nat → Int32) × (Nat → Int32)) => match u with | (f2, t2, w2, v2, ms2, P2, W2, oo2, wa2, ge, gl, gu, go, gwn, gwp, gt, gs) => ((r = spLr bb mz (spLand bb mz 120 0 P Wn 1))) ∧ (P2 = spLP P (spLand bb mz 120 0 P Wn 1)) ∧ (W2 = spLW Wn (spLand bb mz 120 0 P Wn 1)) ∧ (ge = spLF (spLand bb mz 120 0 P Wn 1) fae (spLz bb mz (stE bb mz) 120 0 P Wn fae)) ∧ (gl = spLF (spLand bb mz 120 0 P Wn 1) fal (spLz bb mz (stL bb mz) 120 0 P Wn fal)) ∧ (gu = spLF (spLand bb mz 120 0 P Wn 1) fau (spLz bb mz (stU bb mz) 120 0 P Wn fau)) ∧ (go = spLF (spLand bb mz 120 0 P Wn 1) fao (spLz bb mz (stO bb mz) 120 0 P Wn fao)) ∧ (gwn = spLF (spLand bb mz 120 0 P Wn 1) fawn (spLz bb mz (stN bb mz) 120 0 P Wn fawn)) ∧ (gwp = spLF (spLand bb mz 120 0 P Wn 1) fawp (spLz bb mz (stR bb mz) 120 0 P Wn fawp)) ∧ (gt = spLF (spLand bb mz 120 0 P Wn 1) fat (spLz bb mz (stT bb mz) 120 0 P Wn fat)) ∧ (gs = spLF (spLand bb mz 120 0 P Wn 1) fas (spLz bb mz (stS bb mz) 120 0 P Wn fas)) ∧ (ms2 0 = nI P2) ∧ (ms2 1 = nI Rn) ∧ (ms2 2 = nI W2) ∧ (SI ms2) ∧ (MI ms2) ∧ (P2 ≤ 10) ∧ (Rn ≤ 8) ∧ (W2 ≤ 8) ∧ (RI Rn ms2) ∧ (FR P2 ms2 ge gl gu go farn farp fak gwn gwp gt gs)) D (fun (u : Nat × Nat × Int32 × Int32 × (Nat → Int32) × Nat × Nat × (Nat → Int32) × (Nat → Int32) × (Nat → Int32) × (Nat → Int32) × (Nat → Int32) × (Nat → Int32) × (Nat → Int32) × (Nat → Int32) × (Nat → Int32) × (Nat → Int32)) => match u with | (f2, t2, w2, v2, ms2, P2, W2, oo2, wa2, ge, gl, gu, go, gwn, gwp, gt, gs) => [(h0, .inr (9, [.ref ys, .ref yk, .ref yo, .ref yt, .int mk0, .ref yfa, .ref yfe, .int mL, .int mS, .int mM, .ref yro, .ref yhe, .ref ygr, .int mF, .int mC, .int mY, .ref yta, .int 0, .int (nI (f2)), .int (nI (t2)), .int v2, .int w2, .ref ywa, .ref ybi, .ref ysi, .ref ynu, .ref ymo])), (ys, .inl (cI, 449, .inl ms2)), (yo, .inl (cI, 449, .inl oo2)), (yta, .inl (cI, 120, .inl tp)), (ywa, .inl (cI, 6, .inl wa2))]) (va_A [(h0, .inr (9, [.ref ys, .ref yk, .ref yo, .ref yt, .int mk0, .ref yfa, .ref yfe, .int mL, .int mS, .int mM, .ref yro, .ref yhe, .ref ygr, .int mF, .int mC, .int mY, .ref yta, .int (nI (mz)), .int (nI (mf)), .int (nI (mt)), .int mv, .int mw, .ref ywa, .ref ybi, .ref ysi, .ref ynu, .ref ymo])), (ys, .inl (cI, 449, .inl ms)), (yo, .inl (cI, 449, .inl oo)), (yta, .inl (cI, 120, .inl tp)), (ywa, .inl (cI, 6, .inl wa))] sz)) 0 0 (va_A [(h0, .inr (9, [.ref ys, .ref yk, .ref yo, .ref yt, .int mk0, .ref yfa, .ref yfe, .int mL, .int mS, .int mM, .ref yro, .ref yhe, .ref ygr, .int mF, .int mC, .int mY, .ref yta, .int (nI (mz)), .int (nI (mf)), .int (nI (mt)), .int mv, .int mw, .ref ywa, .ref ybi, .ref ysi, .ref ynu, .ref ymo])), (ys, .inl (cI, 449, .inl ms)), (yo, .inl (cI, 449, .inl oo)), (yta, .inl (cI, 120, .inl tp)), (ywa, .inl (cI, 6, .inl wa))] sz) := by
  refine xh (QA := fun A => XQi (fun (r : Int32) (u : Nat × Nat × Int32 × Int32 × (Nat → Int32) × Nat × Nat × (Nat → Int32) × (Nat → Int32) × (Nat → Int32) × (Nat → Int32) × (Nat → Int32) × (Nat → Int32) × (Nat → Int32) × (Nat → Int32) × (Nat → Int32) × (Nat → Int32)) => match u with | (f2, t2, w2, v2, ms2, P2, W2, oo2, wa2, ge, gl, gu, go, gwn, gwp, gt, gs) => ((r = spLr bb mz (spLand bb mz 120 0 P Wn 1))) ∧ (P2 = spLP P (spLand bb mz 120 0 P Wn 1)) ∧ (W2 = spLW Wn (spLand bb mz 120 0 P Wn 1)) ∧ (ge = spLF (spLand bb mz 120 0 P Wn 1) fae (spLz bb mz (stE bb mz) 120 0 P Wn fae)) ∧ (gl = spLF (spLand bb mz 120 0 P Wn 1) fal (spLz bb mz (stL bb mz) 120 0 P Wn fal)) ∧ (gu = spLF (spLand bb mz 120 0 P Wn 1) fau (spLz bb mz (stU bb mz) 120 0 P Wn fau)) ∧ (go = spLF (spLand bb mz 120 0 P Wn 1) fao (spLz bb mz (stO bb mz) 120 0 P Wn fao)) ∧ (gwn = spLF (spLand bb mz 120 0 P Wn 1) fawn (spLz bb mz (stN bb mz) 120 0 P Wn fawn)) ∧ (gwp = spLF (spLand bb mz 120 0 P Wn 1) fawp (spLz bb mz (stR bb mz) 120 0 P Wn fawp)) ∧ (gt = spLF (spLand bb mz 120 0 P Wn 1) fat (spLz bb mz (stT bb mz) 120 0 P Wn fat)) ∧ (gs = spLF (spLand bb mz 120 0 P Wn 1) fas (spLz bb mz (stS bb mz) 120 0 P Wn fas)) ∧ (ms2 0 = nI P2) ∧ (ms2 1 = nI Rn) ∧ (ms2 2 = nI W2) ∧ (SI ms2) ∧ (MI ms2) ∧ (P2 ≤ 10) ∧ (Rn ≤ 8) ∧ (W2 ≤ 8) ∧ (RI Rn ms2) ∧ (FR P2 ms2 ge gl gu go farn farp fak gwn gwp gt gs)) D (fun (u : Nat × Nat × Int32 × Int32 × (Nat → Int32) × Nat × Nat × (Nat → Int32) × (Nat → Int32) × (Nat → Int32) × (Nat → Int32) × (Nat → Int32) × (Nat → Int32) × (Nat → Int32) × (Nat → Int32) × (Nat → Int32) × (Nat → Int32)) => match u with | (f2, t2, w2, v2, ms2, P2, W2, oo2, wa2, ge, gl, gu, go, gwn, gwp, gt, gs) => [(h0, .inr (9, [.ref ys, .ref yk, .ref yo, .ref yt, .int mk0, .ref yfa, .ref yfe, .int mL, .int mS, .int mM, .ref yro, .ref yhe, .ref ygr, .int mF, .int mC, .int mY, .ref yta, .int 0, .int (nI (f2)), .int (nI (t2)), .int v2, .int w2, .ref ywa, .ref ybi, .ref ysi, .ref ynu, .ref ymo])), (ys, .inl (cI, 449, .inl ms2)), (yo, .inl (cI, 449, .inl oo2)), (yta, .inl (cI, 120, .inl tp)), (ywa, .inl (cI, 6, .inl wa2))]) A) (fr := fun A => A) (by decide) (Nat.le_of_ble_eq_true rfl) ?_
  intro p e s m below meth c ls A hF hr hlk hin hsz hP hK hD hN hZ hA hS hl
  have hF : CallFix p m c cX9_land 2 s _ _ RX9 := hF
  have hx := hF.1
  have hb := hF.2.1
  have hml := hF.2.2.1
  have hown := hF.2.2.2.1
  have hu : ∀ w ∈ wsU, w.before _ s = true := fun w h => hF.2.2.2.2 w (List.mem_cons_of_mem _ h)
  have hl : lv_has ls 2 [(0, .ref h0)] := hl
  refine lv_aload_n hx hb dX9_land_0 rfl (lv_at hl 0 rfl) ?_
  refine xc_Vv (wr := [(yta, .inl (cI, 120, .inl tp)), (ywa, .inl (cI, 6, .inl wa))]) hF (c_X9_puts l D cI cJ cZ cS ta sa sv s.heap.size h0 ys yk yo yt mk0 yfa yfe mL mS mM yro yhe ygr mF mC mY yta mz mf mt mv mw ywa ybi ysi ynu ymo ms oo P Rn Wn fae fal fau fao farn farp fak fawn fawp fat fas hs0 hs1 hs2 hsS hsM hsp hsr hsw hsR hsG) kv_X9_217 ⟨rfl, rfl, Nat.le_of_ble_eq_true rfl, Nat.le_of_ble_eq_true rfl⟩ ⟨Nat.le_of_ble_eq_true rfl, Nat.le_of_ble_eq_true rfl⟩ hK hN hZ hP hD hS hA [0, 1, 2] [3, 4] rfl rfl rfl rfl (by decide) 0 rfl rfl rfl rfl hl.1 rfl (Nat.le_of_ble_eq_true rfl) dX9_land_1 (fun u_r_1 H locs hw_r_1 hP hD hS => ?_)
  have hP : va_P D vwCl [(yta, .inl (cI, 120, .inl tp)), (ywa, .inl (cI, 6, .inl wa)), (h0, .inr (9, [.ref ys, .ref yk, .ref yo, .ref yt, .int mk0, .ref yfa, .ref yfe, .int mL, .int mS, .int mM, .ref yro, .ref yhe, .ref ygr, .int mF, .int mC, .int mY, .ref yta, .int (nI (mz)), .int (nI (mf)), .int (nI (mt)), .int mv, .int mw, .ref ywa, .ref ybi, .ref ysi, .ref ynu, .ref ymo])), (ys, .inl (cI, 449, .inl ms)), (yo, .inl (cI, 449, .inl ms))] H := hP
  have hD : va_D A [(yta, .inl (cI, 120, .inl tp)), (ywa, .inl (cI, 6, .inl wa)), (h0, .inr (9, [.ref ys, .ref yk, .ref yo, .ref yt, .int mk0, .ref yfa, .ref yfe, .int mL, .int mS, .int mM, .ref yro, .ref yhe, .ref ygr, .int mF, .int mC, .int mY, .ref yta, .int (nI (mz)), .int (nI (mf)), .int (nI (mt)), .int mv, .int mw, .ref ywa, .ref ybi, .ref ysi, .ref ynu, .ref ymo])), (ys, .inl (cI, 449, .inl ms)), (yo, .inl (cI, 449, .inl ms))] := hD
  refine lv_aload_n hx hb dX9_land_4 rfl (lv_at hl 0 rfl) ?_
  refine lv_iconst (v := 0) hx hb dX9_land_5 (by decide) ?_
  refine xp hF kf_X9_251 tyX9_ok nmX9 hK hP hD hS 2 rfl rfl rfl rfl (Nat.le_of_ble_eq_true rfl) dX9_land_6 (fun H locs hP hD hS => ?_)
  have hP : va_P D vwCl [(yta, .inl (cI, 120, .inl tp)), (ywa, .inl (cI, 6, .inl wa)), (h0, .inr (9, [.ref ys, .ref yk, .ref yo, .ref yt, .int mk0, .ref yfa, .ref yfe, .int mL, .int mS, .int mM, .ref yro, .ref yhe, .ref ygr, .int mF, .int mC, .int mY, .ref yta, .int (nI (mz)), .int (nI (mf)), .int 0, .int mv, .int mw, .ref ywa, .ref ybi, .ref ysi, .ref ynu, .ref ymo])), (ys, .inl (cI, 449, .inl ms)), (yo, .inl (cI, 449, .inl ms))] H := hP
  have hD : va_D A [(yta, .inl (cI, 120, .inl tp)), (ywa, .inl (cI, 6, .inl wa)), (h0, .inr (9, [.ref ys, .ref yk, .ref yo, .ref yt, .int mk0, .ref yfa, .ref yfe, .int mL, .int mS, .int mM, .ref yro, .ref yhe, .ref ygr, .int mF, .int mC, .int mY, .ref yta, .int (nI (mz)), .int (nI (mf)), .int 0, .int mv, .int mw, .ref ywa, .ref ybi, .ref ysi, .ref ynu, .ref ymo])), (ys, .inl (cI, 449, .inl ms)), (yo, .inl (cI, 449, .inl ms))] := hD
  refine lv_aload_n hx hb dX9_land_9 rfl (lv_at hl 0 rfl) ?_
  refine lv_iconst (v := 0) hx hb dX9_land_10 (by decide) ?_
  refine xp hF kf_X9_266 tyX9_ok nmX9 hK hP hD hS 2 rfl rfl rfl rfl (Nat.le_of_ble_eq_true rfl) dX9_land_11 (fun H locs hP hD hS => ?_)
  have hP : va_P D vwCl [(yta, .inl (cI, 120, .inl tp)), (ywa, .inl (cI, 6, .inl wa)), (h0, .inr (9, [.ref ys, .ref yk, .ref yo, .ref yt, .int mk0, .ref yfa, .ref yfe, .int mL, .int mS, .int mM, .ref yro, .ref yhe, .ref ygr, .int mF, .int mC, .int mY, .ref yta, .int (nI (mz)), .int (nI (mf)), .int 0, .int mv, .int 0, .ref ywa, .ref ybi, .ref ysi, .ref ynu, .ref ymo])), (ys, .inl (cI, 449, .inl ms)), (yo, .inl (cI, 449, .inl ms))] H := hP
  have hD : va_D A [(yta, .inl (cI, 120, .inl tp)), (ywa, .inl (cI, 6, .inl wa)), (h0, .inr (9, [.ref ys, .ref yk, .ref yo, .ref yt, .int mk0, .ref yfa, .ref yfe, .int mL, .int mS, .int mM, .ref yro, .ref yhe, .ref ygr, .int mF, .int mC, .int mY, .ref yta, .int (nI (mz)), .int (nI (mf)), .int 0, .int mv, .int 0, .ref ywa, .ref ybi, .ref ysi, .ref ynu, .ref ymo])), (ys, .inl (cI, 449, .inl ms)), (yo, .inl (cI, 449, .inl ms))] := hD
  refine lv_aload_n hx hb dX9_land_14 rfl (lv_at hl 0 rfl) ?_
  refine xc_Vv (wr := [(ywa, .inl (cI, 6, .inl wa)), (ys, .inl (cI, 449, .inl ms)), (yo, .inl (cI, 449, .inl ms))]) hF (c_X9_next l D cI cJ cZ cS ta sa sv H.size h0 ys yk yo yt mk0 yfa yfe mL mS mM yro yhe ygr mF mC mY yta mz mf 0 mv 0 ywa ybi ysi ynu ymo tp bb (by omega) hbb (by omega)) kv_X9_269 ⟨rfl, rfl, Nat.le_of_ble_eq_true rfl, Nat.le_of_ble_eq_true rfl⟩ ⟨Nat.le_of_ble_eq_true rfl, Nat.le_of_ble_eq_true rfl⟩ hK hN hZ hP hD hS hA [2, 0] [1, 3, 4] rfl rfl rfl rfl (by decide) 0 rfl rfl rfl rfl hl.1 rfl (Nat.le_of_ble_eq_true rfl) dX9_land_15 (fun u_r_2 H locs hw_r_2 hP hD hS => ?_)
  obtain ⟨f2_3, t2_4⟩ := u_r_2
  try dsimp only at hw_r_2
  obtain ⟨i_5, i_6⟩ := hw_r_2
  subst i_5
  subst i_6
  have hP : va_P D vwCl [(ywa, .inl (cI, 6, .inl wa)), (ys, .inl (cI, 449, .inl ms)), (yo, .inl (cI, 449, .inl ms)), (h0, .inr (9, [.ref ys, .ref yk, .ref yo, .ref yt, .int mk0, .ref yfa, .ref yfe, .int mL, .int mS, .int mM, .ref yro, .ref yhe, .ref ygr, .int mF, .int mC, .int mY, .ref yta, .int (nI (mz)), .int (nI ((nf bb mz 0))), .int (nI ((nx bb mz 0))), .int mv, .int 0, .ref ywa, .ref ybi, .ref ysi, .ref ynu, .ref ymo])), (yta, .inl (cI, 120, .inl tp))] H := hP
  have hD : va_D A [(ywa, .inl (cI, 6, .inl wa)), (ys, .inl (cI, 449, .inl ms)), (yo, .inl (cI, 449, .inl ms)), (h0, .inr (9, [.ref ys, .ref yk, .ref yo, .ref yt, .int mk0, .ref yfa, .ref yfe, .int mL, .int mS, .int mM, .ref yro, .ref yhe, .ref ygr, .int mF, .int mC, .int mY, .ref yta, .int (nI (mz)), .int (nI ((nf bb mz 0))), .int (nI ((nx bb mz 0))), .int mv, .int 0, .ref ywa, .ref ybi, .ref ysi, .ref ynu, .ref ymo])), (yta, .inl (cI, 120, .inl tp))] := hD
  refine lv_iconst (v := 1) hx hb dX9_land_18 (by decide) ?_
  refine lv_istore_n (lv' := [(1, .int 1), (0, .ref h0)]) hx hb dX9_land_19 rfl hl (by decide) rfl (fun ls hl => ?_)
  refine lv_aload_n hx hb dX9_land_20 rfl (lv_at hl 1 rfl) ?_
  refine xc_Vv (wr := [(yo, .inl (cI, 449, .inl ms))]) hF (c_X9_item0 l D cI cJ cZ cS ta sa sv H.size h0 ys yk yo yt mk0 yfa yfe mL mS mM yro yhe ygr mF mC mY yta mz mv ywa ybi ysi ynu ymo ms tp wa P Rn Wn fae fal fau fao farn farp fak fawn fawp fat fas 0 bb (by omega) hbb (by omega) hs0 hs1 hs2 hsS hsM hsp hsr hsw hsR hsG) kv_X9_300 ⟨rfl, rfl, Nat.le_of_ble_eq_true rfl, Nat.le_of_ble_eq_true rfl⟩ ⟨Nat.le_of_ble_eq_true rfl, Nat.le_of_ble_eq_true rfl⟩ hK hN hZ hP hD hS hA [3, 1, 4, 0] [2] rfl rfl rfl rfl (by decide) 0 rfl rfl rfl rfl hl.1 rfl (Nat.le_of_ble_eq_true rfl) dX9_land_21 (fun u_r_7 H locs hw_r_7 hP hD hS => ?_)
  obtain ⟨u2_8, w2_9, v2_10, ms2_11, P2_12, W2_13, wa2_14, ge_15, gl_16, gu_17, go_18, gwn_19, gwp_20, gt_21, gs_22⟩ := u_r_7
  try dsimp only at hw_r_7
  obtain ⟨hw_r_7, i_23, i_24, i_25, i_26, i_27, i_28, i_29, i_30, i_31, i_32, i_33⟩ := hw_r_7
  have hP : va_P D vwCl [(yo, .inl (cI, 449, .inl ms)), (h0, .inr (9, [.ref ys, .ref yk, .ref yo, .ref yt, .int mk0, .ref yfa, .ref yfe, .int mL, .int mS, .int mM, .ref yro, .ref yhe, .ref ygr, .int mF, .int mC, .int mY, .ref yta, .int (nI (mz)), .int (nI (nf bb mz u2_8)), .int (nI (nx bb mz u2_8)), .int v2_10, .int w2_9, .ref ywa, .ref ybi, .ref ysi, .ref ynu, .ref ymo])), (ys, .inl (cI, 449, .inl ms2_11)), (yta, .inl (cI, 120, .inl tp)), (ywa, .inl (cI, 6, .inl wa2_14))] H := hP
  have hD : va_D A [(yo, .inl (cI, 449, .inl ms)), (h0, .inr (9, [.ref ys, .ref yk, .ref yo, .ref yt, .int mk0, .ref yfa, .ref yfe, .int mL, .int mS, .int mM, .ref yro, .ref yhe, .ref ygr, .int mF, .int mC, .int mY, .ref yta, .int (nI (mz)), .int (nI (nf bb mz u2_8)), .int (nI (nx bb mz u2_8)), .int v2_10, .int w2_9, .ref ywa, .ref ybi, .ref ysi, .ref ynu, .ref ymo])), (ys, .inl (cI, 449, .inl ms2_11)), (yta, .inl (cI, 120, .inl tp)), (ywa, .inl (cI, 6, .inl wa2_14))] := hD
  rcases hw_r_7 with ⟨h_34, h_35, h_36, h_37, h_38, h_39, h_40, h_41, h_42, h_43, h_44, h_45, h_46⟩ | ⟨h_47, h_48⟩
  · skip
    subst h_35
    subst h_36
    subst h_37
    suffices loop_24 : ∀ (n_24 : Nat) (i : Nat) (u8 : Nat) (v8 : Int32) (P8 : Nat) (W8 : Nat) (s8 : Nat → Int32) (a8 : Nat → Int32) (g8e : Nat → Int32) (g8l : Nat → Int32) (g8u : Nat → Int32) (g8o : Nat → Int32) (g8wn : Nat → Int32) (g8wp : Nat → Int32) (g8t : Nat → Int32) (g8s : Nat → Int32) (H : Heap) (locs : List Loc) (ls : Array Slot), mz + 1 - u8 < n_24 → (1 ≤ i) → (u8 ≤ mz) → (i ≤ u8) → (spLand bb mz 120 0 P Wn 1 = spAft bb mz i u8 P8 W8) → (spLz bb mz (stE bb mz) 120 0 P Wn fae = cif (tK bb mz u8 = 3) (spLz bb mz (stE bb mz) (121 - (i + 1)) (nx bb mz u8) P8 W8 g8e) g8e) → (spLz bb mz (stL bb mz) 120 0 P Wn fal = cif (tK bb mz u8 = 3) (spLz bb mz (stL bb mz) (121 - (i + 1)) (nx bb mz u8) P8 W8 g8l) g8l) → (spLz bb mz (stU bb mz) 120 0 P Wn fau = cif (tK bb mz u8 = 3) (spLz bb mz (stU bb mz) (121 - (i + 1)) (nx bb mz u8) P8 W8 g8u) g8u) → (spLz bb mz (stO bb mz) 120 0 P Wn fao = cif (tK bb mz u8 = 3) (spLz bb mz (stO bb mz) (121 - (i + 1)) (nx bb mz u8) P8 W8 g8o) g8o) → (spLz bb mz (stN bb mz) 120 0 P Wn fawn = cif (tK bb mz u8 = 3) (spLz bb mz (stN bb mz) (121 - (i + 1)) (nx bb mz u8) P8 W8 g8wn) g8wn) → (spLz bb mz (stR bb mz) 120 0 P Wn fawp = cif (tK bb mz u8 = 3) (spLz bb mz (stR bb mz) (121 - (i + 1)) (nx bb mz u8) P8 W8 g8wp) g8wp) → (spLz bb mz (stT bb mz) 120 0 P Wn fat = cif (tK bb mz u8 = 3) (spLz bb mz (stT bb mz) (121 - (i + 1)) (nx bb mz u8) P8 W8 g8t) g8t) → (spLz bb mz (stS bb mz) 120 0 P Wn fas = cif (tK bb mz u8 = 3) (spLz bb mz (stS bb mz) (121 - (i + 1)) (nx bb mz u8) P8 W8 g8s) g8s) → (s8 0 = nI P8) → (s8 1 = nI Rn) → (s8 2 = nI W8) → (SI s8) → (MI s8) → (P8 ≤ 10) → (Rn ≤ 8) → (W8 ≤ 8) → (RI Rn s8) → (FR P8 s8 g8e g8l g8u g8o farn farp fak g8wn g8wp g8t g8s) → va_P D vwCl [(yo, .inl (cI, 449, .inl ms)), (h0, .inr (9, [.ref ys, .ref yk, .ref yo, .ref yt, .int mk0, .ref yfa, .ref yfe, .int mL, .int mS, .int mM, .ref yro, .ref yhe, .ref ygr, .int mF, .int mC, .int mY, .ref yta, .int (nI (mz)), .int (nI (nf bb mz u8)), .int (nI (nx bb mz u8)), .int v8, .int 0, .ref ywa, .ref ybi, .ref ysi, .ref ynu, .ref ymo])), (ys, .inl (cI, 449, .inl s8)), (yta, .inl (cI, 120, .inl tp)), (ywa, .inl (cI, 6, .inl a8))] H → va_D A [(yo, .inl (cI, 449, .inl ms)), (h0, .inr (9, [.ref ys, .ref yk, .ref yo, .ref yt, .int mk0, .ref yfa, .ref yfe, .int mL, .int mS, .int mM, .ref yro, .ref yhe, .ref ygr, .int mF, .int mC, .int mY, .ref yta, .int (nI (mz)), .int (nI (nf bb mz u8)), .int (nI (nx bb mz u8)), .int v8, .int 0, .ref ywa, .ref ybi, .ref ysi, .ref ynu, .ref ymo])), (ys, .inl (cI, 449, .inl s8)), (yta, .inl (cI, 120, .inl tp)), (ywa, .inl (cI, 6, .inl a8))] → va_S A s.heap H locs → lv_has ls 2 [(1, .int (nI (i))), (0, .ref h0)] → W p l e ({ frames := 8, cells := 0, slots := 0, locals := 183 }) s m ([.ref h0] : List Value).toArray below meth c H locs 0 0 (MQ below (XQi (fun (r : Int32) (u : Nat × Nat × Int32 × Int32 × (Nat → Int32) × Nat × Nat × (Nat → Int32) × (Nat → Int32) × (Nat → Int32) × (Nat → Int32) × (Nat → Int32) × (Nat → Int32) × (Nat → Int32) × (Nat → Int32) × (Nat → Int32) × (Nat → Int32)) => match u with | (f2, t2, w2, v2, ms2, P2, W2, oo2, wa2, ge, gl, gu, go, gwn, gwp, gt, gs) => ((r = spLr bb mz (spLand bb mz 120 0 P Wn 1))) ∧ (P2 = spLP P (spLand bb mz 120 0 P Wn 1)) ∧ (W2 = spLW Wn (spLand bb mz 120 0 P Wn 1)) ∧ (ge = spLF (spLand bb mz 120 0 P Wn 1) fae (spLz bb mz (stE bb mz) 120 0 P Wn fae)) ∧ (gl = spLF (spLand bb mz 120 0 P Wn 1) fal (spLz bb mz (stL bb mz) 120 0 P Wn fal)) ∧ (gu = spLF (spLand bb mz 120 0 P Wn 1) fau (spLz bb mz (stU bb mz) 120 0 P Wn fau)) ∧ (go = spLF (spLand bb mz 120 0 P Wn 1) fao (spLz bb mz (stO bb mz) 120 0 P Wn fao)) ∧ (gwn = spLF (spLand bb mz 120 0 P Wn 1) fawn (spLz bb mz (stN bb mz) 120 0 P Wn fawn)) ∧ (gwp = spLF (spLand bb mz 120 0 P Wn 1) fawp (spLz bb mz (stR bb mz) 120 0 P Wn fawp)) ∧ (gt = spLF (spLand bb mz 120 0 P Wn 1) fat (spLz bb mz (stT bb mz) 120 0 P Wn fat)) ∧ (gs = spLF (spLand bb mz 120 0 P Wn 1) fas (spLz bb mz (stS bb mz) 120 0 P Wn fas)) ∧ (ms2 0 = nI P2) ∧ (ms2 1 = nI Rn) ∧ (ms2 2 = nI W2) ∧ (SI ms2) ∧ (MI ms2) ∧ (P2 ≤ 10) ∧ (Rn ≤ 8) ∧ (W2 ≤ 8) ∧ (RI Rn ms2) ∧ (FR P2 ms2 ge gl gu go farn farp fak gwn gwp gt gs)) D (fun (u : Nat × Nat × Int32 × Int32 × (Nat → Int32) × Nat × Nat × (Nat → Int32) × (Nat → Int32) × (Nat → Int32) × (Nat → Int32) × (Nat → Int32) × (Nat → Int32) × (Nat → Int32) × (Nat → Int32) × (Nat → Int32) × (Nat → Int32)) => match u with | (f2, t2, w2, v2, ms2, P2, W2, oo2, wa2, ge, gl, gu, go, gwn, gwp, gt, gs) => [(h0, .inr (9, [.ref ys, .ref yk, .ref yo, .ref yt, .int mk0, .ref yfa, .ref yfe, .int mL, .int mS, .int mM, .ref yro, .ref yhe, .ref ygr, .int mF, .int mC, .int mY, .ref yta, .int 0, .int (nI (f2)), .int (nI (t2)), .int v2, .int w2, .ref ywa, .ref ybi, .ref ysi, .ref ynu, .ref ymo])), (ys, .inl (cI, 449, .inl ms2)), (yo, .inl (cI, 449, .inl oo2)), (yta, .inl (cI, 120, .inl tp)), (ywa, .inl (cI, 6, .inl wa2))]) A) ([.ref h0] : List Value).toArray s 0 0 A) (F0 m 24 ls []) by
      exact loop_24 _ 1 u2_8 v2_10 (spP bb mz 0 P) (spW bb mz 0 Wn) ms2_11 wa2_14 ge_15 gl_16 gu_17 go_18 gwn_19 gwp_20 gt_21 gs_22 _ _ _ (Nat.lt_succ_self _) (by omega) (by omega) (by omega) (spLand_aft (i := 1) (by decide) h_34) (by rw [h_39]; exact spLz_aft (i := 1) (by decide) h_34) (by rw [h_40]; exact spLz_aft (i := 1) (by decide) h_34) (by rw [h_41]; exact spLz_aft (i := 1) (by decide) h_34) (by rw [h_42]; exact spLz_aft (i := 1) (by decide) h_34) (by rw [h_43]; exact spLz_aft (i := 1) (by decide) h_34) (by rw [h_44]; exact spLz_aft (i := 1) (by decide) h_34) (by rw [h_45]; exact spLz_aft (i := 1) (by decide) h_34) (by rw [h_46]; exact spLz_aft (i := 1) (by decide) h_34) i_24 i_25 i_26 i_27 i_28 i_29 i_30 i_31 i_32 i_33 hP hD hS (lv_sub hl [0, 1] rfl)
    intro n_24
    induction n_24 with
    | zero =>
      intro i u8 v8 P8 W8 s8 a8 g8e g8l g8u g8o g8wn g8wp g8t g8s H locs ls hm_24
      exact absurd hm_24 (Nat.not_lt_zero _)
    | succ n_24 ih_24 =>
      intro i u8 v8 P8 W8 s8 a8 g8e g8l g8u g8o g8wn g8wp g8t g8s H locs ls hm_24 hi1 hu8 hiu hL8 hze hzl hzu hzo hzwn hzwp hzt hzs ht0 ht1 ht2 htS htM htp htr htw htR htG hP hD hS hl
      refine lv_aload_n hx hb dX9_land_24 rfl (lv_at hl 1 rfl) ?_
      refine xg hF kf_X9_266 hK hP 1 rfl rfl dX9_land_25 ?_
      refine lv_if_ne (tgt := 74) hx hb dX9_land_28 (by decide) (fun c_49 => absurd (by decide) c_49) (fun c_49 => ?_)
      have htk8 := tk_le (b := bb) hu8
      refine lv_aload_n hx hb dX9_land_31 rfl (lv_at hl 1 rfl) ?_
      refine xg hF kf_X9_254 hK hP 1 rfl rfl dX9_land_32 ?_
      refine lv_aload_n hx hb dX9_land_35 rfl (lv_at hl 1 rfl) ?_
      refine xg hF kf_X9_240 hK hP 1 rfl rfl dX9_land_36 ?_
      refine lv_icmp_ge (tgt := 74) hx hb dX9_land_39 (by decide) (fun c_50 => ?_) (fun c_50 => ?_)
      · skip
        have nc_50 : mz ≤ nf bb mz u8 := xn_le (a := mz) (b := (nf bb mz u8)) (by omega) (by omega) c_50
        refine lv_aload_n hx hb dX9_land_74 rfl (lv_at hl 1 rfl) ?_
        refine lv_iconst (v := 0) hx hb dX9_land_75 (by decide) ?_
        refine xp hF kf_X9_240 tyX9_ok nmX9 hK hP hD hS 1 rfl rfl rfl rfl (Nat.le_of_ble_eq_true rfl) dX9_land_76 (fun H locs hP hD hS => ?_)
        have hP : va_P D vwCl [(yo, .inl (cI, 449, .inl ms)), (h0, .inr (9, [.ref ys, .ref yk, .ref yo, .ref yt, .int mk0, .ref yfa, .ref yfe, .int mL, .int mS, .int mM, .ref yro, .ref yhe, .ref ygr, .int mF, .int mC, .int mY, .ref yta, .int 0, .int (nI (nf bb mz u8)), .int (nI (nx bb mz u8)), .int v8, .int 0, .ref ywa, .ref ybi, .ref ysi, .ref ynu, .ref ymo])), (ys, .inl (cI, 449, .inl s8)), (yta, .inl (cI, 120, .inl tp)), (ywa, .inl (cI, 6, .inl a8))] H := hP
        have hD : va_D A [(yo, .inl (cI, 449, .inl ms)), (h0, .inr (9, [.ref ys, .ref yk, .ref yo, .ref yt, .int mk0, .ref yfa, .ref yfe, .int mL, .int mS, .int mM, .ref yro, .ref yhe, .ref ygr, .int mF, .int mC, .int mY, .ref yta, .int 0, .int (nI (nf bb mz u8)), .int (nI (nx bb mz u8)), .int v8, .int 0, .ref ywa, .ref ybi, .ref ysi, .ref ynu, .ref ymo])), (ys, .inl (cI, 449, .inl s8)), (yta, .inl (cI, 120, .inl tp)), (ywa, .inl (cI, 6, .inl a8))] := hD
        refine lv_aload_n hx hb dX9_land_79 rfl (lv_at hl 1 rfl) ?_
        refine xg hF kf_X9_266 hK hP 1 rfl rfl dX9_land_80 ?_
        refine lv_if_eq (tgt := 97) hx hb dX9_land_83 (by decide) (fun c_51 => ?_) (fun c_51 => absurd (by decide) c_51)
        refine lv_iload_n hx hb dX9_land_97 rfl (lv_at hl 0 rfl) ?_
        have hE9 := (hL8.trans (cif_pos (kd_end (show mz ≤ nf bb mz u8 by omega))) : spLand bb mz 120 0 P Wn 1 = Sum.inr (i, P8, W8))
        exact W.iret (v := nI (i)) hx hb hr (fun t ht hW => ⟨⟨nI (i), (nf bb mz u8, nx bb mz u8, 0, v8, s8, P8, W8, ms, a8, g8e, g8l, g8u, g8o, g8wn, g8wp, g8t, g8s), rfl, ⟨(by rw [hE9]; rfl), (by rw [hE9]; rfl), (by rw [hE9]; rfl), (by rw [hE9]; exact (hze.trans (cif_neg (fun w => absurd ((kd_end (show mz ≤ nf bb mz u8 by omega)).symm.trans w) (by decide)))).symm), (by rw [hE9]; exact (hzl.trans (cif_neg (fun w => absurd ((kd_end (show mz ≤ nf bb mz u8 by omega)).symm.trans w) (by decide)))).symm), (by rw [hE9]; exact (hzu.trans (cif_neg (fun w => absurd ((kd_end (show mz ≤ nf bb mz u8 by omega)).symm.trans w) (by decide)))).symm), (by rw [hE9]; exact (hzo.trans (cif_neg (fun w => absurd ((kd_end (show mz ≤ nf bb mz u8 by omega)).symm.trans w) (by decide)))).symm), (by rw [hE9]; exact (hzwn.trans (cif_neg (fun w => absurd ((kd_end (show mz ≤ nf bb mz u8 by omega)).symm.trans w) (by decide)))).symm), (by rw [hE9]; exact (hzwp.trans (cif_neg (fun w => absurd ((kd_end (show mz ≤ nf bb mz u8 by omega)).symm.trans w) (by decide)))).symm), (by rw [hE9]; exact (hzt.trans (cif_neg (fun w => absurd ((kd_end (show mz ≤ nf bb mz u8 by omega)).symm.trans w) (by decide)))).symm), (by rw [hE9]; exact (hzs.trans (cif_neg (fun w => absurd ((kd_end (show mz ≤ nf bb mz u8 by omega)).symm.trans w) (by decide)))).symm), ht0, ht1, ht2, htS, htM, htp, htr, htw, htR, htG⟩, by rw [ht]; exact hP.sub [1, 2, 0, 3, 4] rfl, hD.sub [1, 2, 0, 3, 4] (by decide +kernel) rfl⟩, hS.F ht⟩) hS.2.2 dX9_land_98 hlk
      · skip
        have nc_50 : nf bb mz u8 < mz := xn_nle (a := mz) (b := (nf bb mz u8)) (by omega) (by omega) c_50
        refine lv_aload_n hx hb dX9_land_42 rfl (lv_at hl 1 rfl) ?_
        refine lv_aload_n hx hb dX9_land_43 rfl (lv_at hl 1 rfl) ?_
        refine lv_aload_n hx hb dX9_land_44 rfl (lv_at hl 1 rfl) ?_
        refine xg hF kf_X9_254 hK hP 1 rfl rfl dX9_land_45 ?_
        refine xc_Vr hF (c_X9_byteAt l D cI cJ cZ cS ta sa sv H.size h0 ys yk yo yt mk0 yfa yfe mL mS mM yro yhe ygr mF mC mY yta mz (nf bb mz u8) (nx bb mz u8) v8 0 ywa ybi ysi ynu ymo tp (nf bb mz u8) bb (by omega) hbb (by omega)) kv_X9_257 ⟨rfl, rfl, Nat.le_of_ble_eq_true rfl, Nat.le_of_ble_eq_true rfl⟩ ⟨Nat.le_of_ble_eq_true rfl, Nat.le_of_ble_eq_true rfl⟩ hK hN hZ hP hD hS hA [1, 3] rfl rfl 0 rfl rfl rfl rfl hl.1 rfl (Nat.le_of_ble_eq_true rfl) dX9_land_48 (fun r_52 hw_r_52 => ?_)
        rcases hw_r_52 with ⟨rfl, h_53⟩ | ⟨rfl, h_54⟩
        · skip
          refine lv_bipush (v := 59) hx hb dX9_land_51 (by decide) ?_
          refine lv_icmp_ne (tgt := 60) hx hb dX9_land_53 (by decide) (fun c_55 => ?_) (fun c_55 => ?_)
          · skip
            refine lv_iconst (v := 0) hx hb dX9_land_60 (by decide) ?_
            refine xc_Vv (wr := [(yo, .inl (cI, 449, .inl ms)), (ys, .inl (cI, 449, .inl s8)), (ywa, .inl (cI, 6, .inl a8))]) hF (c_X9_needs0 l D cI cJ cZ cS ta sa sv H.size h0 ys yk yo yt mk0 yfa yfe mL mS mM yro yhe ygr mF mC mY yta mz v8 ywa ybi ysi ynu ymo tp u8 bb (by omega) hbb (by omega)) kv_X9_278 ⟨rfl, rfl, Nat.le_of_ble_eq_true rfl, Nat.le_of_ble_eq_true rfl⟩ ⟨Nat.le_of_ble_eq_true rfl, Nat.le_of_ble_eq_true rfl⟩ hK hN hZ hP hD hS hA [1, 3] [0, 2, 4] rfl rfl rfl rfl (by decide) 0 rfl rfl rfl rfl hl.1 rfl (Nat.le_of_ble_eq_true rfl) dX9_land_61 (fun u_r_56 H locs hw_r_56 hP hD hS => ?_)
            have hP : va_P D vwCl [(yo, .inl (cI, 449, .inl ms)), (ys, .inl (cI, 449, .inl s8)), (ywa, .inl (cI, 6, .inl a8)), (h0, .inr (9, [.ref ys, .ref yk, .ref yo, .ref yt, .int mk0, .ref yfa, .ref yfe, .int mL, .int mS, .int mM, .ref yro, .ref yhe, .ref ygr, .int mF, .int mC, .int mY, .ref yta, .int (nI (mz)), .int (nI (nf bb mz u8)), .int (nI (nx bb mz u8)), .int v8, .int 1, .ref ywa, .ref ybi, .ref ysi, .ref ynu, .ref ymo])), (yta, .inl (cI, 120, .inl tp))] H := hP
            have hD : va_D A [(yo, .inl (cI, 449, .inl ms)), (ys, .inl (cI, 449, .inl s8)), (ywa, .inl (cI, 6, .inl a8)), (h0, .inr (9, [.ref ys, .ref yk, .ref yo, .ref yt, .int mk0, .ref yfa, .ref yfe, .int mL, .int mS, .int mM, .ref yro, .ref yhe, .ref ygr, .int mF, .int mC, .int mY, .ref yta, .int (nI (mz)), .int (nI (nf bb mz u8)), .int (nI (nx bb mz u8)), .int v8, .int 1, .ref ywa, .ref ybi, .ref ysi, .ref ynu, .ref ymo])), (yta, .inl (cI, 120, .inl tp))] := hD
            refine lv_aload_n hx hb dX9_land_64 rfl (lv_at hl 1 rfl) ?_
            refine xc_Vv (wr := [(yo, .inl (cI, 449, .inl ms))]) hF (c_X9_itemW l D cI cJ cZ cS ta sa sv H.size h0 ys yk yo yt mk0 yfa yfe mL mS mM yro yhe ygr mF mC mY yta mz v8 ywa ybi ysi ynu ymo s8 tp a8 P8 Rn W8 g8e g8l g8u g8o farn farp fak g8wn g8wp g8t g8s u8 bb (by omega) hbb (by omega) ht0 ht1 ht2 htS htM htp htr htw htR htG) kv_X9_300 ⟨rfl, rfl, Nat.le_of_ble_eq_true rfl, Nat.le_of_ble_eq_true rfl⟩ ⟨Nat.le_of_ble_eq_true rfl, Nat.le_of_ble_eq_true rfl⟩ hK hN hZ hP hD hS hA [3, 1, 4, 2] [0] rfl rfl rfl rfl (by decide) 0 rfl rfl rfl rfl hl.1 rfl (Nat.le_of_ble_eq_true rfl) dX9_land_65 (fun u_r_57 H locs hw_r_57 hP hD hS => ?_)
            have hP : va_P D vwCl [(yo, .inl (cI, 449, .inl ms)), (h0, .inr (9, [.ref ys, .ref yk, .ref yo, .ref yt, .int mk0, .ref yfa, .ref yfe, .int mL, .int mS, .int mM, .ref yro, .ref yhe, .ref ygr, .int mF, .int mC, .int mY, .ref yta, .int (nI (mz)), .int (nI (nf bb mz u8)), .int (nI (nx bb mz u8)), .int v8, .int 1, .ref ywa, .ref ybi, .ref ysi, .ref ynu, .ref ymo])), (ys, .inl (cI, 449, .inl s8)), (yta, .inl (cI, 120, .inl tp)), (ywa, .inl (cI, 6, .inl a8))] H := hP
            have hD : va_D A [(yo, .inl (cI, 449, .inl ms)), (h0, .inr (9, [.ref ys, .ref yk, .ref yo, .ref yt, .int mk0, .ref yfa, .ref yfe, .int mL, .int mS, .int mM, .ref yro, .ref yhe, .ref ygr, .int mF, .int mC, .int mY, .ref yta, .int (nI (mz)), .int (nI (nf bb mz u8)), .int (nI (nx bb mz u8)), .int v8, .int 1, .ref ywa, .ref ybi, .ref ysi, .ref ynu, .ref ymo])), (ys, .inl (cI, 449, .inl s8)), (yta, .inl (cI, 120, .inl tp)), (ywa, .inl (cI, 6, .inl a8))] := hD
            refine lv_iinc (v := nI (i + 1)) (lv' := [(1, .int (nI (i + 1))), (0, .ref h0)]) hx hb dX9_land_68 hl (k := 0) rfl (nI_1 (i)) (by decide) rfl (fun ls hl => ?_)
            refine lv_goto (tgt := 24) hx hb dX9_land_71 (by decide) ?_
            refine lv_aload_n hx hb dX9_land_24 rfl (lv_at hl 1 rfl) ?_
            refine xg hF kf_X9_266 hK hP 1 rfl rfl dX9_land_25 ?_
            refine lv_if_ne (tgt := 74) hx hb dX9_land_28 (by decide) (fun c_58 => ?_) (fun c_58 => absurd c_58 (by decide))
            refine lv_aload_n hx hb dX9_land_74 rfl (lv_at hl 1 rfl) ?_
            refine lv_iconst (v := 0) hx hb dX9_land_75 (by decide) ?_
            refine xp hF kf_X9_240 tyX9_ok nmX9 hK hP hD hS 1 rfl rfl rfl rfl (Nat.le_of_ble_eq_true rfl) dX9_land_76 (fun H locs hP hD hS => ?_)
            have hP : va_P D vwCl [(yo, .inl (cI, 449, .inl ms)), (h0, .inr (9, [.ref ys, .ref yk, .ref yo, .ref yt, .int mk0, .ref yfa, .ref yfe, .int mL, .int mS, .int mM, .ref yro, .ref yhe, .ref ygr, .int mF, .int mC, .int mY, .ref yta, .int 0, .int (nI (nf bb mz u8)), .int (nI (nx bb mz u8)), .int v8, .int 1, .ref ywa, .ref ybi, .ref ysi, .ref ynu, .ref ymo])), (ys, .inl (cI, 449, .inl s8)), (yta, .inl (cI, 120, .inl tp)), (ywa, .inl (cI, 6, .inl a8))] H := hP
            have hD : va_D A [(yo, .inl (cI, 449, .inl ms)), (h0, .inr (9, [.ref ys, .ref yk, .ref yo, .ref yt, .int mk0, .ref yfa, .ref yfe, .int mL, .int mS, .int mM, .ref yro, .ref yhe, .ref ygr, .int mF, .int mC, .int mY, .ref yta, .int 0, .int (nI (nf bb mz u8)), .int (nI (nx bb mz u8)), .int v8, .int 1, .ref ywa, .ref ybi, .ref ysi, .ref ynu, .ref ymo])), (ys, .inl (cI, 449, .inl s8)), (yta, .inl (cI, 120, .inl tp)), (ywa, .inl (cI, 6, .inl a8))] := hD
            refine lv_aload_n hx hb dX9_land_79 rfl (lv_at hl 1 rfl) ?_
            refine xg hF kf_X9_266 hK hP 1 rfl rfl dX9_land_80 ?_
            refine lv_if_eq (tgt := 97) hx hb dX9_land_83 (by decide) (fun c_59 => absurd c_59 (by decide)) (fun c_59 => ?_)
            refine lv_aload_n hx hb dX9_land_86 rfl (lv_at hl 1 rfl) ?_
            refine xc_Vv (wr := [(yta, .inl (cI, 120, .inl tp)), (ywa, .inl (cI, 6, .inl a8))]) hF (c_X9_putsBack l D cI cJ cZ cS ta sa sv H.size h0 ys yk yo yt mk0 yfa yfe mL mS mM yro yhe ygr mF mC mY yta 0 (nf bb mz u8) (nx bb mz u8) v8 1 ywa ybi ysi ynu ymo s8 ms P Rn Wn fae fal fau fao farn farp fak fawn fawp fat fas hs0 hs1 hs2 hsS hsM hsp hsr hsw hsR hsG) kv_X9_220 ⟨rfl, rfl, Nat.le_of_ble_eq_true rfl, Nat.le_of_ble_eq_true rfl⟩ ⟨Nat.le_of_ble_eq_true rfl, Nat.le_of_ble_eq_true rfl⟩ hK hN hZ hP hD hS hA [1, 2, 0] [3, 4] rfl rfl rfl rfl (by decide) 0 rfl rfl rfl rfl hl.1 rfl (Nat.le_of_ble_eq_true rfl) dX9_land_87 (fun u_r_60 H locs hw_r_60 hP hD hS => ?_)
            have hP : va_P D vwCl [(yta, .inl (cI, 120, .inl tp)), (ywa, .inl (cI, 6, .inl a8)), (h0, .inr (9, [.ref ys, .ref yk, .ref yo, .ref yt, .int mk0, .ref yfa, .ref yfe, .int mL, .int mS, .int mM, .ref yro, .ref yhe, .ref ygr, .int mF, .int mC, .int mY, .ref yta, .int 0, .int (nI ((nf bb mz u8))), .int (nI ((nx bb mz u8))), .int v8, .int 1, .ref ywa, .ref ybi, .ref ysi, .ref ynu, .ref ymo])), (ys, .inl (cI, 449, .inl ms)), (yo, .inl (cI, 449, .inl ms))] H := hP
            have hD : va_D A [(yta, .inl (cI, 120, .inl tp)), (ywa, .inl (cI, 6, .inl a8)), (h0, .inr (9, [.ref ys, .ref yk, .ref yo, .ref yt, .int mk0, .ref yfa, .ref yfe, .int mL, .int mS, .int mM, .ref yro, .ref yhe, .ref ygr, .int mF, .int mC, .int mY, .ref yta, .int 0, .int (nI ((nf bb mz u8))), .int (nI ((nx bb mz u8))), .int v8, .int 1, .ref ywa, .ref ybi, .ref ysi, .ref ynu, .ref ymo])), (ys, .inl (cI, 449, .inl ms)), (yo, .inl (cI, 449, .inl ms))] := hD
            refine lv_iconst (v := (-1)) hx hb dX9_land_90 (by decide) ?_
            refine lv_aload_n hx hb dX9_land_91 rfl (lv_at hl 1 rfl) ?_
            refine xg hF kf_X9_254 hK hP 2 rfl rfl dX9_land_92 ?_
            refine lv_isub hx hb dX9_land_95 ?_
            have hE9 := (hL8.trans ((cif_neg (kd_ne0 (show nf bb mz u8 < mz by omega))).trans (cif_neg (kd_nsemi c_55))) : spLand bb mz 120 0 P Wn 1 = Sum.inl u8)
            exact W.iret (v := (-1) - (nI ((nf bb mz u8)))) hx hb hr (fun t ht hW => ⟨⟨(-1) - (nI ((nf bb mz u8))), ((nf bb mz u8), (nx bb mz u8), 1, v8, ms, P, Wn, ms, a8, fae, fal, fau, fao, fawn, fawp, fat, fas), rfl, ⟨(by rw [hE9]; rfl), (by rw [hE9]; rfl), (by rw [hE9]; rfl), (by rw [hE9]; rfl), (by rw [hE9]; rfl), (by rw [hE9]; rfl), (by rw [hE9]; rfl), (by rw [hE9]; rfl), (by rw [hE9]; rfl), (by rw [hE9]; rfl), (by rw [hE9]; rfl), hs0, hs1, hs2, hsS, hsM, hsp, hsr, hsw, hsR, hsG⟩, by rw [ht]; exact hP.sub [2, 3, 4, 0, 1] rfl, hD.sub [2, 3, 4, 0, 1] (by decide +kernel) rfl⟩, hS.F ht⟩) hS.2.2 dX9_land_96 hlk
          · skip
            refine lv_iconst (v := 1) hx hb dX9_land_56 (by decide) ?_
            refine lv_goto (tgt := 61) hx hb dX9_land_57 (by decide) ?_
            refine xc_Vv (wr := [(yo, .inl (cI, 449, .inl ms)), (ys, .inl (cI, 449, .inl s8)), (ywa, .inl (cI, 6, .inl a8))]) hF (c_X9_needs1 l D cI cJ cZ cS ta sa sv H.size h0 ys yk yo yt mk0 yfa yfe mL mS mM yro yhe ygr mF mC mY yta mz v8 ywa ybi ysi ynu ymo tp u8 bb (by omega) hbb (by omega)) kv_X9_278 ⟨rfl, rfl, Nat.le_of_ble_eq_true rfl, Nat.le_of_ble_eq_true rfl⟩ ⟨Nat.le_of_ble_eq_true rfl, Nat.le_of_ble_eq_true rfl⟩ hK hN hZ hP hD hS hA [1, 3] [0, 2, 4] rfl rfl rfl rfl (by decide) 0 rfl rfl rfl rfl hl.1 rfl (Nat.le_of_ble_eq_true rfl) dX9_land_61 (fun u_r_61 H locs hw_r_61 hP hD hS => ?_)
            obtain ⟨i_62, i_63⟩ := hw_r_61
            have hP : va_P D vwCl [(yo, .inl (cI, 449, .inl ms)), (ys, .inl (cI, 449, .inl s8)), (ywa, .inl (cI, 6, .inl a8)), (h0, .inr (9, [.ref ys, .ref yk, .ref yo, .ref yt, .int mk0, .ref yfa, .ref yfe, .int mL, .int mS, .int mM, .ref yro, .ref yhe, .ref ygr, .int mF, .int mC, .int mY, .ref yta, .int (nI (mz)), .int (nI (nf bb mz (nx bb mz u8))), .int (nI (nx bb mz (nx bb mz u8))), .int v8, .int 0, .ref ywa, .ref ybi, .ref ysi, .ref ynu, .ref ymo])), (yta, .inl (cI, 120, .inl tp))] H := hP
            have hD : va_D A [(yo, .inl (cI, 449, .inl ms)), (ys, .inl (cI, 449, .inl s8)), (ywa, .inl (cI, 6, .inl a8)), (h0, .inr (9, [.ref ys, .ref yk, .ref yo, .ref yt, .int mk0, .ref yfa, .ref yfe, .int mL, .int mS, .int mM, .ref yro, .ref yhe, .ref ygr, .int mF, .int mC, .int mY, .ref yta, .int (nI (mz)), .int (nI (nf bb mz (nx bb mz u8))), .int (nI (nx bb mz (nx bb mz u8))), .int v8, .int 0, .ref ywa, .ref ybi, .ref ysi, .ref ynu, .ref ymo])), (yta, .inl (cI, 120, .inl tp))] := hD
            refine lv_aload_n hx hb dX9_land_64 rfl (lv_at hl 1 rfl) ?_
            refine xc_Vv (wr := [(yo, .inl (cI, 449, .inl ms))]) hF (c_X9_item0 l D cI cJ cZ cS ta sa sv H.size h0 ys yk yo yt mk0 yfa yfe mL mS mM yro yhe ygr mF mC mY yta mz v8 ywa ybi ysi ynu ymo s8 tp a8 P8 Rn W8 g8e g8l g8u g8o farn farp fak g8wn g8wp g8t g8s (nx bb mz u8) bb (by omega) hbb (by omega) ht0 ht1 ht2 htS htM htp htr htw htR htG) kv_X9_300 ⟨rfl, rfl, Nat.le_of_ble_eq_true rfl, Nat.le_of_ble_eq_true rfl⟩ ⟨Nat.le_of_ble_eq_true rfl, Nat.le_of_ble_eq_true rfl⟩ hK hN hZ hP hD hS hA [3, 1, 4, 2] [0] rfl rfl rfl rfl (by decide) 0 rfl rfl rfl rfl hl.1 rfl (Nat.le_of_ble_eq_true rfl) dX9_land_65 (fun u_r_64 H locs hw_r_64 hP hD hS => ?_)
            obtain ⟨u2_65, w2_66, v2_67, ms2_68, P2_69, W2_70, wa2_71, ge_72, gl_73, gu_74, go_75, gwn_76, gwp_77, gt_78, gs_79⟩ := u_r_64
            try dsimp only at hw_r_64
            obtain ⟨hw_r_64, i_80, i_81, i_82, i_83, i_84, i_85, i_86, i_87, i_88, i_89, i_90⟩ := hw_r_64
            have hP : va_P D vwCl [(yo, .inl (cI, 449, .inl ms)), (h0, .inr (9, [.ref ys, .ref yk, .ref yo, .ref yt, .int mk0, .ref yfa, .ref yfe, .int mL, .int mS, .int mM, .ref yro, .ref yhe, .ref ygr, .int mF, .int mC, .int mY, .ref yta, .int (nI (mz)), .int (nI (nf bb mz u2_65)), .int (nI (nx bb mz u2_65)), .int v2_67, .int w2_66, .ref ywa, .ref ybi, .ref ysi, .ref ynu, .ref ymo])), (ys, .inl (cI, 449, .inl ms2_68)), (yta, .inl (cI, 120, .inl tp)), (ywa, .inl (cI, 6, .inl wa2_71))] H := hP
            have hD : va_D A [(yo, .inl (cI, 449, .inl ms)), (h0, .inr (9, [.ref ys, .ref yk, .ref yo, .ref yt, .int mk0, .ref yfa, .ref yfe, .int mL, .int mS, .int mM, .ref yro, .ref yhe, .ref ygr, .int mF, .int mC, .int mY, .ref yta, .int (nI (mz)), .int (nI (nf bb mz u2_65)), .int (nI (nx bb mz u2_65)), .int v2_67, .int w2_66, .ref ywa, .ref ybi, .ref ysi, .ref ynu, .ref ymo])), (ys, .inl (cI, 449, .inl ms2_68)), (yta, .inl (cI, 120, .inl tp)), (ywa, .inl (cI, 6, .inl wa2_71))] := hD
            rcases hw_r_64 with ⟨h_91, h_92, h_93, h_94, h_95, h_96, h_97, h_98, h_99, h_100, h_101, h_102, h_103⟩ | ⟨h_104, h_105⟩
            · skip
              subst h_92
              subst h_93
              subst h_94
              refine lv_iinc (v := nI (i + 1)) (lv' := [(1, .int (nI (i + 1))), (0, .ref h0)]) hx hb dX9_land_68 hl (k := 0) rfl (nI_1 (i)) (by decide) rfl (fun ls hl => ?_)
              refine lv_goto (tgt := 24) hx hb dX9_land_71 (by decide) ?_
              exact ih_24 (i + 1) u2_65 v2_67 (spP bb mz (nx bb mz u8) P8) (spW bb mz (nx bb mz u8) W8) ms2_68 wa2_71 ge_72 gl_73 gu_74 go_75 gwn_76 gwp_77 gt_78 gs_79 _ _ _ (by omega) (by omega) (by omega) (by omega) (hL8.trans ((cif_neg (kd_ne0 (show nf bb mz u8 < mz by omega))).trans ((cif_pos (kd_semi (by omega) c_55)).trans (spLand_aft (by omega) h_91)))) (by rw [h_96]; exact hze.trans ((cif_pos (kd_semi (by omega) c_55)).trans (spLz_aft (by omega) h_91))) (by rw [h_97]; exact hzl.trans ((cif_pos (kd_semi (by omega) c_55)).trans (spLz_aft (by omega) h_91))) (by rw [h_98]; exact hzu.trans ((cif_pos (kd_semi (by omega) c_55)).trans (spLz_aft (by omega) h_91))) (by rw [h_99]; exact hzo.trans ((cif_pos (kd_semi (by omega) c_55)).trans (spLz_aft (by omega) h_91))) (by rw [h_100]; exact hzwn.trans ((cif_pos (kd_semi (by omega) c_55)).trans (spLz_aft (by omega) h_91))) (by rw [h_101]; exact hzwp.trans ((cif_pos (kd_semi (by omega) c_55)).trans (spLz_aft (by omega) h_91))) (by rw [h_102]; exact hzt.trans ((cif_pos (kd_semi (by omega) c_55)).trans (spLz_aft (by omega) h_91))) (by rw [h_103]; exact hzs.trans ((cif_pos (kd_semi (by omega) c_55)).trans (spLz_aft (by omega) h_91))) i_81 i_82 i_83 i_84 i_85 i_86 i_87 i_88 i_89 i_90 (hP.sub [0, 1, 2, 3, 4] rfl) (hD.sub [0, 1, 2, 3, 4] (by decide +kernel) rfl) hS (lv_sub hl [0, 1] rfl)
            · skip
              subst h_105
              refine lv_iinc (v := nI (i + 1)) (lv' := [(1, .int (nI (i + 1))), (0, .ref h0)]) hx hb dX9_land_68 hl (k := 0) rfl (nI_1 (i)) (by decide) rfl (fun ls hl => ?_)
              refine lv_goto (tgt := 24) hx hb dX9_land_71 (by decide) ?_
              refine lv_aload_n hx hb dX9_land_24 rfl (lv_at hl 1 rfl) ?_
              refine xg hF kf_X9_266 hK hP 1 rfl rfl dX9_land_25 ?_
              refine lv_if_ne (tgt := 74) hx hb dX9_land_28 (by decide) (fun c_106 => ?_) (fun c_106 => absurd c_106 (by decide))
              refine lv_aload_n hx hb dX9_land_74 rfl (lv_at hl 1 rfl) ?_
              refine lv_iconst (v := 0) hx hb dX9_land_75 (by decide) ?_
              refine xp hF kf_X9_240 tyX9_ok nmX9 hK hP hD hS 1 rfl rfl rfl rfl (Nat.le_of_ble_eq_true rfl) dX9_land_76 (fun H locs hP hD hS => ?_)
              have hP : va_P D vwCl [(yo, .inl (cI, 449, .inl ms)), (h0, .inr (9, [.ref ys, .ref yk, .ref yo, .ref yt, .int mk0, .ref yfa, .ref yfe, .int mL, .int mS, .int mM, .ref yro, .ref yhe, .ref ygr, .int mF, .int mC, .int mY, .ref yta, .int 0, .int (nI (nf bb mz u2_65)), .int (nI (nx bb mz u2_65)), .int v2_67, .int 1, .ref ywa, .ref ybi, .ref ysi, .ref ynu, .ref ymo])), (ys, .inl (cI, 449, .inl ms2_68)), (yta, .inl (cI, 120, .inl tp)), (ywa, .inl (cI, 6, .inl wa2_71))] H := hP
              have hD : va_D A [(yo, .inl (cI, 449, .inl ms)), (h0, .inr (9, [.ref ys, .ref yk, .ref yo, .ref yt, .int mk0, .ref yfa, .ref yfe, .int mL, .int mS, .int mM, .ref yro, .ref yhe, .ref ygr, .int mF, .int mC, .int mY, .ref yta, .int 0, .int (nI (nf bb mz u2_65)), .int (nI (nx bb mz u2_65)), .int v2_67, .int 1, .ref ywa, .ref ybi, .ref ysi, .ref ynu, .ref ymo])), (ys, .inl (cI, 449, .inl ms2_68)), (yta, .inl (cI, 120, .inl tp)), (ywa, .inl (cI, 6, .inl wa2_71))] := hD
              refine lv_aload_n hx hb dX9_land_79 rfl (lv_at hl 1 rfl) ?_
              refine xg hF kf_X9_266 hK hP 1 rfl rfl dX9_land_80 ?_
              refine lv_if_eq (tgt := 97) hx hb dX9_land_83 (by decide) (fun c_107 => absurd c_107 (by decide)) (fun c_107 => ?_)
              refine lv_aload_n hx hb dX9_land_86 rfl (lv_at hl 1 rfl) ?_
              refine xc_Vv (wr := [(yta, .inl (cI, 120, .inl tp)), (ywa, .inl (cI, 6, .inl wa2_71))]) hF (c_X9_putsBack l D cI cJ cZ cS ta sa sv H.size h0 ys yk yo yt mk0 yfa yfe mL mS mM yro yhe ygr mF mC mY yta 0 (nf bb mz u2_65) (nx bb mz u2_65) v2_67 1 ywa ybi ysi ynu ymo ms2_68 ms P Rn Wn fae fal fau fao farn farp fak fawn fawp fat fas hs0 hs1 hs2 hsS hsM hsp hsr hsw hsR hsG) kv_X9_220 ⟨rfl, rfl, Nat.le_of_ble_eq_true rfl, Nat.le_of_ble_eq_true rfl⟩ ⟨Nat.le_of_ble_eq_true rfl, Nat.le_of_ble_eq_true rfl⟩ hK hN hZ hP hD hS hA [1, 2, 0] [3, 4] rfl rfl rfl rfl (by decide) 0 rfl rfl rfl rfl hl.1 rfl (Nat.le_of_ble_eq_true rfl) dX9_land_87 (fun u_r_108 H locs hw_r_108 hP hD hS => ?_)
              have hP : va_P D vwCl [(yta, .inl (cI, 120, .inl tp)), (ywa, .inl (cI, 6, .inl wa2_71)), (h0, .inr (9, [.ref ys, .ref yk, .ref yo, .ref yt, .int mk0, .ref yfa, .ref yfe, .int mL, .int mS, .int mM, .ref yro, .ref yhe, .ref ygr, .int mF, .int mC, .int mY, .ref yta, .int 0, .int (nI ((nf bb mz u2_65))), .int (nI ((nx bb mz u2_65))), .int v2_67, .int 1, .ref ywa, .ref ybi, .ref ysi, .ref ynu, .ref ymo])), (ys, .inl (cI, 449, .inl ms)), (yo, .inl (cI, 449, .inl ms))] H := hP
              have hD : va_D A [(yta, .inl (cI, 120, .inl tp)), (ywa, .inl (cI, 6, .inl wa2_71)), (h0, .inr (9, [.ref ys, .ref yk, .ref yo, .ref yt, .int mk0, .ref yfa, .ref yfe, .int mL, .int mS, .int mM, .ref yro, .ref yhe, .ref ygr, .int mF, .int mC, .int mY, .ref yta, .int 0, .int (nI ((nf bb mz u2_65))), .int (nI ((nx bb mz u2_65))), .int v2_67, .int 1, .ref ywa, .ref ybi, .ref ysi, .ref ynu, .ref ymo])), (ys, .inl (cI, 449, .inl ms)), (yo, .inl (cI, 449, .inl ms))] := hD
              refine lv_iconst (v := (-1)) hx hb dX9_land_90 (by decide) ?_
              refine lv_aload_n hx hb dX9_land_91 rfl (lv_at hl 1 rfl) ?_
              refine xg hF kf_X9_254 hK hP 2 rfl rfl dX9_land_92 ?_
              refine lv_isub hx hb dX9_land_95 ?_
              have hE9 := (hL8.trans ((cif_neg (kd_ne0 (show nf bb mz u8 < mz by omega))).trans ((cif_pos (kd_semi (by omega) c_55)).trans (spLand_no (by omega) h_104))) : spLand bb mz 120 0 P Wn 1 = Sum.inl u2_65)
              exact W.iret (v := (-1) - (nI ((nf bb mz u2_65)))) hx hb hr (fun t ht hW => ⟨⟨(-1) - (nI ((nf bb mz u2_65))), ((nf bb mz u2_65), (nx bb mz u2_65), 1, v2_67, ms, P, Wn, ms, wa2_71, fae, fal, fau, fao, fawn, fawp, fat, fas), rfl, ⟨(by rw [hE9]; rfl), (by rw [hE9]; rfl), (by rw [hE9]; rfl), (by rw [hE9]; rfl), (by rw [hE9]; rfl), (by rw [hE9]; rfl), (by rw [hE9]; rfl), (by rw [hE9]; rfl), (by rw [hE9]; rfl), (by rw [hE9]; rfl), (by rw [hE9]; rfl), hs0, hs1, hs2, hsS, hsM, hsp, hsr, hsw, hsR, hsG⟩, by rw [ht]; exact hP.sub [2, 3, 4, 0, 1] rfl, hD.sub [2, 3, 4, 0, 1] (by decide +kernel) rfl⟩, hS.F ht⟩) hS.2.2 dX9_land_96 hlk
        · exact absurd h_54 (by omega)
  · skip
    subst h_48
    refine lv_aload_n hx hb dX9_land_24 rfl (lv_at hl 1 rfl) ?_
    refine xg hF kf_X9_266 hK hP 1 rfl rfl dX9_land_25 ?_
    refine lv_if_ne (tgt := 74) hx hb dX9_land_28 (by decide) (fun c_109 => ?_) (fun c_109 => absurd c_109 (by decide))
    refine lv_aload_n hx hb dX9_land_74 rfl (lv_at hl 1 rfl) ?_
    refine lv_iconst (v := 0) hx hb dX9_land_75 (by decide) ?_
    refine xp hF kf_X9_240 tyX9_ok nmX9 hK hP hD hS 1 rfl rfl rfl rfl (Nat.le_of_ble_eq_true rfl) dX9_land_76 (fun H locs hP hD hS => ?_)
    have hP : va_P D vwCl [(yo, .inl (cI, 449, .inl ms)), (h0, .inr (9, [.ref ys, .ref yk, .ref yo, .ref yt, .int mk0, .ref yfa, .ref yfe, .int mL, .int mS, .int mM, .ref yro, .ref yhe, .ref ygr, .int mF, .int mC, .int mY, .ref yta, .int 0, .int (nI (nf bb mz u2_8)), .int (nI (nx bb mz u2_8)), .int v2_10, .int 1, .ref ywa, .ref ybi, .ref ysi, .ref ynu, .ref ymo])), (ys, .inl (cI, 449, .inl ms2_11)), (yta, .inl (cI, 120, .inl tp)), (ywa, .inl (cI, 6, .inl wa2_14))] H := hP
    have hD : va_D A [(yo, .inl (cI, 449, .inl ms)), (h0, .inr (9, [.ref ys, .ref yk, .ref yo, .ref yt, .int mk0, .ref yfa, .ref yfe, .int mL, .int mS, .int mM, .ref yro, .ref yhe, .ref ygr, .int mF, .int mC, .int mY, .ref yta, .int 0, .int (nI (nf bb mz u2_8)), .int (nI (nx bb mz u2_8)), .int v2_10, .int 1, .ref ywa, .ref ybi, .ref ysi, .ref ynu, .ref ymo])), (ys, .inl (cI, 449, .inl ms2_11)), (yta, .inl (cI, 120, .inl tp)), (ywa, .inl (cI, 6, .inl wa2_14))] := hD
    refine lv_aload_n hx hb dX9_land_79 rfl (lv_at hl 1 rfl) ?_
    refine xg hF kf_X9_266 hK hP 1 rfl rfl dX9_land_80 ?_
    refine lv_if_eq (tgt := 97) hx hb dX9_land_83 (by decide) (fun c_110 => absurd c_110 (by decide)) (fun c_110 => ?_)
    refine lv_aload_n hx hb dX9_land_86 rfl (lv_at hl 1 rfl) ?_
    refine xc_Vv (wr := [(yta, .inl (cI, 120, .inl tp)), (ywa, .inl (cI, 6, .inl wa2_14))]) hF (c_X9_putsBack l D cI cJ cZ cS ta sa sv H.size h0 ys yk yo yt mk0 yfa yfe mL mS mM yro yhe ygr mF mC mY yta 0 (nf bb mz u2_8) (nx bb mz u2_8) v2_10 1 ywa ybi ysi ynu ymo ms2_11 ms P Rn Wn fae fal fau fao farn farp fak fawn fawp fat fas hs0 hs1 hs2 hsS hsM hsp hsr hsw hsR hsG) kv_X9_220 ⟨rfl, rfl, Nat.le_of_ble_eq_true rfl, Nat.le_of_ble_eq_true rfl⟩ ⟨Nat.le_of_ble_eq_true rfl, Nat.le_of_ble_eq_true rfl⟩ hK hN hZ hP hD hS hA [1, 2, 0] [3, 4] rfl rfl rfl rfl (by decide) 0 rfl rfl rfl rfl hl.1 rfl (Nat.le_of_ble_eq_true rfl) dX9_land_87 (fun u_r_111 H locs hw_r_111 hP hD hS => ?_)
    have hP : va_P D vwCl [(yta, .inl (cI, 120, .inl tp)), (ywa, .inl (cI, 6, .inl wa2_14)), (h0, .inr (9, [.ref ys, .ref yk, .ref yo, .ref yt, .int mk0, .ref yfa, .ref yfe, .int mL, .int mS, .int mM, .ref yro, .ref yhe, .ref ygr, .int mF, .int mC, .int mY, .ref yta, .int 0, .int (nI ((nf bb mz u2_8))), .int (nI ((nx bb mz u2_8))), .int v2_10, .int 1, .ref ywa, .ref ybi, .ref ysi, .ref ynu, .ref ymo])), (ys, .inl (cI, 449, .inl ms)), (yo, .inl (cI, 449, .inl ms))] H := hP
    have hD : va_D A [(yta, .inl (cI, 120, .inl tp)), (ywa, .inl (cI, 6, .inl wa2_14)), (h0, .inr (9, [.ref ys, .ref yk, .ref yo, .ref yt, .int mk0, .ref yfa, .ref yfe, .int mL, .int mS, .int mM, .ref yro, .ref yhe, .ref ygr, .int mF, .int mC, .int mY, .ref yta, .int 0, .int (nI ((nf bb mz u2_8))), .int (nI ((nx bb mz u2_8))), .int v2_10, .int 1, .ref ywa, .ref ybi, .ref ysi, .ref ynu, .ref ymo])), (ys, .inl (cI, 449, .inl ms)), (yo, .inl (cI, 449, .inl ms))] := hD
    refine lv_iconst (v := (-1)) hx hb dX9_land_90 (by decide) ?_
    refine lv_aload_n hx hb dX9_land_91 rfl (lv_at hl 1 rfl) ?_
    refine xg hF kf_X9_254 hK hP 2 rfl rfl dX9_land_92 ?_
    refine lv_isub hx hb dX9_land_95 ?_
    have hE9 := (spLand_no (i := 1) (by decide) h_47 : spLand bb mz 120 0 P Wn 1 = Sum.inl u2_8)
    exact W.iret (v := (-1) - (nI ((nf bb mz u2_8)))) hx hb hr (fun t ht hW => ⟨⟨(-1) - (nI ((nf bb mz u2_8))), ((nf bb mz u2_8), (nx bb mz u2_8), 1, v2_10, ms, P, Wn, ms, wa2_14, fae, fal, fau, fao, fawn, fawp, fat, fas), rfl, ⟨(by rw [hE9]; rfl), (by rw [hE9]; rfl), (by rw [hE9]; rfl), (by rw [hE9]; rfl), (by rw [hE9]; rfl), (by rw [hE9]; rfl), (by rw [hE9]; rfl), (by rw [hE9]; rfl), (by rw [hE9]; rfl), (by rw [hE9]; rfl), (by rw [hE9]; rfl), hs0, hs1, hs2, hsS, hsM, hsp, hsr, hsw, hsR, hsG⟩, by rw [ht]; exact hP.sub [2, 3, 4, 0, 1] rfl, hD.sub [2, 3, 4, 0, 1] (by decide +kernel) rfl⟩, hS.F ht⟩) hS.2.2 dX9_land_96 hlk
