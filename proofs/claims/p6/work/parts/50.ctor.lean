def LRX3_init_2 : List UInt8 := []
def LBX3_init_1 : List UInt8 := [0x0f, 0x2a, 0x10, 0x30, 0xbc, 0x0a, 0xb5, 0x00, 0x13, 0xb1]
def LRX3_init_1 : List UInt8 := LBX3_init_1 ++ LRX3_init_2
def LBX3_init_0 : List UInt8 := [0x2a, 0xb7, 0x00, 0x03, 0x2a, 0x03, 0xb5, 0x00, 0x09, 0x2a, 0x10, 0x08, 0xbc, 0x0a, 0xb5, 0x00]
def LRX3_init_0 : List UInt8 := LBX3_init_0 ++ LRX3_init_1
set_option maxRecDepth 100000 in
theorem LBX3_init_eq : cX3_init.data.toList = LRX3_init_0 := by decide +kernel
theorem LBX3_initr_0 (k : Nat) : cX3_init.data.toList[0 + k]? = LRX3_init_0[k]? := by rw [LBX3_init_eq, Nat.zero_add]
theorem LBX3_initr_1 (k : Nat) : cX3_init.data.toList[16 + k]? = LRX3_init_1[k]? := by
  have h := LBX3_initr_0 (16 + k)
  rw [show 0 + (16 + k) = 16 + k by omega] at h
  rw [h]
  exact (List.getElem?_append_right (l₁ := LBX3_init_0) (l₂ := LRX3_init_1) (show 16 ≤ 16 + k by omega)).trans (congrArg (fun i => LRX3_init_1[i]?) (show 16 + k - 16 = k by omega))
theorem dX3_init_0 : decode cX3_init 0 = .ok (.aload_n 0, 1) := dk_42_ (show cX3_init.data.toList[0]? = some 0x2a from (LBX3_initr_0 0).trans (by decide +kernel))
theorem dX3_init_1 : decode cX3_init 1 = .ok (.invokespecial 3, 3) := dk_183_ (show cX3_init.data.toList[1]? = some 0xb7 from (LBX3_initr_0 1).trans (by decide +kernel)) (show cX3_init.data.toList[2]? = some 0x00 from (LBX3_initr_0 2).trans (by decide +kernel)) (show cX3_init.data.toList[3]? = some 0x03 from (LBX3_initr_0 3).trans (by decide +kernel)) (by decide)
theorem dX3_init_4 : decode cX3_init 4 = .ok (.aload_n 0, 1) := dk_42_ (show cX3_init.data.toList[4]? = some 0x2a from (LBX3_initr_0 4).trans (by decide +kernel))
theorem dX3_init_5 : decode cX3_init 5 = .ok (.iconst 0, 1) := dk_3_ (show cX3_init.data.toList[5]? = some 0x03 from (LBX3_initr_0 5).trans (by decide +kernel))
theorem dX3_init_6 : decode cX3_init 6 = .ok (.putfield 9, 3) := dk_181_ (show cX3_init.data.toList[6]? = some 0xb5 from (LBX3_initr_0 6).trans (by decide +kernel)) (show cX3_init.data.toList[7]? = some 0x00 from (LBX3_initr_0 7).trans (by decide +kernel)) (show cX3_init.data.toList[8]? = some 0x09 from (LBX3_initr_0 8).trans (by decide +kernel)) (by decide)
theorem dX3_init_9 : decode cX3_init 9 = .ok (.aload_n 0, 1) := dk_42_ (show cX3_init.data.toList[9]? = some 0x2a from (LBX3_initr_0 9).trans (by decide +kernel))
theorem dX3_init_10 : decode cX3_init 10 = .ok (.bipush 8, 2) := dk_16_ (show cX3_init.data.toList[10]? = some 0x10 from (LBX3_initr_0 10).trans (by decide +kernel)) (show cX3_init.data.toList[11]? = some 0x08 from (LBX3_initr_0 11).trans (by decide +kernel)) (by decide)
theorem dX3_init_12 : decode cX3_init 12 = .ok (.newarray .int, 2) := by decide +kernel
theorem dX3_init_14 : decode cX3_init 14 = .ok (.putfield 15, 3) := dk_181_ (show cX3_init.data.toList[14]? = some 0xb5 from (LBX3_initr_0 14).trans (by decide +kernel)) (show cX3_init.data.toList[15]? = some 0x00 from (LBX3_initr_0 15).trans (by decide +kernel)) (show cX3_init.data.toList[16]? = some 0x0f from (LBX3_initr_1 0).trans (by decide +kernel)) (by decide)
theorem dX3_init_17 : decode cX3_init 17 = .ok (.aload_n 0, 1) := dk_42_ (show cX3_init.data.toList[17]? = some 0x2a from (LBX3_initr_1 1).trans (by decide +kernel))
theorem dX3_init_18 : decode cX3_init 18 = .ok (.bipush 48, 2) := dk_16_ (show cX3_init.data.toList[18]? = some 0x10 from (LBX3_initr_1 2).trans (by decide +kernel)) (show cX3_init.data.toList[19]? = some 0x30 from (LBX3_initr_1 3).trans (by decide +kernel)) (by decide)
theorem dX3_init_20 : decode cX3_init 20 = .ok (.newarray .int, 2) := by decide +kernel
theorem dX3_init_22 : decode cX3_init 22 = .ok (.putfield 19, 3) := dk_181_ (show cX3_init.data.toList[22]? = some 0xb5 from (LBX3_initr_1 6).trans (by decide +kernel)) (show cX3_init.data.toList[23]? = some 0x00 from (LBX3_initr_1 7).trans (by decide +kernel)) (show cX3_init.data.toList[24]? = some 0x13 from (LBX3_initr_1 8).trans (by decide +kernel)) (by decide)
theorem dX3_init_25 : decode cX3_init 25 = .ok (.return_, 1) := dk_177_ (show cX3_init.data.toList[25]? = some 0xb1 from (LBX3_initr_1 9).trans (by decide +kernel))
def LRX4_init_2 : List UInt8 := []
def LBX4_init_1 : List UInt8 := [0x28, 0xbc, 0x0b, 0xb5, 0x00, 0x12, 0xb1]
def LRX4_init_1 : List UInt8 := LBX4_init_1 ++ LRX4_init_2
def LBX4_init_0 : List UInt8 := [0x2a, 0xb7, 0x00, 0x03, 0x2a, 0x03, 0xb5, 0x00, 0x09, 0x2a, 0x03, 0xb5, 0x00, 0x0f, 0x2a, 0x10]
def LRX4_init_0 : List UInt8 := LBX4_init_0 ++ LRX4_init_1
set_option maxRecDepth 100000 in
theorem LBX4_init_eq : cX4_init.data.toList = LRX4_init_0 := by decide +kernel
theorem LBX4_initr_0 (k : Nat) : cX4_init.data.toList[0 + k]? = LRX4_init_0[k]? := by rw [LBX4_init_eq, Nat.zero_add]
theorem LBX4_initr_1 (k : Nat) : cX4_init.data.toList[16 + k]? = LRX4_init_1[k]? := by
  have h := LBX4_initr_0 (16 + k)
  rw [show 0 + (16 + k) = 16 + k by omega] at h
  rw [h]
  exact (List.getElem?_append_right (l₁ := LBX4_init_0) (l₂ := LRX4_init_1) (show 16 ≤ 16 + k by omega)).trans (congrArg (fun i => LRX4_init_1[i]?) (show 16 + k - 16 = k by omega))
theorem dX4_init_0 : decode cX4_init 0 = .ok (.aload_n 0, 1) := dk_42_ (show cX4_init.data.toList[0]? = some 0x2a from (LBX4_initr_0 0).trans (by decide +kernel))
theorem dX4_init_1 : decode cX4_init 1 = .ok (.invokespecial 3, 3) := dk_183_ (show cX4_init.data.toList[1]? = some 0xb7 from (LBX4_initr_0 1).trans (by decide +kernel)) (show cX4_init.data.toList[2]? = some 0x00 from (LBX4_initr_0 2).trans (by decide +kernel)) (show cX4_init.data.toList[3]? = some 0x03 from (LBX4_initr_0 3).trans (by decide +kernel)) (by decide)
theorem dX4_init_4 : decode cX4_init 4 = .ok (.aload_n 0, 1) := dk_42_ (show cX4_init.data.toList[4]? = some 0x2a from (LBX4_initr_0 4).trans (by decide +kernel))
theorem dX4_init_5 : decode cX4_init 5 = .ok (.iconst 0, 1) := dk_3_ (show cX4_init.data.toList[5]? = some 0x03 from (LBX4_initr_0 5).trans (by decide +kernel))
theorem dX4_init_6 : decode cX4_init 6 = .ok (.putfield 9, 3) := dk_181_ (show cX4_init.data.toList[6]? = some 0xb5 from (LBX4_initr_0 6).trans (by decide +kernel)) (show cX4_init.data.toList[7]? = some 0x00 from (LBX4_initr_0 7).trans (by decide +kernel)) (show cX4_init.data.toList[8]? = some 0x09 from (LBX4_initr_0 8).trans (by decide +kernel)) (by decide)
theorem dX4_init_9 : decode cX4_init 9 = .ok (.aload_n 0, 1) := dk_42_ (show cX4_init.data.toList[9]? = some 0x2a from (LBX4_initr_0 9).trans (by decide +kernel))
theorem dX4_init_10 : decode cX4_init 10 = .ok (.iconst 0, 1) := dk_3_ (show cX4_init.data.toList[10]? = some 0x03 from (LBX4_initr_0 10).trans (by decide +kernel))
theorem dX4_init_11 : decode cX4_init 11 = .ok (.putfield 15, 3) := dk_181_ (show cX4_init.data.toList[11]? = some 0xb5 from (LBX4_initr_0 11).trans (by decide +kernel)) (show cX4_init.data.toList[12]? = some 0x00 from (LBX4_initr_0 12).trans (by decide +kernel)) (show cX4_init.data.toList[13]? = some 0x0f from (LBX4_initr_0 13).trans (by decide +kernel)) (by decide)
theorem dX4_init_14 : decode cX4_init 14 = .ok (.aload_n 0, 1) := dk_42_ (show cX4_init.data.toList[14]? = some 0x2a from (LBX4_initr_0 14).trans (by decide +kernel))
theorem dX4_init_15 : decode cX4_init 15 = .ok (.bipush 40, 2) := dk_16_ (show cX4_init.data.toList[15]? = some 0x10 from (LBX4_initr_0 15).trans (by decide +kernel)) (show cX4_init.data.toList[16]? = some 0x28 from (LBX4_initr_1 0).trans (by decide +kernel)) (by decide)
theorem dX4_init_17 : decode cX4_init 17 = .ok (.newarray .long, 2) := by decide +kernel
theorem dX4_init_19 : decode cX4_init 19 = .ok (.putfield 18, 3) := dk_181_ (show cX4_init.data.toList[19]? = some 0xb5 from (LBX4_initr_1 3).trans (by decide +kernel)) (show cX4_init.data.toList[20]? = some 0x00 from (LBX4_initr_1 4).trans (by decide +kernel)) (show cX4_init.data.toList[21]? = some 0x12 from (LBX4_initr_1 5).trans (by decide +kernel)) (by decide)
theorem dX4_init_22 : decode cX4_init 22 = .ok (.return_, 1) := dk_177_ (show cX4_init.data.toList[22]? = some 0xb1 from (LBX4_initr_1 6).trans (by decide +kernel))
def LRX1_init_6 : List UInt8 := []
def LBX1_init_5 : List UInt8 := [0x10, 0x08, 0xbc, 0x0a, 0xb5, 0x00, 0x2c, 0xb1]
def LRX1_init_5 : List UInt8 := LBX1_init_5 ++ LRX1_init_6
def LBX1_init_4 : List UInt8 := [0x59, 0xb7, 0x00, 0x1e, 0xb5, 0x00, 0x26, 0x2a, 0x10, 0x08, 0xbc, 0x0a, 0xb5, 0x00, 0x29, 0x2a]
def LRX1_init_4 : List UInt8 := LBX1_init_4 ++ LRX1_init_5
def LBX1_init_3 : List UInt8 := [0x1e, 0xb5, 0x00, 0x1f, 0x2a, 0x10, 0x08, 0xbc, 0x0a, 0xb5, 0x00, 0x23, 0x2a, 0xbb, 0x00, 0x1c]
def LRX1_init_3 : List UInt8 := LBX1_init_3 ++ LRX1_init_4
def LBX1_init_2 : List UInt8 := [0x16, 0x2a, 0x10, 0x64, 0xbc, 0x0a, 0xb5, 0x00, 0x19, 0x2a, 0xbb, 0x00, 0x1c, 0x59, 0xb7, 0x00]
def LRX1_init_2 : List UInt8 := LBX1_init_2 ++ LRX1_init_3
def LBX1_init_1 : List UInt8 := [0x0f, 0x2a, 0x10, 0x64, 0xbc, 0x0a, 0xb5, 0x00, 0x13, 0x2a, 0x10, 0x64, 0xbc, 0x0a, 0xb5, 0x00]
def LRX1_init_1 : List UInt8 := LBX1_init_1 ++ LRX1_init_2
def LBX1_init_0 : List UInt8 := [0x2a, 0xb7, 0x00, 0x03, 0x2a, 0x03, 0xb5, 0x00, 0x09, 0x2a, 0x10, 0x0a, 0xbc, 0x0a, 0xb5, 0x00]
def LRX1_init_0 : List UInt8 := LBX1_init_0 ++ LRX1_init_1
set_option maxRecDepth 100000 in
theorem LBX1_init_eq : cX1_init.data.toList = LRX1_init_0 := by decide +kernel
theorem LBX1_initr_0 (k : Nat) : cX1_init.data.toList[0 + k]? = LRX1_init_0[k]? := by rw [LBX1_init_eq, Nat.zero_add]
theorem LBX1_initr_1 (k : Nat) : cX1_init.data.toList[16 + k]? = LRX1_init_1[k]? := by
  have h := LBX1_initr_0 (16 + k)
  rw [show 0 + (16 + k) = 16 + k by omega] at h
  rw [h]
  exact (List.getElem?_append_right (l₁ := LBX1_init_0) (l₂ := LRX1_init_1) (show 16 ≤ 16 + k by omega)).trans (congrArg (fun i => LRX1_init_1[i]?) (show 16 + k - 16 = k by omega))
theorem LBX1_initr_2 (k : Nat) : cX1_init.data.toList[32 + k]? = LRX1_init_2[k]? := by
  have h := LBX1_initr_1 (16 + k)
  rw [show 16 + (16 + k) = 32 + k by omega] at h
  rw [h]
  exact (List.getElem?_append_right (l₁ := LBX1_init_1) (l₂ := LRX1_init_2) (show 16 ≤ 16 + k by omega)).trans (congrArg (fun i => LRX1_init_2[i]?) (show 16 + k - 16 = k by omega))
theorem LBX1_initr_3 (k : Nat) : cX1_init.data.toList[48 + k]? = LRX1_init_3[k]? := by
  have h := LBX1_initr_2 (16 + k)
  rw [show 32 + (16 + k) = 48 + k by omega] at h
  rw [h]
  exact (List.getElem?_append_right (l₁ := LBX1_init_2) (l₂ := LRX1_init_3) (show 16 ≤ 16 + k by omega)).trans (congrArg (fun i => LRX1_init_3[i]?) (show 16 + k - 16 = k by omega))
theorem LBX1_initr_4 (k : Nat) : cX1_init.data.toList[64 + k]? = LRX1_init_4[k]? := by
  have h := LBX1_initr_3 (16 + k)
  rw [show 48 + (16 + k) = 64 + k by omega] at h
  rw [h]
  exact (List.getElem?_append_right (l₁ := LBX1_init_3) (l₂ := LRX1_init_4) (show 16 ≤ 16 + k by omega)).trans (congrArg (fun i => LRX1_init_4[i]?) (show 16 + k - 16 = k by omega))
theorem LBX1_initr_5 (k : Nat) : cX1_init.data.toList[80 + k]? = LRX1_init_5[k]? := by
  have h := LBX1_initr_4 (16 + k)
  rw [show 64 + (16 + k) = 80 + k by omega] at h
  rw [h]
  exact (List.getElem?_append_right (l₁ := LBX1_init_4) (l₂ := LRX1_init_5) (show 16 ≤ 16 + k by omega)).trans (congrArg (fun i => LRX1_init_5[i]?) (show 16 + k - 16 = k by omega))
theorem dX1_init_0 : decode cX1_init 0 = .ok (.aload_n 0, 1) := dk_42_ (show cX1_init.data.toList[0]? = some 0x2a from (LBX1_initr_0 0).trans (by decide +kernel))
theorem dX1_init_1 : decode cX1_init 1 = .ok (.invokespecial 3, 3) := dk_183_ (show cX1_init.data.toList[1]? = some 0xb7 from (LBX1_initr_0 1).trans (by decide +kernel)) (show cX1_init.data.toList[2]? = some 0x00 from (LBX1_initr_0 2).trans (by decide +kernel)) (show cX1_init.data.toList[3]? = some 0x03 from (LBX1_initr_0 3).trans (by decide +kernel)) (by decide)
theorem dX1_init_4 : decode cX1_init 4 = .ok (.aload_n 0, 1) := dk_42_ (show cX1_init.data.toList[4]? = some 0x2a from (LBX1_initr_0 4).trans (by decide +kernel))
theorem dX1_init_5 : decode cX1_init 5 = .ok (.iconst 0, 1) := dk_3_ (show cX1_init.data.toList[5]? = some 0x03 from (LBX1_initr_0 5).trans (by decide +kernel))
theorem dX1_init_6 : decode cX1_init 6 = .ok (.putfield 9, 3) := dk_181_ (show cX1_init.data.toList[6]? = some 0xb5 from (LBX1_initr_0 6).trans (by decide +kernel)) (show cX1_init.data.toList[7]? = some 0x00 from (LBX1_initr_0 7).trans (by decide +kernel)) (show cX1_init.data.toList[8]? = some 0x09 from (LBX1_initr_0 8).trans (by decide +kernel)) (by decide)
theorem dX1_init_9 : decode cX1_init 9 = .ok (.aload_n 0, 1) := dk_42_ (show cX1_init.data.toList[9]? = some 0x2a from (LBX1_initr_0 9).trans (by decide +kernel))
theorem dX1_init_10 : decode cX1_init 10 = .ok (.bipush 10, 2) := dk_16_ (show cX1_init.data.toList[10]? = some 0x10 from (LBX1_initr_0 10).trans (by decide +kernel)) (show cX1_init.data.toList[11]? = some 0x0a from (LBX1_initr_0 11).trans (by decide +kernel)) (by decide)
theorem dX1_init_12 : decode cX1_init 12 = .ok (.newarray .int, 2) := by decide +kernel
theorem dX1_init_14 : decode cX1_init 14 = .ok (.putfield 15, 3) := dk_181_ (show cX1_init.data.toList[14]? = some 0xb5 from (LBX1_initr_0 14).trans (by decide +kernel)) (show cX1_init.data.toList[15]? = some 0x00 from (LBX1_initr_0 15).trans (by decide +kernel)) (show cX1_init.data.toList[16]? = some 0x0f from (LBX1_initr_1 0).trans (by decide +kernel)) (by decide)
theorem dX1_init_17 : decode cX1_init 17 = .ok (.aload_n 0, 1) := dk_42_ (show cX1_init.data.toList[17]? = some 0x2a from (LBX1_initr_1 1).trans (by decide +kernel))
theorem dX1_init_18 : decode cX1_init 18 = .ok (.bipush 100, 2) := dk_16_ (show cX1_init.data.toList[18]? = some 0x10 from (LBX1_initr_1 2).trans (by decide +kernel)) (show cX1_init.data.toList[19]? = some 0x64 from (LBX1_initr_1 3).trans (by decide +kernel)) (by decide)
theorem dX1_init_20 : decode cX1_init 20 = .ok (.newarray .int, 2) := by decide +kernel
theorem dX1_init_22 : decode cX1_init 22 = .ok (.putfield 19, 3) := dk_181_ (show cX1_init.data.toList[22]? = some 0xb5 from (LBX1_initr_1 6).trans (by decide +kernel)) (show cX1_init.data.toList[23]? = some 0x00 from (LBX1_initr_1 7).trans (by decide +kernel)) (show cX1_init.data.toList[24]? = some 0x13 from (LBX1_initr_1 8).trans (by decide +kernel)) (by decide)
theorem dX1_init_25 : decode cX1_init 25 = .ok (.aload_n 0, 1) := dk_42_ (show cX1_init.data.toList[25]? = some 0x2a from (LBX1_initr_1 9).trans (by decide +kernel))
theorem dX1_init_26 : decode cX1_init 26 = .ok (.bipush 100, 2) := dk_16_ (show cX1_init.data.toList[26]? = some 0x10 from (LBX1_initr_1 10).trans (by decide +kernel)) (show cX1_init.data.toList[27]? = some 0x64 from (LBX1_initr_1 11).trans (by decide +kernel)) (by decide)
theorem dX1_init_28 : decode cX1_init 28 = .ok (.newarray .int, 2) := by decide +kernel
theorem dX1_init_30 : decode cX1_init 30 = .ok (.putfield 22, 3) := dk_181_ (show cX1_init.data.toList[30]? = some 0xb5 from (LBX1_initr_1 14).trans (by decide +kernel)) (show cX1_init.data.toList[31]? = some 0x00 from (LBX1_initr_1 15).trans (by decide +kernel)) (show cX1_init.data.toList[32]? = some 0x16 from (LBX1_initr_2 0).trans (by decide +kernel)) (by decide)
theorem dX1_init_33 : decode cX1_init 33 = .ok (.aload_n 0, 1) := dk_42_ (show cX1_init.data.toList[33]? = some 0x2a from (LBX1_initr_2 1).trans (by decide +kernel))
theorem dX1_init_34 : decode cX1_init 34 = .ok (.bipush 100, 2) := dk_16_ (show cX1_init.data.toList[34]? = some 0x10 from (LBX1_initr_2 2).trans (by decide +kernel)) (show cX1_init.data.toList[35]? = some 0x64 from (LBX1_initr_2 3).trans (by decide +kernel)) (by decide)
theorem dX1_init_36 : decode cX1_init 36 = .ok (.newarray .int, 2) := by decide +kernel
theorem dX1_init_38 : decode cX1_init 38 = .ok (.putfield 25, 3) := dk_181_ (show cX1_init.data.toList[38]? = some 0xb5 from (LBX1_initr_2 6).trans (by decide +kernel)) (show cX1_init.data.toList[39]? = some 0x00 from (LBX1_initr_2 7).trans (by decide +kernel)) (show cX1_init.data.toList[40]? = some 0x19 from (LBX1_initr_2 8).trans (by decide +kernel)) (by decide)
theorem dX1_init_41 : decode cX1_init 41 = .ok (.aload_n 0, 1) := dk_42_ (show cX1_init.data.toList[41]? = some 0x2a from (LBX1_initr_2 9).trans (by decide +kernel))
theorem dX1_init_42 : decode cX1_init 42 = .ok (.new 28, 3) := dk_187_ (show cX1_init.data.toList[42]? = some 0xbb from (LBX1_initr_2 10).trans (by decide +kernel)) (show cX1_init.data.toList[43]? = some 0x00 from (LBX1_initr_2 11).trans (by decide +kernel)) (show cX1_init.data.toList[44]? = some 0x1c from (LBX1_initr_2 12).trans (by decide +kernel)) (by decide)
theorem dX1_init_45 : decode cX1_init 45 = .ok (.dup, 1) := dk_89_ (show cX1_init.data.toList[45]? = some 0x59 from (LBX1_initr_2 13).trans (by decide +kernel))
theorem dX1_init_46 : decode cX1_init 46 = .ok (.invokespecial 30, 3) := dk_183_ (show cX1_init.data.toList[46]? = some 0xb7 from (LBX1_initr_2 14).trans (by decide +kernel)) (show cX1_init.data.toList[47]? = some 0x00 from (LBX1_initr_2 15).trans (by decide +kernel)) (show cX1_init.data.toList[48]? = some 0x1e from (LBX1_initr_3 0).trans (by decide +kernel)) (by decide)
theorem dX1_init_49 : decode cX1_init 49 = .ok (.putfield 31, 3) := dk_181_ (show cX1_init.data.toList[49]? = some 0xb5 from (LBX1_initr_3 1).trans (by decide +kernel)) (show cX1_init.data.toList[50]? = some 0x00 from (LBX1_initr_3 2).trans (by decide +kernel)) (show cX1_init.data.toList[51]? = some 0x1f from (LBX1_initr_3 3).trans (by decide +kernel)) (by decide)
theorem dX1_init_52 : decode cX1_init 52 = .ok (.aload_n 0, 1) := dk_42_ (show cX1_init.data.toList[52]? = some 0x2a from (LBX1_initr_3 4).trans (by decide +kernel))
theorem dX1_init_53 : decode cX1_init 53 = .ok (.bipush 8, 2) := dk_16_ (show cX1_init.data.toList[53]? = some 0x10 from (LBX1_initr_3 5).trans (by decide +kernel)) (show cX1_init.data.toList[54]? = some 0x08 from (LBX1_initr_3 6).trans (by decide +kernel)) (by decide)
theorem dX1_init_55 : decode cX1_init 55 = .ok (.newarray .int, 2) := by decide +kernel
theorem dX1_init_57 : decode cX1_init 57 = .ok (.putfield 35, 3) := dk_181_ (show cX1_init.data.toList[57]? = some 0xb5 from (LBX1_initr_3 9).trans (by decide +kernel)) (show cX1_init.data.toList[58]? = some 0x00 from (LBX1_initr_3 10).trans (by decide +kernel)) (show cX1_init.data.toList[59]? = some 0x23 from (LBX1_initr_3 11).trans (by decide +kernel)) (by decide)
theorem dX1_init_60 : decode cX1_init 60 = .ok (.aload_n 0, 1) := dk_42_ (show cX1_init.data.toList[60]? = some 0x2a from (LBX1_initr_3 12).trans (by decide +kernel))
theorem dX1_init_61 : decode cX1_init 61 = .ok (.new 28, 3) := dk_187_ (show cX1_init.data.toList[61]? = some 0xbb from (LBX1_initr_3 13).trans (by decide +kernel)) (show cX1_init.data.toList[62]? = some 0x00 from (LBX1_initr_3 14).trans (by decide +kernel)) (show cX1_init.data.toList[63]? = some 0x1c from (LBX1_initr_3 15).trans (by decide +kernel)) (by decide)
theorem dX1_init_64 : decode cX1_init 64 = .ok (.dup, 1) := dk_89_ (show cX1_init.data.toList[64]? = some 0x59 from (LBX1_initr_4 0).trans (by decide +kernel))
theorem dX1_init_65 : decode cX1_init 65 = .ok (.invokespecial 30, 3) := dk_183_ (show cX1_init.data.toList[65]? = some 0xb7 from (LBX1_initr_4 1).trans (by decide +kernel)) (show cX1_init.data.toList[66]? = some 0x00 from (LBX1_initr_4 2).trans (by decide +kernel)) (show cX1_init.data.toList[67]? = some 0x1e from (LBX1_initr_4 3).trans (by decide +kernel)) (by decide)
theorem dX1_init_68 : decode cX1_init 68 = .ok (.putfield 38, 3) := dk_181_ (show cX1_init.data.toList[68]? = some 0xb5 from (LBX1_initr_4 4).trans (by decide +kernel)) (show cX1_init.data.toList[69]? = some 0x00 from (LBX1_initr_4 5).trans (by decide +kernel)) (show cX1_init.data.toList[70]? = some 0x26 from (LBX1_initr_4 6).trans (by decide +kernel)) (by decide)
theorem dX1_init_71 : decode cX1_init 71 = .ok (.aload_n 0, 1) := dk_42_ (show cX1_init.data.toList[71]? = some 0x2a from (LBX1_initr_4 7).trans (by decide +kernel))
theorem dX1_init_72 : decode cX1_init 72 = .ok (.bipush 8, 2) := dk_16_ (show cX1_init.data.toList[72]? = some 0x10 from (LBX1_initr_4 8).trans (by decide +kernel)) (show cX1_init.data.toList[73]? = some 0x08 from (LBX1_initr_4 9).trans (by decide +kernel)) (by decide)
theorem dX1_init_74 : decode cX1_init 74 = .ok (.newarray .int, 2) := by decide +kernel
theorem dX1_init_76 : decode cX1_init 76 = .ok (.putfield 41, 3) := dk_181_ (show cX1_init.data.toList[76]? = some 0xb5 from (LBX1_initr_4 12).trans (by decide +kernel)) (show cX1_init.data.toList[77]? = some 0x00 from (LBX1_initr_4 13).trans (by decide +kernel)) (show cX1_init.data.toList[78]? = some 0x29 from (LBX1_initr_4 14).trans (by decide +kernel)) (by decide)
theorem dX1_init_79 : decode cX1_init 79 = .ok (.aload_n 0, 1) := dk_42_ (show cX1_init.data.toList[79]? = some 0x2a from (LBX1_initr_4 15).trans (by decide +kernel))
theorem dX1_init_80 : decode cX1_init 80 = .ok (.bipush 8, 2) := dk_16_ (show cX1_init.data.toList[80]? = some 0x10 from (LBX1_initr_5 0).trans (by decide +kernel)) (show cX1_init.data.toList[81]? = some 0x08 from (LBX1_initr_5 1).trans (by decide +kernel)) (by decide)
theorem dX1_init_82 : decode cX1_init 82 = .ok (.newarray .int, 2) := by decide +kernel
theorem dX1_init_84 : decode cX1_init 84 = .ok (.putfield 44, 3) := dk_181_ (show cX1_init.data.toList[84]? = some 0xb5 from (LBX1_initr_5 4).trans (by decide +kernel)) (show cX1_init.data.toList[85]? = some 0x00 from (LBX1_initr_5 5).trans (by decide +kernel)) (show cX1_init.data.toList[86]? = some 0x2c from (LBX1_initr_5 6).trans (by decide +kernel)) (by decide)
theorem dX1_init_87 : decode cX1_init 87 = .ok (.return_, 1) := dk_177_ (show cX1_init.data.toList[87]? = some 0xb1 from (LBX1_initr_5 7).trans (by decide +kernel))
def LRX0_init_2 : List UInt8 := []
def LBX0_init_1 : List UInt8 := [0x0f, 0xb1]
def LRX0_init_1 : List UInt8 := LBX0_init_1 ++ LRX0_init_2
def LBX0_init_0 : List UInt8 := [0x2a, 0xb7, 0x00, 0x03, 0x2a, 0x03, 0xb5, 0x00, 0x09, 0x2a, 0x10, 0x64, 0xbc, 0x0a, 0xb5, 0x00]
def LRX0_init_0 : List UInt8 := LBX0_init_0 ++ LRX0_init_1
set_option maxRecDepth 100000 in
theorem LBX0_init_eq : cX0_init.data.toList = LRX0_init_0 := by decide +kernel
theorem LBX0_initr_0 (k : Nat) : cX0_init.data.toList[0 + k]? = LRX0_init_0[k]? := by rw [LBX0_init_eq, Nat.zero_add]
theorem LBX0_initr_1 (k : Nat) : cX0_init.data.toList[16 + k]? = LRX0_init_1[k]? := by
  have h := LBX0_initr_0 (16 + k)
  rw [show 0 + (16 + k) = 16 + k by omega] at h
  rw [h]
  exact (List.getElem?_append_right (l₁ := LBX0_init_0) (l₂ := LRX0_init_1) (show 16 ≤ 16 + k by omega)).trans (congrArg (fun i => LRX0_init_1[i]?) (show 16 + k - 16 = k by omega))
theorem dX0_init_0 : decode cX0_init 0 = .ok (.aload_n 0, 1) := dk_42_ (show cX0_init.data.toList[0]? = some 0x2a from (LBX0_initr_0 0).trans (by decide +kernel))
theorem dX0_init_1 : decode cX0_init 1 = .ok (.invokespecial 3, 3) := dk_183_ (show cX0_init.data.toList[1]? = some 0xb7 from (LBX0_initr_0 1).trans (by decide +kernel)) (show cX0_init.data.toList[2]? = some 0x00 from (LBX0_initr_0 2).trans (by decide +kernel)) (show cX0_init.data.toList[3]? = some 0x03 from (LBX0_initr_0 3).trans (by decide +kernel)) (by decide)
theorem dX0_init_4 : decode cX0_init 4 = .ok (.aload_n 0, 1) := dk_42_ (show cX0_init.data.toList[4]? = some 0x2a from (LBX0_initr_0 4).trans (by decide +kernel))
theorem dX0_init_5 : decode cX0_init 5 = .ok (.iconst 0, 1) := dk_3_ (show cX0_init.data.toList[5]? = some 0x03 from (LBX0_initr_0 5).trans (by decide +kernel))
theorem dX0_init_6 : decode cX0_init 6 = .ok (.putfield 9, 3) := dk_181_ (show cX0_init.data.toList[6]? = some 0xb5 from (LBX0_initr_0 6).trans (by decide +kernel)) (show cX0_init.data.toList[7]? = some 0x00 from (LBX0_initr_0 7).trans (by decide +kernel)) (show cX0_init.data.toList[8]? = some 0x09 from (LBX0_initr_0 8).trans (by decide +kernel)) (by decide)
theorem dX0_init_9 : decode cX0_init 9 = .ok (.aload_n 0, 1) := dk_42_ (show cX0_init.data.toList[9]? = some 0x2a from (LBX0_initr_0 9).trans (by decide +kernel))
theorem dX0_init_10 : decode cX0_init 10 = .ok (.bipush 100, 2) := dk_16_ (show cX0_init.data.toList[10]? = some 0x10 from (LBX0_initr_0 10).trans (by decide +kernel)) (show cX0_init.data.toList[11]? = some 0x64 from (LBX0_initr_0 11).trans (by decide +kernel)) (by decide)
theorem dX0_init_12 : decode cX0_init 12 = .ok (.newarray .int, 2) := by decide +kernel
theorem dX0_init_14 : decode cX0_init 14 = .ok (.putfield 15, 3) := dk_181_ (show cX0_init.data.toList[14]? = some 0xb5 from (LBX0_initr_0 14).trans (by decide +kernel)) (show cX0_init.data.toList[15]? = some 0x00 from (LBX0_initr_0 15).trans (by decide +kernel)) (show cX0_init.data.toList[16]? = some 0x0f from (LBX0_initr_1 0).trans (by decide +kernel)) (by decide)
theorem dX0_init_17 : decode cX0_init 17 = .ok (.return_, 1) := dk_177_ (show cX0_init.data.toList[17]? = some 0xb1 from (LBX0_initr_1 1).trans (by decide +kernel))
theorem dX6_init_0 : decode cX6_init 0 = .ok (.aload_n 0, 1) := dk_42_ (show cX6_init.data.toList[0]? = some 0x2a from by decide +kernel)
theorem dX6_init_1 : decode cX6_init 1 = .ok (.invokespecial 3, 3) := dk_183_ (show cX6_init.data.toList[1]? = some 0xb7 from by decide +kernel) (show cX6_init.data.toList[2]? = some 0x00 from by decide +kernel) (show cX6_init.data.toList[3]? = some 0x03 from by decide +kernel) (by decide)
theorem dX6_init_4 : decode cX6_init 4 = .ok (.aload_n 0, 1) := dk_42_ (show cX6_init.data.toList[4]? = some 0x2a from by decide +kernel)
theorem dX6_init_5 : decode cX6_init 5 = .ok (.sipush 384, 3) := dk_17_ (show cX6_init.data.toList[5]? = some 0x11 from by decide +kernel) (show cX6_init.data.toList[6]? = some 0x01 from by decide +kernel) (show cX6_init.data.toList[7]? = some 0x80 from by decide +kernel) (by decide)
theorem dX6_init_8 : decode cX6_init 8 = .ok (.newarray .int, 2) := by decide +kernel
theorem dX6_init_10 : decode cX6_init 10 = .ok (.putfield 9, 3) := dk_181_ (show cX6_init.data.toList[10]? = some 0xb5 from by decide +kernel) (show cX6_init.data.toList[11]? = some 0x00 from by decide +kernel) (show cX6_init.data.toList[12]? = some 0x09 from by decide +kernel) (by decide)
theorem dX6_init_13 : decode cX6_init 13 = .ok (.return_, 1) := dk_177_ (show cX6_init.data.toList[13]? = some 0xb1 from by decide +kernel)
def LRX5_init_2 : List UInt8 := []
def LBX5_init_1 : List UInt8 := [0x04, 0xb5, 0x00, 0x0f, 0x2a, 0x10, 0x0a, 0xbc, 0x0a, 0xb5, 0x00, 0x13, 0xb1]
def LRX5_init_1 : List UInt8 := LBX5_init_1 ++ LRX5_init_2
def LBX5_init_0 : List UInt8 := [0x2a, 0xb7, 0x00, 0x03, 0x2a, 0x10, 0x0a, 0xbc, 0x0a, 0xb5, 0x00, 0x09, 0x2a, 0x10, 0x0a, 0xbc]
def LRX5_init_0 : List UInt8 := LBX5_init_0 ++ LRX5_init_1
set_option maxRecDepth 100000 in
theorem LBX5_init_eq : cX5_init.data.toList = LRX5_init_0 := by decide +kernel
theorem LBX5_initr_0 (k : Nat) : cX5_init.data.toList[0 + k]? = LRX5_init_0[k]? := by rw [LBX5_init_eq, Nat.zero_add]
theorem LBX5_initr_1 (k : Nat) : cX5_init.data.toList[16 + k]? = LRX5_init_1[k]? := by
  have h := LBX5_initr_0 (16 + k)
  rw [show 0 + (16 + k) = 16 + k by omega] at h
  rw [h]
  exact (List.getElem?_append_right (l₁ := LBX5_init_0) (l₂ := LRX5_init_1) (show 16 ≤ 16 + k by omega)).trans (congrArg (fun i => LRX5_init_1[i]?) (show 16 + k - 16 = k by omega))
theorem dX5_init_0 : decode cX5_init 0 = .ok (.aload_n 0, 1) := dk_42_ (show cX5_init.data.toList[0]? = some 0x2a from (LBX5_initr_0 0).trans (by decide +kernel))
theorem dX5_init_1 : decode cX5_init 1 = .ok (.invokespecial 3, 3) := dk_183_ (show cX5_init.data.toList[1]? = some 0xb7 from (LBX5_initr_0 1).trans (by decide +kernel)) (show cX5_init.data.toList[2]? = some 0x00 from (LBX5_initr_0 2).trans (by decide +kernel)) (show cX5_init.data.toList[3]? = some 0x03 from (LBX5_initr_0 3).trans (by decide +kernel)) (by decide)
theorem dX5_init_4 : decode cX5_init 4 = .ok (.aload_n 0, 1) := dk_42_ (show cX5_init.data.toList[4]? = some 0x2a from (LBX5_initr_0 4).trans (by decide +kernel))
theorem dX5_init_5 : decode cX5_init 5 = .ok (.bipush 10, 2) := dk_16_ (show cX5_init.data.toList[5]? = some 0x10 from (LBX5_initr_0 5).trans (by decide +kernel)) (show cX5_init.data.toList[6]? = some 0x0a from (LBX5_initr_0 6).trans (by decide +kernel)) (by decide)
theorem dX5_init_7 : decode cX5_init 7 = .ok (.newarray .int, 2) := by decide +kernel
theorem dX5_init_9 : decode cX5_init 9 = .ok (.putfield 9, 3) := dk_181_ (show cX5_init.data.toList[9]? = some 0xb5 from (LBX5_initr_0 9).trans (by decide +kernel)) (show cX5_init.data.toList[10]? = some 0x00 from (LBX5_initr_0 10).trans (by decide +kernel)) (show cX5_init.data.toList[11]? = some 0x09 from (LBX5_initr_0 11).trans (by decide +kernel)) (by decide)
theorem dX5_init_12 : decode cX5_init 12 = .ok (.aload_n 0, 1) := dk_42_ (show cX5_init.data.toList[12]? = some 0x2a from (LBX5_initr_0 12).trans (by decide +kernel))
theorem dX5_init_13 : decode cX5_init 13 = .ok (.bipush 10, 2) := dk_16_ (show cX5_init.data.toList[13]? = some 0x10 from (LBX5_initr_0 13).trans (by decide +kernel)) (show cX5_init.data.toList[14]? = some 0x0a from (LBX5_initr_0 14).trans (by decide +kernel)) (by decide)
theorem dX5_init_15 : decode cX5_init 15 = .ok (.newarray .boolean, 2) := by decide +kernel
theorem dX5_init_17 : decode cX5_init 17 = .ok (.putfield 15, 3) := dk_181_ (show cX5_init.data.toList[17]? = some 0xb5 from (LBX5_initr_1 1).trans (by decide +kernel)) (show cX5_init.data.toList[18]? = some 0x00 from (LBX5_initr_1 2).trans (by decide +kernel)) (show cX5_init.data.toList[19]? = some 0x0f from (LBX5_initr_1 3).trans (by decide +kernel)) (by decide)
theorem dX5_init_20 : decode cX5_init 20 = .ok (.aload_n 0, 1) := dk_42_ (show cX5_init.data.toList[20]? = some 0x2a from (LBX5_initr_1 4).trans (by decide +kernel))
theorem dX5_init_21 : decode cX5_init 21 = .ok (.bipush 10, 2) := dk_16_ (show cX5_init.data.toList[21]? = some 0x10 from (LBX5_initr_1 5).trans (by decide +kernel)) (show cX5_init.data.toList[22]? = some 0x0a from (LBX5_initr_1 6).trans (by decide +kernel)) (by decide)
theorem dX5_init_23 : decode cX5_init 23 = .ok (.newarray .int, 2) := by decide +kernel
theorem dX5_init_25 : decode cX5_init 25 = .ok (.putfield 19, 3) := dk_181_ (show cX5_init.data.toList[25]? = some 0xb5 from (LBX5_initr_1 9).trans (by decide +kernel)) (show cX5_init.data.toList[26]? = some 0x00 from (LBX5_initr_1 10).trans (by decide +kernel)) (show cX5_init.data.toList[27]? = some 0x13 from (LBX5_initr_1 11).trans (by decide +kernel)) (by decide)
theorem dX5_init_28 : decode cX5_init 28 = .ok (.return_, 1) := dk_177_ (show cX5_init.data.toList[28]? = some 0xb1 from (LBX5_initr_1 12).trans (by decide +kernel))
theorem dX2_init_0 : decode cX2_init 0 = .ok (.aload_n 0, 1) := dk_42_ (show cX2_init.data.toList[0]? = some 0x2a from by decide +kernel)
theorem dX2_init_1 : decode cX2_init 1 = .ok (.invokespecial 1, 3) := dk_183_ (show cX2_init.data.toList[1]? = some 0xb7 from by decide +kernel) (show cX2_init.data.toList[2]? = some 0x00 from by decide +kernel) (show cX2_init.data.toList[3]? = some 0x01 from by decide +kernel) (by decide)
theorem dX2_init_4 : decode cX2_init 4 = .ok (.aload_n 0, 1) := dk_42_ (show cX2_init.data.toList[4]? = some 0x2a from by decide +kernel)
theorem dX2_init_5 : decode cX2_init 5 = .ok (.iconst 0, 1) := dk_3_ (show cX2_init.data.toList[5]? = some 0x03 from by decide +kernel)
theorem dX2_init_6 : decode cX2_init 6 = .ok (.putfield 7, 3) := dk_181_ (show cX2_init.data.toList[6]? = some 0xb5 from by decide +kernel) (show cX2_init.data.toList[7]? = some 0x00 from by decide +kernel) (show cX2_init.data.toList[8]? = some 0x07 from by decide +kernel) (by decide)
theorem dX2_init_9 : decode cX2_init 9 = .ok (.aload_n 0, 1) := dk_42_ (show cX2_init.data.toList[9]? = some 0x2a from by decide +kernel)
theorem dX2_init_10 : decode cX2_init 10 = .ok (.iconst 0, 1) := dk_3_ (show cX2_init.data.toList[10]? = some 0x03 from by decide +kernel)
theorem dX2_init_11 : decode cX2_init 11 = .ok (.putfield 13, 3) := dk_181_ (show cX2_init.data.toList[11]? = some 0xb5 from by decide +kernel) (show cX2_init.data.toList[12]? = some 0x00 from by decide +kernel) (show cX2_init.data.toList[13]? = some 0x0d from by decide +kernel) (by decide)
theorem dX2_init_14 : decode cX2_init 14 = .ok (.return_, 1) := dk_177_ (show cX2_init.data.toList[14]? = some 0xb1 from by decide +kernel)
def LRX7_init_3 : List UInt8 := []
def LBX7_init_2 : List UInt8 := [0x2a, 0x03, 0xb5, 0x00, 0x1c, 0x2a, 0x03, 0xb5, 0x00, 0x1f, 0xb1]
def LRX7_init_2 : List UInt8 := LBX7_init_2 ++ LRX7_init_3
def LBX7_init_1 : List UInt8 := [0x0f, 0x2a, 0x03, 0xb5, 0x00, 0x13, 0x2a, 0x03, 0xb5, 0x00, 0x16, 0x2a, 0x03, 0xb5, 0x00, 0x19]
def LRX7_init_1 : List UInt8 := LBX7_init_1 ++ LRX7_init_2
def LBX7_init_0 : List UInt8 := [0x2a, 0xb7, 0x00, 0x03, 0x2a, 0x03, 0xb5, 0x00, 0x09, 0x2a, 0x10, 0x78, 0xbc, 0x0a, 0xb5, 0x00]
def LRX7_init_0 : List UInt8 := LBX7_init_0 ++ LRX7_init_1
set_option maxRecDepth 100000 in
theorem LBX7_init_eq : cX7_init.data.toList = LRX7_init_0 := by decide +kernel
theorem LBX7_initr_0 (k : Nat) : cX7_init.data.toList[0 + k]? = LRX7_init_0[k]? := by rw [LBX7_init_eq, Nat.zero_add]
theorem LBX7_initr_1 (k : Nat) : cX7_init.data.toList[16 + k]? = LRX7_init_1[k]? := by
  have h := LBX7_initr_0 (16 + k)
  rw [show 0 + (16 + k) = 16 + k by omega] at h
  rw [h]
  exact (List.getElem?_append_right (l₁ := LBX7_init_0) (l₂ := LRX7_init_1) (show 16 ≤ 16 + k by omega)).trans (congrArg (fun i => LRX7_init_1[i]?) (show 16 + k - 16 = k by omega))
theorem LBX7_initr_2 (k : Nat) : cX7_init.data.toList[32 + k]? = LRX7_init_2[k]? := by
  have h := LBX7_initr_1 (16 + k)
  rw [show 16 + (16 + k) = 32 + k by omega] at h
  rw [h]
  exact (List.getElem?_append_right (l₁ := LBX7_init_1) (l₂ := LRX7_init_2) (show 16 ≤ 16 + k by omega)).trans (congrArg (fun i => LRX7_init_2[i]?) (show 16 + k - 16 = k by omega))
theorem dX7_init_0 : decode cX7_init 0 = .ok (.aload_n 0, 1) := dk_42_ (show cX7_init.data.toList[0]? = some 0x2a from (LBX7_initr_0 0).trans (by decide +kernel))
theorem dX7_init_1 : decode cX7_init 1 = .ok (.invokespecial 3, 3) := dk_183_ (show cX7_init.data.toList[1]? = some 0xb7 from (LBX7_initr_0 1).trans (by decide +kernel)) (show cX7_init.data.toList[2]? = some 0x00 from (LBX7_initr_0 2).trans (by decide +kernel)) (show cX7_init.data.toList[3]? = some 0x03 from (LBX7_initr_0 3).trans (by decide +kernel)) (by decide)
theorem dX7_init_4 : decode cX7_init 4 = .ok (.aload_n 0, 1) := dk_42_ (show cX7_init.data.toList[4]? = some 0x2a from (LBX7_initr_0 4).trans (by decide +kernel))
theorem dX7_init_5 : decode cX7_init 5 = .ok (.iconst 0, 1) := dk_3_ (show cX7_init.data.toList[5]? = some 0x03 from (LBX7_initr_0 5).trans (by decide +kernel))
theorem dX7_init_6 : decode cX7_init 6 = .ok (.putfield 9, 3) := dk_181_ (show cX7_init.data.toList[6]? = some 0xb5 from (LBX7_initr_0 6).trans (by decide +kernel)) (show cX7_init.data.toList[7]? = some 0x00 from (LBX7_initr_0 7).trans (by decide +kernel)) (show cX7_init.data.toList[8]? = some 0x09 from (LBX7_initr_0 8).trans (by decide +kernel)) (by decide)
theorem dX7_init_9 : decode cX7_init 9 = .ok (.aload_n 0, 1) := dk_42_ (show cX7_init.data.toList[9]? = some 0x2a from (LBX7_initr_0 9).trans (by decide +kernel))
theorem dX7_init_10 : decode cX7_init 10 = .ok (.bipush 120, 2) := dk_16_ (show cX7_init.data.toList[10]? = some 0x10 from (LBX7_initr_0 10).trans (by decide +kernel)) (show cX7_init.data.toList[11]? = some 0x78 from (LBX7_initr_0 11).trans (by decide +kernel)) (by decide)
theorem dX7_init_12 : decode cX7_init 12 = .ok (.newarray .int, 2) := by decide +kernel
theorem dX7_init_14 : decode cX7_init 14 = .ok (.putfield 15, 3) := dk_181_ (show cX7_init.data.toList[14]? = some 0xb5 from (LBX7_initr_0 14).trans (by decide +kernel)) (show cX7_init.data.toList[15]? = some 0x00 from (LBX7_initr_0 15).trans (by decide +kernel)) (show cX7_init.data.toList[16]? = some 0x0f from (LBX7_initr_1 0).trans (by decide +kernel)) (by decide)
theorem dX7_init_17 : decode cX7_init 17 = .ok (.aload_n 0, 1) := dk_42_ (show cX7_init.data.toList[17]? = some 0x2a from (LBX7_initr_1 1).trans (by decide +kernel))
theorem dX7_init_18 : decode cX7_init 18 = .ok (.iconst 0, 1) := dk_3_ (show cX7_init.data.toList[18]? = some 0x03 from (LBX7_initr_1 2).trans (by decide +kernel))
theorem dX7_init_19 : decode cX7_init 19 = .ok (.putfield 19, 3) := dk_181_ (show cX7_init.data.toList[19]? = some 0xb5 from (LBX7_initr_1 3).trans (by decide +kernel)) (show cX7_init.data.toList[20]? = some 0x00 from (LBX7_initr_1 4).trans (by decide +kernel)) (show cX7_init.data.toList[21]? = some 0x13 from (LBX7_initr_1 5).trans (by decide +kernel)) (by decide)
theorem dX7_init_22 : decode cX7_init 22 = .ok (.aload_n 0, 1) := dk_42_ (show cX7_init.data.toList[22]? = some 0x2a from (LBX7_initr_1 6).trans (by decide +kernel))
theorem dX7_init_23 : decode cX7_init 23 = .ok (.iconst 0, 1) := dk_3_ (show cX7_init.data.toList[23]? = some 0x03 from (LBX7_initr_1 7).trans (by decide +kernel))
theorem dX7_init_24 : decode cX7_init 24 = .ok (.putfield 22, 3) := dk_181_ (show cX7_init.data.toList[24]? = some 0xb5 from (LBX7_initr_1 8).trans (by decide +kernel)) (show cX7_init.data.toList[25]? = some 0x00 from (LBX7_initr_1 9).trans (by decide +kernel)) (show cX7_init.data.toList[26]? = some 0x16 from (LBX7_initr_1 10).trans (by decide +kernel)) (by decide)
theorem dX7_init_27 : decode cX7_init 27 = .ok (.aload_n 0, 1) := dk_42_ (show cX7_init.data.toList[27]? = some 0x2a from (LBX7_initr_1 11).trans (by decide +kernel))
theorem dX7_init_28 : decode cX7_init 28 = .ok (.iconst 0, 1) := dk_3_ (show cX7_init.data.toList[28]? = some 0x03 from (LBX7_initr_1 12).trans (by decide +kernel))
theorem dX7_init_29 : decode cX7_init 29 = .ok (.putfield 25, 3) := dk_181_ (show cX7_init.data.toList[29]? = some 0xb5 from (LBX7_initr_1 13).trans (by decide +kernel)) (show cX7_init.data.toList[30]? = some 0x00 from (LBX7_initr_1 14).trans (by decide +kernel)) (show cX7_init.data.toList[31]? = some 0x19 from (LBX7_initr_1 15).trans (by decide +kernel)) (by decide)
theorem dX7_init_32 : decode cX7_init 32 = .ok (.aload_n 0, 1) := dk_42_ (show cX7_init.data.toList[32]? = some 0x2a from (LBX7_initr_2 0).trans (by decide +kernel))
theorem dX7_init_33 : decode cX7_init 33 = .ok (.iconst 0, 1) := dk_3_ (show cX7_init.data.toList[33]? = some 0x03 from (LBX7_initr_2 1).trans (by decide +kernel))
theorem dX7_init_34 : decode cX7_init 34 = .ok (.putfield 28, 3) := dk_181_ (show cX7_init.data.toList[34]? = some 0xb5 from (LBX7_initr_2 2).trans (by decide +kernel)) (show cX7_init.data.toList[35]? = some 0x00 from (LBX7_initr_2 3).trans (by decide +kernel)) (show cX7_init.data.toList[36]? = some 0x1c from (LBX7_initr_2 4).trans (by decide +kernel)) (by decide)
theorem dX7_init_37 : decode cX7_init 37 = .ok (.aload_n 0, 1) := dk_42_ (show cX7_init.data.toList[37]? = some 0x2a from (LBX7_initr_2 5).trans (by decide +kernel))
theorem dX7_init_38 : decode cX7_init 38 = .ok (.iconst 0, 1) := dk_3_ (show cX7_init.data.toList[38]? = some 0x03 from (LBX7_initr_2 6).trans (by decide +kernel))
theorem dX7_init_39 : decode cX7_init 39 = .ok (.putfield 31, 3) := dk_181_ (show cX7_init.data.toList[39]? = some 0xb5 from (LBX7_initr_2 7).trans (by decide +kernel)) (show cX7_init.data.toList[40]? = some 0x00 from (LBX7_initr_2 8).trans (by decide +kernel)) (show cX7_init.data.toList[41]? = some 0x1f from (LBX7_initr_2 9).trans (by decide +kernel)) (by decide)
theorem dX7_init_42 : decode cX7_init 42 = .ok (.return_, 1) := dk_177_ (show cX7_init.data.toList[42]? = some 0xb1 from (LBX7_initr_2 10).trans (by decide +kernel))
theorem uw929 : Cond.methodLink RX3 3 objectInit ∈ wsU := ut1 (List.mem_of_getElem? (i := 36) rfl) rfl
theorem uw930 : Cond.instanceMethod objectInit ∈ wsU := ut1 (List.mem_of_getElem? (i := 23) rfl) rfl
theorem uw931 : Cond.code objectInit ⟨#[0xb1]⟩ 1 none ∈ wsU := ut1 (List.mem_of_getElem? (i := 24) rfl) rfl
theorem uw932 : Cond.arrayClass .int ∈ wsU := ut1 (List.mem_of_getElem? (i := 53) rfl) rfl
theorem uw933 : Cond.methodLink RX4 3 objectInit ∈ wsU := ut1 (List.mem_of_getElem? (i := 194) rfl) rfl
theorem uw934 : Cond.arrayClass .long ∈ wsU := ut1 (List.mem_of_getElem? (i := 208) rfl) rfl
theorem uw935 : Cond.methodLink RX1 3 objectInit ∈ wsU := ut1 (List.mem_of_getElem? (i := 30) rfl) rfl
theorem uw936 : Cond.classLink RX1 28 RX3 ∈ wsU := ut1 (List.mem_of_getElem? (i := 31) rfl) rfl
theorem uw937 : Cond.instantiable RX3 3 ∈ wsU := ut1 (List.mem_of_getElem? (i := 32) rfl) rfl
theorem uw938 : Cond.instanceMethod yX3_init ∈ wsU := ut1 (List.mem_of_getElem? (i := 34) rfl) rfl
theorem uw939 : Cond.initialized yX3_init.cls ∈ wsU := ut1 (List.mem_of_getElem? (i := 3) rfl) rfl
theorem uw940 : Cond.code yX3_init cX3_init 1 none ∈ wsU := ut1 (List.mem_of_getElem? (i := 35) rfl) rfl
theorem uw941 : Cond.methodLink RX0 3 objectInit ∈ wsU := ut1 (List.mem_of_getElem? (i := 109) rfl) rfl
theorem uw942 : Cond.methodLink RX6 3 objectInit ∈ wsU := ut1 (List.mem_of_getElem? (i := 122) rfl) rfl
theorem uw943 : Cond.methodLink RX5 3 objectInit ∈ wsU := ut1 (List.mem_of_getElem? (i := 132) rfl) rfl
theorem uw944 : Cond.arrayClass .boolean ∈ wsU := ut1 (List.mem_of_getElem? (i := 144) rfl) rfl
theorem uw945 : Cond.methodLink RX2 1 objectInit ∈ wsU := ut1 (List.mem_of_getElem? (i := 150) rfl) rfl
theorem uw946 : Cond.methodLink RX7 3 objectInit ∈ wsU := ut1 (List.mem_of_getElem? (i := 164) rfl) rfl
theorem ki_X1_30 : (Cond.code yX3_init cX3_init 1 none ∈ wsU ∧ Cond.instanceMethod yX3_init ∈ wsU ∧ Cond.initialized yX3_init.cls ∈ wsU) ∧ (yX3_init.name = "<init>" ∧ yX3_init.cls ≠ "java/lang/invoke/MethodHandle" ∧ yX3_init.cls ≠ "java/lang/invoke/VarHandle" ∧ (parseMethodDescriptor yX3_init.desc).map (fun d => d.parameters.length) = some 0) ∧ Cond.methodLinkNest RX1 30 yX3_init RX8 ∈ xNest := ⟨⟨uw940, uw938, uw939⟩, by decide +kernel, by decide +kernel⟩
set_option maxHeartbeats 4000000 in
set_option maxRecDepth 100000 in
theorem c_X3_init (l : Launch) (D : va_G) (cI cJ cZ cS : ClassId) (ta : Nat) (sa sv : Nat → Nat) (sz : Nat) (h0 : Nat) : Met l yX3_init (Cond.code yX3_init cX3_init 1 none :: wsU) ({ frames := 1, cells := 2, slots := 56, locals := 20 }) (va_Pc [.ref h0] (XW D (xT cI cJ cZ cS) ta sa sv [(h0, .inr (3, [.int 0, .null, .null]))] sz)) (XQv (fun (u9 : (Nat → Nat)) => True) D (fun (u9 : Nat → Nat) => [(h0, .inr (3, [.int 0, .ref (u9 0), .ref (u9 1)])), ((u9 0), .inl (cI, 8, .inl (fun _ => 0))), ((u9 1), .inl (cI, 48, .inl (fun _ => 0)))]) (va_A [(h0, .inr (3, [.int 0, .null, .null]))] sz)) 2 56 (va_A [(h0, .inr (3, [.int 0, .null, .null]))] sz) := by
  refine xh (QA := fun A => XQv (fun (u9 : (Nat → Nat)) => True) D (fun (u9 : Nat → Nat) => [(h0, .inr (3, [.int 0, .ref (u9 0), .ref (u9 1)])), ((u9 0), .inl (cI, 8, .inl (fun _ => 0))), ((u9 1), .inl (cI, 48, .inl (fun _ => 0)))]) A) (fr := fun A => A) (by decide) (Nat.le_of_ble_eq_true rfl) ?_
  intro p e s m below meth c ls A hF hr hlk hin hsz hP hK hD hN hZ hA hS hl
  have hF : CallFix p m c cX3_init 1 s _ _ RX3 := hF
  have hx := hF.1
  have hb := hF.2.1
  have hml := hF.2.2.1
  have hown := hF.2.2.2.1
  have hu : ∀ w ∈ wsU, w.before _ s = true := fun w h => hF.2.2.2.2 w (List.mem_cons_of_mem _ h)
  have hl : lv_has ls 1 [(0, .ref h0)] := hl
  refine lv_aload_n hx hb dX3_init_0 rfl (lv_at hl 0 rfl) ?_
  refine W.objInit hx hb hown (hu _ uw929) (hu _ uw930) (hu _ uw931) rfl (by rw [hml]; exact hl.1) rfl dX3_init_1 (Nat.le_of_ble_eq_true rfl) (Nat.le_of_ble_eq_true rfl) ?_
  refine W.eq (g2 := F0 m 4 ls []) rfl ?_
  refine lv_aload_n hx hb dX3_init_4 rfl (lv_at hl 0 rfl) ?_
  refine lv_iconst (v := 0) hx hb dX3_init_5 (by decide) ?_
  refine xp hF kf_X3_9 tyX3_ok nmX3 hK hP hD hS 0 rfl rfl rfl rfl (Nat.le_of_ble_eq_true rfl) dX3_init_6 (fun H locs hP hD hS => ?_)
  have hP : va_P D vwCl [(h0, .inr (3, [.int 0, .null, .null]))] H := hP
  have hD : va_D A [(h0, .inr (3, [.int 0, .null, .null]))] := hD
  refine lv_aload_n hx hb dX3_init_9 rfl (lv_at hl 0 rfl) ?_
  refine lv_bipush (v := 8) hx hb dX3_init_10 (by decide) ?_
  refine xna (atype := .int) (ty := .int) (a0 := (8, .inl (fun _ => 0))) hF rfl uw932 hK hP hD hS hA 0 rfl (fun _ => xuq_int) (fun _ => rfl) (by decide) (by decide) (by decide) (Nat.le_of_ble_eq_true rfl) (Nat.le_of_ble_eq_true rfl) dX3_init_12 (fun q_1 H hP hD hS => ?_)
  have hP : va_P D vwCl [(h0, .inr (3, [.int 0, .null, .null])), (q_1, .inl (cI, 8, .inl (fun _ => 0)))] H := hP
  have hD : va_D A [(h0, .inr (3, [.int 0, .null, .null])), (q_1, .inl (cI, 8, .inl (fun _ => 0)))] := hD
  refine W.widen (k := 1) (n := 8) (by omega) (by omega) ?_
  refine xpF hF kf_X3_15 tyX3_ok nmX3 hK hP hD hS 0 rfl rfl hin rfl rfl rfl (Nat.le_of_ble_eq_true rfl) dX3_init_14 (fun H locs hP hD hS => ?_)
  have hP : va_P D vwCl [(h0, .inr (3, [.int 0, .ref q_1, .null])), (q_1, .inl (cI, 8, .inl (fun _ => 0)))] H := hP
  have hD : va_D A [(h0, .inr (3, [.int 0, .ref q_1, .null])), (q_1, .inl (cI, 8, .inl (fun _ => 0)))] := hD
  refine lv_aload_n hx hb dX3_init_17 rfl (lv_at hl 0 rfl) ?_
  refine lv_bipush (v := 48) hx hb dX3_init_18 (by decide) ?_
  refine xna (atype := .int) (ty := .int) (a0 := (48, .inl (fun _ => 0))) hF rfl uw932 hK hP hD hS hA 0 rfl (fun _ => xuq_int) (fun _ => rfl) (by decide) (by decide) (by decide) (Nat.le_of_ble_eq_true rfl) (Nat.le_of_ble_eq_true rfl) dX3_init_20 (fun q_2 H hP hD hS => ?_)
  have hP : va_P D vwCl [(h0, .inr (3, [.int 0, .ref q_1, .null])), (q_1, .inl (cI, 8, .inl (fun _ => 0))), (q_2, .inl (cI, 48, .inl (fun _ => 0)))] H := hP
  have hD : va_D A [(h0, .inr (3, [.int 0, .ref q_1, .null])), (q_1, .inl (cI, 8, .inl (fun _ => 0))), (q_2, .inl (cI, 48, .inl (fun _ => 0)))] := hD
  refine W.widen (k := 2) (n := 56) (by omega) (by omega) ?_
  refine xpF hF kf_X3_19 tyX3_ok nmX3 hK hP hD hS 0 rfl rfl hin rfl rfl rfl (Nat.le_of_ble_eq_true rfl) dX3_init_22 (fun H locs hP hD hS => ?_)
  have hP : va_P D vwCl [(h0, .inr (3, [.int 0, .ref q_1, .ref q_2])), (q_1, .inl (cI, 8, .inl (fun _ => 0))), (q_2, .inl (cI, 48, .inl (fun _ => 0)))] H := hP
  have hD : va_D A [(h0, .inr (3, [.int 0, .ref q_1, .ref q_2])), (q_1, .inl (cI, 8, .inl (fun _ => 0))), (q_2, .inl (cI, 48, .inl (fun _ => 0)))] := hD
  refine W.widen (k := 2) (n := 56) (Nat.le_of_ble_eq_true rfl) (Nat.le_of_ble_eq_true rfl) ?_
  exact W.vret hx hb hr (fun t ht hW => ⟨⟨(fun i => (q_1 :: q_2 :: ([] : List Nat)).getD i 0), rfl, trivial, by rw [ht]; exact hP.sub [0, 1, 2] rfl, hD.sub [0, 1, 2] (by decide) rfl⟩, hS.F ht⟩) hS.2.2 dX3_init_25 hlk
set_option maxHeartbeats 4000000 in
set_option maxRecDepth 100000 in
theorem c_X4_init (l : Launch) (D : va_G) (cI cJ cZ cS : ClassId) (ta : Nat) (sa sv : Nat → Nat) (sz : Nat) (h0 : Nat) : Met l yX4_init (Cond.code yX4_init cX4_init 1 none :: wsU) ({ frames := 1, cells := 1, slots := 40, locals := 20 }) (va_Pc [.ref h0] (XW D (xT cI cJ cZ cS) ta sa sv [(h0, .inr (4, [.int 0, .int 0, .null]))] sz)) (XQv (fun (u9 : (Nat → Nat)) => True) D (fun (u9 : Nat → Nat) => [(h0, .inr (4, [.int 0, .int 0, .ref (u9 0)])), ((u9 0), .inl (cJ, 40, .inr (.inl (fun _ => 0))))]) (va_A [(h0, .inr (4, [.int 0, .int 0, .null]))] sz)) 1 40 (va_A [(h0, .inr (4, [.int 0, .int 0, .null]))] sz) := by
  refine xh (QA := fun A => XQv (fun (u9 : (Nat → Nat)) => True) D (fun (u9 : Nat → Nat) => [(h0, .inr (4, [.int 0, .int 0, .ref (u9 0)])), ((u9 0), .inl (cJ, 40, .inr (.inl (fun _ => 0))))]) A) (fr := fun A => A) (by decide) (Nat.le_of_ble_eq_true rfl) ?_
  intro p e s m below meth c ls A hF hr hlk hin hsz hP hK hD hN hZ hA hS hl
  have hF : CallFix p m c cX4_init 1 s _ _ RX4 := hF
  have hx := hF.1
  have hb := hF.2.1
  have hml := hF.2.2.1
  have hown := hF.2.2.2.1
  have hu : ∀ w ∈ wsU, w.before _ s = true := fun w h => hF.2.2.2.2 w (List.mem_cons_of_mem _ h)
  have hl : lv_has ls 1 [(0, .ref h0)] := hl
  refine lv_aload_n hx hb dX4_init_0 rfl (lv_at hl 0 rfl) ?_
  refine W.objInit hx hb hown (hu _ uw933) (hu _ uw930) (hu _ uw931) rfl (by rw [hml]; exact hl.1) rfl dX4_init_1 (Nat.le_of_ble_eq_true rfl) (Nat.le_of_ble_eq_true rfl) ?_
  refine W.eq (g2 := F0 m 4 ls []) rfl ?_
  refine lv_aload_n hx hb dX4_init_4 rfl (lv_at hl 0 rfl) ?_
  refine lv_iconst (v := 0) hx hb dX4_init_5 (by decide) ?_
  refine xp hF kf_X4_9 tyX4_ok nmX4 hK hP hD hS 0 rfl rfl rfl rfl (Nat.le_of_ble_eq_true rfl) dX4_init_6 (fun H locs hP hD hS => ?_)
  have hP : va_P D vwCl [(h0, .inr (4, [.int 0, .int 0, .null]))] H := hP
  have hD : va_D A [(h0, .inr (4, [.int 0, .int 0, .null]))] := hD
  refine lv_aload_n hx hb dX4_init_9 rfl (lv_at hl 0 rfl) ?_
  refine lv_iconst (v := 0) hx hb dX4_init_10 (by decide) ?_
  refine xp hF kf_X4_15 tyX4_ok nmX4 hK hP hD hS 0 rfl rfl rfl rfl (Nat.le_of_ble_eq_true rfl) dX4_init_11 (fun H locs hP hD hS => ?_)
  have hP : va_P D vwCl [(h0, .inr (4, [.int 0, .int 0, .null]))] H := hP
  have hD : va_D A [(h0, .inr (4, [.int 0, .int 0, .null]))] := hD
  refine lv_aload_n hx hb dX4_init_14 rfl (lv_at hl 0 rfl) ?_
  refine lv_bipush (v := 40) hx hb dX4_init_15 (by decide) ?_
  refine xna (atype := .long) (ty := .long) (a0 := (40, .inr (.inl (fun _ => 0)))) hF rfl uw934 hK hP hD hS hA 1 rfl (fun _ => xuq_long) (fun _ => rfl) (by decide) (by decide) (by decide) (Nat.le_of_ble_eq_true rfl) (Nat.le_of_ble_eq_true rfl) dX4_init_17 (fun q_1 H hP hD hS => ?_)
  have hP : va_P D vwCl [(h0, .inr (4, [.int 0, .int 0, .null])), (q_1, .inl (cJ, 40, .inr (.inl (fun _ => 0))))] H := hP
  have hD : va_D A [(h0, .inr (4, [.int 0, .int 0, .null])), (q_1, .inl (cJ, 40, .inr (.inl (fun _ => 0))))] := hD
  refine W.widen (k := 1) (n := 40) (by omega) (by omega) ?_
  refine xpF hF kf_X4_18 tyX4_ok nmX4 hK hP hD hS 0 rfl rfl hin rfl rfl rfl (Nat.le_of_ble_eq_true rfl) dX4_init_19 (fun H locs hP hD hS => ?_)
  have hP : va_P D vwCl [(h0, .inr (4, [.int 0, .int 0, .ref q_1])), (q_1, .inl (cJ, 40, .inr (.inl (fun _ => 0))))] H := hP
  have hD : va_D A [(h0, .inr (4, [.int 0, .int 0, .ref q_1])), (q_1, .inl (cJ, 40, .inr (.inl (fun _ => 0))))] := hD
  refine W.widen (k := 1) (n := 40) (Nat.le_of_ble_eq_true rfl) (Nat.le_of_ble_eq_true rfl) ?_
  exact W.vret hx hb hr (fun t ht hW => ⟨⟨(fun i => (q_1 :: ([] : List Nat)).getD i 0), rfl, trivial, by rw [ht]; exact hP.sub [0, 1] rfl, hD.sub [0, 1] (by decide) rfl⟩, hS.F ht⟩) hS.2.2 dX4_init_22 hlk
set_option maxHeartbeats 4000000 in
set_option maxRecDepth 100000 in
theorem c_X1_init (l : Launch) (D : va_G) (cI cJ cZ cS : ClassId) (ta : Nat) (sa sv : Nat → Nat) (sz : Nat) (h0 : Nat) : Met l yX1_init (Cond.code yX1_init cX1_init 1 none :: wsU) ({ frames := 2, cells := 13, slots := 452, locals := 40 }) (va_Pc [.ref h0] (XW D (xT cI cJ cZ cS) ta sa sv [(h0, .inr (1, [.int 0, .null, .null, .null, .null, .null, .null, .null, .null, .null]))] sz)) (XQv (fun (u9 : (Nat → Nat)) => True) D (fun (u9 : Nat → Nat) => [(h0, .inr (1, [.int 0, .ref (u9 0), .ref (u9 1), .ref (u9 2), .ref (u9 3), .ref (u9 4), .ref (u9 7), .ref (u9 8), .ref (u9 11), .ref (u9 12)])), ((u9 0), .inl (cI, 10, .inl (fun _ => 0))), ((u9 1), .inl (cI, 100, .inl (fun _ => 0))), ((u9 2), .inl (cI, 100, .inl (fun _ => 0))), ((u9 3), .inl (cI, 100, .inl (fun _ => 0))), ((u9 4), .inr (3, [.int 0, .ref (u9 5), .ref (u9 6)])), ((u9 5), .inl (cI, 8, .inl (fun _ => 0))), ((u9 6), .inl (cI, 48, .inl (fun _ => 0))), ((u9 7), .inl (cI, 8, .inl (fun _ => 0))), ((u9 8), .inr (3, [.int 0, .ref (u9 9), .ref (u9 10)])), ((u9 9), .inl (cI, 8, .inl (fun _ => 0))), ((u9 10), .inl (cI, 48, .inl (fun _ => 0))), ((u9 11), .inl (cI, 8, .inl (fun _ => 0))), ((u9 12), .inl (cI, 8, .inl (fun _ => 0)))]) (va_A [(h0, .inr (1, [.int 0, .null, .null, .null, .null, .null, .null, .null, .null, .null]))] sz)) 13 452 (va_A [(h0, .inr (1, [.int 0, .null, .null, .null, .null, .null, .null, .null, .null, .null]))] sz) := by
  refine xh (QA := fun A => XQv (fun (u9 : (Nat → Nat)) => True) D (fun (u9 : Nat → Nat) => [(h0, .inr (1, [.int 0, .ref (u9 0), .ref (u9 1), .ref (u9 2), .ref (u9 3), .ref (u9 4), .ref (u9 7), .ref (u9 8), .ref (u9 11), .ref (u9 12)])), ((u9 0), .inl (cI, 10, .inl (fun _ => 0))), ((u9 1), .inl (cI, 100, .inl (fun _ => 0))), ((u9 2), .inl (cI, 100, .inl (fun _ => 0))), ((u9 3), .inl (cI, 100, .inl (fun _ => 0))), ((u9 4), .inr (3, [.int 0, .ref (u9 5), .ref (u9 6)])), ((u9 5), .inl (cI, 8, .inl (fun _ => 0))), ((u9 6), .inl (cI, 48, .inl (fun _ => 0))), ((u9 7), .inl (cI, 8, .inl (fun _ => 0))), ((u9 8), .inr (3, [.int 0, .ref (u9 9), .ref (u9 10)])), ((u9 9), .inl (cI, 8, .inl (fun _ => 0))), ((u9 10), .inl (cI, 48, .inl (fun _ => 0))), ((u9 11), .inl (cI, 8, .inl (fun _ => 0))), ((u9 12), .inl (cI, 8, .inl (fun _ => 0)))]) A) (fr := fun A => A) (by decide) (Nat.le_of_ble_eq_true rfl) ?_
  intro p e s m below meth c ls A hF hr hlk hin hsz hP hK hD hN hZ hA hS hl
  have hF : CallFix p m c cX1_init 1 s _ _ RX1 := hF
  have hx := hF.1
  have hb := hF.2.1
  have hml := hF.2.2.1
  have hown := hF.2.2.2.1
  have hu : ∀ w ∈ wsU, w.before _ s = true := fun w h => hF.2.2.2.2 w (List.mem_cons_of_mem _ h)
  have hl : lv_has ls 1 [(0, .ref h0)] := hl
  refine lv_aload_n hx hb dX1_init_0 rfl (lv_at hl 0 rfl) ?_
  refine W.objInit hx hb hown (hu _ uw935) (hu _ uw930) (hu _ uw931) rfl (by rw [hml]; exact hl.1) rfl dX1_init_1 (Nat.le_of_ble_eq_true rfl) (Nat.le_of_ble_eq_true rfl) ?_
  refine W.eq (g2 := F0 m 4 ls []) rfl ?_
  refine lv_aload_n hx hb dX1_init_4 rfl (lv_at hl 0 rfl) ?_
  refine lv_iconst (v := 0) hx hb dX1_init_5 (by decide) ?_
  refine xp hF kf_X1_9 tyX1_ok nmX1 hK hP hD hS 0 rfl rfl rfl rfl (Nat.le_of_ble_eq_true rfl) dX1_init_6 (fun H locs hP hD hS => ?_)
  have hP : va_P D vwCl [(h0, .inr (1, [.int 0, .null, .null, .null, .null, .null, .null, .null, .null, .null]))] H := hP
  have hD : va_D A [(h0, .inr (1, [.int 0, .null, .null, .null, .null, .null, .null, .null, .null, .null]))] := hD
  refine lv_aload_n hx hb dX1_init_9 rfl (lv_at hl 0 rfl) ?_
  refine lv_bipush (v := 10) hx hb dX1_init_10 (by decide) ?_
  refine xna (atype := .int) (ty := .int) (a0 := (10, .inl (fun _ => 0))) hF rfl uw932 hK hP hD hS hA 0 rfl (fun _ => xuq_int) (fun _ => rfl) (by decide) (by decide) (by decide) (Nat.le_of_ble_eq_true rfl) (Nat.le_of_ble_eq_true rfl) dX1_init_12 (fun q_1 H hP hD hS => ?_)
  have hP : va_P D vwCl [(h0, .inr (1, [.int 0, .null, .null, .null, .null, .null, .null, .null, .null, .null])), (q_1, .inl (cI, 10, .inl (fun _ => 0)))] H := hP
  have hD : va_D A [(h0, .inr (1, [.int 0, .null, .null, .null, .null, .null, .null, .null, .null, .null])), (q_1, .inl (cI, 10, .inl (fun _ => 0)))] := hD
  refine W.widen (k := 1) (n := 10) (by omega) (by omega) ?_
  refine xpF hF kf_X1_15 tyX1_ok nmX1 hK hP hD hS 0 rfl rfl hin rfl rfl rfl (Nat.le_of_ble_eq_true rfl) dX1_init_14 (fun H locs hP hD hS => ?_)
  have hP : va_P D vwCl [(h0, .inr (1, [.int 0, .ref q_1, .null, .null, .null, .null, .null, .null, .null, .null])), (q_1, .inl (cI, 10, .inl (fun _ => 0)))] H := hP
  have hD : va_D A [(h0, .inr (1, [.int 0, .ref q_1, .null, .null, .null, .null, .null, .null, .null, .null])), (q_1, .inl (cI, 10, .inl (fun _ => 0)))] := hD
  refine lv_aload_n hx hb dX1_init_17 rfl (lv_at hl 0 rfl) ?_
  refine lv_bipush (v := 100) hx hb dX1_init_18 (by decide) ?_
  refine xna (atype := .int) (ty := .int) (a0 := (100, .inl (fun _ => 0))) hF rfl uw932 hK hP hD hS hA 0 rfl (fun _ => xuq_int) (fun _ => rfl) (by decide) (by decide) (by decide) (Nat.le_of_ble_eq_true rfl) (Nat.le_of_ble_eq_true rfl) dX1_init_20 (fun q_2 H hP hD hS => ?_)
  have hP : va_P D vwCl [(h0, .inr (1, [.int 0, .ref q_1, .null, .null, .null, .null, .null, .null, .null, .null])), (q_1, .inl (cI, 10, .inl (fun _ => 0))), (q_2, .inl (cI, 100, .inl (fun _ => 0)))] H := hP
  have hD : va_D A [(h0, .inr (1, [.int 0, .ref q_1, .null, .null, .null, .null, .null, .null, .null, .null])), (q_1, .inl (cI, 10, .inl (fun _ => 0))), (q_2, .inl (cI, 100, .inl (fun _ => 0)))] := hD
  refine W.widen (k := 2) (n := 110) (by omega) (by omega) ?_
  refine xpF hF kf_X1_19 tyX1_ok nmX1 hK hP hD hS 0 rfl rfl hin rfl rfl rfl (Nat.le_of_ble_eq_true rfl) dX1_init_22 (fun H locs hP hD hS => ?_)
  have hP : va_P D vwCl [(h0, .inr (1, [.int 0, .ref q_1, .ref q_2, .null, .null, .null, .null, .null, .null, .null])), (q_1, .inl (cI, 10, .inl (fun _ => 0))), (q_2, .inl (cI, 100, .inl (fun _ => 0)))] H := hP
  have hD : va_D A [(h0, .inr (1, [.int 0, .ref q_1, .ref q_2, .null, .null, .null, .null, .null, .null, .null])), (q_1, .inl (cI, 10, .inl (fun _ => 0))), (q_2, .inl (cI, 100, .inl (fun _ => 0)))] := hD
  refine lv_aload_n hx hb dX1_init_25 rfl (lv_at hl 0 rfl) ?_
  refine lv_bipush (v := 100) hx hb dX1_init_26 (by decide) ?_
  refine xna (atype := .int) (ty := .int) (a0 := (100, .inl (fun _ => 0))) hF rfl uw932 hK hP hD hS hA 0 rfl (fun _ => xuq_int) (fun _ => rfl) (by decide) (by decide) (by decide) (Nat.le_of_ble_eq_true rfl) (Nat.le_of_ble_eq_true rfl) dX1_init_28 (fun q_3 H hP hD hS => ?_)
  have hP : va_P D vwCl [(h0, .inr (1, [.int 0, .ref q_1, .ref q_2, .null, .null, .null, .null, .null, .null, .null])), (q_1, .inl (cI, 10, .inl (fun _ => 0))), (q_2, .inl (cI, 100, .inl (fun _ => 0))), (q_3, .inl (cI, 100, .inl (fun _ => 0)))] H := hP
  have hD : va_D A [(h0, .inr (1, [.int 0, .ref q_1, .ref q_2, .null, .null, .null, .null, .null, .null, .null])), (q_1, .inl (cI, 10, .inl (fun _ => 0))), (q_2, .inl (cI, 100, .inl (fun _ => 0))), (q_3, .inl (cI, 100, .inl (fun _ => 0)))] := hD
  refine W.widen (k := 3) (n := 210) (by omega) (by omega) ?_
  refine xpF hF kf_X1_22 tyX1_ok nmX1 hK hP hD hS 0 rfl rfl hin rfl rfl rfl (Nat.le_of_ble_eq_true rfl) dX1_init_30 (fun H locs hP hD hS => ?_)
  have hP : va_P D vwCl [(h0, .inr (1, [.int 0, .ref q_1, .ref q_2, .ref q_3, .null, .null, .null, .null, .null, .null])), (q_1, .inl (cI, 10, .inl (fun _ => 0))), (q_2, .inl (cI, 100, .inl (fun _ => 0))), (q_3, .inl (cI, 100, .inl (fun _ => 0)))] H := hP
  have hD : va_D A [(h0, .inr (1, [.int 0, .ref q_1, .ref q_2, .ref q_3, .null, .null, .null, .null, .null, .null])), (q_1, .inl (cI, 10, .inl (fun _ => 0))), (q_2, .inl (cI, 100, .inl (fun _ => 0))), (q_3, .inl (cI, 100, .inl (fun _ => 0)))] := hD
  refine lv_aload_n hx hb dX1_init_33 rfl (lv_at hl 0 rfl) ?_
  refine lv_bipush (v := 100) hx hb dX1_init_34 (by decide) ?_
  refine xna (atype := .int) (ty := .int) (a0 := (100, .inl (fun _ => 0))) hF rfl uw932 hK hP hD hS hA 0 rfl (fun _ => xuq_int) (fun _ => rfl) (by decide) (by decide) (by decide) (Nat.le_of_ble_eq_true rfl) (Nat.le_of_ble_eq_true rfl) dX1_init_36 (fun q_4 H hP hD hS => ?_)
  have hP : va_P D vwCl [(h0, .inr (1, [.int 0, .ref q_1, .ref q_2, .ref q_3, .null, .null, .null, .null, .null, .null])), (q_1, .inl (cI, 10, .inl (fun _ => 0))), (q_2, .inl (cI, 100, .inl (fun _ => 0))), (q_3, .inl (cI, 100, .inl (fun _ => 0))), (q_4, .inl (cI, 100, .inl (fun _ => 0)))] H := hP
  have hD : va_D A [(h0, .inr (1, [.int 0, .ref q_1, .ref q_2, .ref q_3, .null, .null, .null, .null, .null, .null])), (q_1, .inl (cI, 10, .inl (fun _ => 0))), (q_2, .inl (cI, 100, .inl (fun _ => 0))), (q_3, .inl (cI, 100, .inl (fun _ => 0))), (q_4, .inl (cI, 100, .inl (fun _ => 0)))] := hD
  refine W.widen (k := 4) (n := 310) (by omega) (by omega) ?_
  refine xpF hF kf_X1_25 tyX1_ok nmX1 hK hP hD hS 0 rfl rfl hin rfl rfl rfl (Nat.le_of_ble_eq_true rfl) dX1_init_38 (fun H locs hP hD hS => ?_)
  have hP : va_P D vwCl [(h0, .inr (1, [.int 0, .ref q_1, .ref q_2, .ref q_3, .ref q_4, .null, .null, .null, .null, .null])), (q_1, .inl (cI, 10, .inl (fun _ => 0))), (q_2, .inl (cI, 100, .inl (fun _ => 0))), (q_3, .inl (cI, 100, .inl (fun _ => 0))), (q_4, .inl (cI, 100, .inl (fun _ => 0)))] H := hP
  have hD : va_D A [(h0, .inr (1, [.int 0, .ref q_1, .ref q_2, .ref q_3, .ref q_4, .null, .null, .null, .null, .null])), (q_1, .inl (cI, 10, .inl (fun _ => 0))), (q_2, .inl (cI, 100, .inl (fun _ => 0))), (q_3, .inl (cI, 100, .inl (fun _ => 0))), (q_4, .inl (cI, 100, .inl (fun _ => 0)))] := hD
  refine lv_aload_n hx hb dX1_init_41 rfl (lv_at hl 0 rfl) ?_
  refine va_new (D := D) (ci := 3) (fs := [.int 0, .null, .null]) (C := RX3) (T := TX3) (N := 3) hx hb hF.2.2.2.2 (fun w h => List.mem_cons_of_mem _ (inUX3 w h)) tyX3 tyX3_ok hown (hu _ uw936) (hu _ uw937) (hu _ uw42) hK hP hD hS hA rfl (by decide) (Nat.le_of_ble_eq_true rfl) (Nat.le_of_ble_eq_true rfl) dX1_init_42 (fun q_5 H hP hD hS => ?_)
  have hP : va_P D vwCl [(h0, .inr (1, [.int 0, .ref q_1, .ref q_2, .ref q_3, .ref q_4, .null, .null, .null, .null, .null])), (q_1, .inl (cI, 10, .inl (fun _ => 0))), (q_2, .inl (cI, 100, .inl (fun _ => 0))), (q_3, .inl (cI, 100, .inl (fun _ => 0))), (q_4, .inl (cI, 100, .inl (fun _ => 0))), (q_5, .inr (3, [.int 0, .null, .null]))] H := hP
  have hD : va_D A [(h0, .inr (1, [.int 0, .ref q_1, .ref q_2, .ref q_3, .ref q_4, .null, .null, .null, .null, .null])), (q_1, .inl (cI, 10, .inl (fun _ => 0))), (q_2, .inl (cI, 100, .inl (fun _ => 0))), (q_3, .inl (cI, 100, .inl (fun _ => 0))), (q_4, .inl (cI, 100, .inl (fun _ => 0))), (q_5, .inr (3, [.int 0, .null, .null]))] := hD
  refine W.widen (k := 5) (n := 313) (by omega) (by omega) ?_
  refine lv_dup hx hb dX1_init_45 rfl ?_
  refine xc_IN (wr := [(h0, .inr (1, [.int 0, .ref q_1, .ref q_2, .ref q_3, .ref q_4, .null, .null, .null, .null, .null])), (q_1, .inl (cI, 10, .inl (fun _ => 0))), (q_2, .inl (cI, 100, .inl (fun _ => 0))), (q_3, .inl (cI, 100, .inl (fun _ => 0))), (q_4, .inl (cI, 100, .inl (fun _ => 0)))]) hF (c_X3_init l D cI cJ cZ cS ta sa sv H.size q_5) ki_X1_30.1 ki_X1_30.2.1 ki_X1_30.2.2 ⟨rfl, rfl, Nat.le_of_ble_eq_true rfl, Nat.le_of_ble_eq_true rfl⟩ ⟨Nat.le_of_ble_eq_true rfl, Nat.le_of_ble_eq_true rfl⟩ hK hN hZ hP hD hS hA [5] [0, 1, 2, 3, 4] rfl rfl rfl rfl (by decide) rfl hl.1 rfl (Nat.le_of_ble_eq_true rfl) dX1_init_46 (fun u_6 H locs hw hP hD hS => ?_)
  obtain ⟨u9_7, rfl⟩ : ∃ z, z = u_6 := ⟨_, rfl⟩
  have hP : va_P D vwCl [(h0, .inr (1, [.int 0, .ref q_1, .ref q_2, .ref q_3, .ref q_4, .null, .null, .null, .null, .null])), (q_1, .inl (cI, 10, .inl (fun _ => 0))), (q_2, .inl (cI, 100, .inl (fun _ => 0))), (q_3, .inl (cI, 100, .inl (fun _ => 0))), (q_4, .inl (cI, 100, .inl (fun _ => 0))), (q_5, .inr (3, [.int 0, .ref (u9_7 0), .ref (u9_7 1)])), ((u9_7 0), .inl (cI, 8, .inl (fun _ => 0))), ((u9_7 1), .inl (cI, 48, .inl (fun _ => 0)))] H := hP
  have hD : va_D A [(h0, .inr (1, [.int 0, .ref q_1, .ref q_2, .ref q_3, .ref q_4, .null, .null, .null, .null, .null])), (q_1, .inl (cI, 10, .inl (fun _ => 0))), (q_2, .inl (cI, 100, .inl (fun _ => 0))), (q_3, .inl (cI, 100, .inl (fun _ => 0))), (q_4, .inl (cI, 100, .inl (fun _ => 0))), (q_5, .inr (3, [.int 0, .ref (u9_7 0), .ref (u9_7 1)])), ((u9_7 0), .inl (cI, 8, .inl (fun _ => 0))), ((u9_7 1), .inl (cI, 48, .inl (fun _ => 0)))] := hD
  refine W.widen (k := 7) (n := 369) (by omega) (by omega) ?_
  refine xpF hF kf_X1_31 tyX1_ok nmX1 hK hP hD hS 0 rfl rfl hin rfl rfl rfl (Nat.le_of_ble_eq_true rfl) dX1_init_49 (fun H locs hP hD hS => ?_)
  have hP : va_P D vwCl [(h0, .inr (1, [.int 0, .ref q_1, .ref q_2, .ref q_3, .ref q_4, .ref q_5, .null, .null, .null, .null])), (q_1, .inl (cI, 10, .inl (fun _ => 0))), (q_2, .inl (cI, 100, .inl (fun _ => 0))), (q_3, .inl (cI, 100, .inl (fun _ => 0))), (q_4, .inl (cI, 100, .inl (fun _ => 0))), (q_5, .inr (3, [.int 0, .ref (u9_7 0), .ref (u9_7 1)])), ((u9_7 0), .inl (cI, 8, .inl (fun _ => 0))), ((u9_7 1), .inl (cI, 48, .inl (fun _ => 0)))] H := hP
  have hD : va_D A [(h0, .inr (1, [.int 0, .ref q_1, .ref q_2, .ref q_3, .ref q_4, .ref q_5, .null, .null, .null, .null])), (q_1, .inl (cI, 10, .inl (fun _ => 0))), (q_2, .inl (cI, 100, .inl (fun _ => 0))), (q_3, .inl (cI, 100, .inl (fun _ => 0))), (q_4, .inl (cI, 100, .inl (fun _ => 0))), (q_5, .inr (3, [.int 0, .ref (u9_7 0), .ref (u9_7 1)])), ((u9_7 0), .inl (cI, 8, .inl (fun _ => 0))), ((u9_7 1), .inl (cI, 48, .inl (fun _ => 0)))] := hD
  refine lv_aload_n hx hb dX1_init_52 rfl (lv_at hl 0 rfl) ?_
  refine lv_bipush (v := 8) hx hb dX1_init_53 (by decide) ?_
  refine xna (atype := .int) (ty := .int) (a0 := (8, .inl (fun _ => 0))) hF rfl uw932 hK hP hD hS hA 0 rfl (fun _ => xuq_int) (fun _ => rfl) (by decide) (by decide) (by decide) (Nat.le_of_ble_eq_true rfl) (Nat.le_of_ble_eq_true rfl) dX1_init_55 (fun q_8 H hP hD hS => ?_)
  have hP : va_P D vwCl [(h0, .inr (1, [.int 0, .ref q_1, .ref q_2, .ref q_3, .ref q_4, .ref q_5, .null, .null, .null, .null])), (q_1, .inl (cI, 10, .inl (fun _ => 0))), (q_2, .inl (cI, 100, .inl (fun _ => 0))), (q_3, .inl (cI, 100, .inl (fun _ => 0))), (q_4, .inl (cI, 100, .inl (fun _ => 0))), (q_5, .inr (3, [.int 0, .ref (u9_7 0), .ref (u9_7 1)])), ((u9_7 0), .inl (cI, 8, .inl (fun _ => 0))), ((u9_7 1), .inl (cI, 48, .inl (fun _ => 0))), (q_8, .inl (cI, 8, .inl (fun _ => 0)))] H := hP
  have hD : va_D A [(h0, .inr (1, [.int 0, .ref q_1, .ref q_2, .ref q_3, .ref q_4, .ref q_5, .null, .null, .null, .null])), (q_1, .inl (cI, 10, .inl (fun _ => 0))), (q_2, .inl (cI, 100, .inl (fun _ => 0))), (q_3, .inl (cI, 100, .inl (fun _ => 0))), (q_4, .inl (cI, 100, .inl (fun _ => 0))), (q_5, .inr (3, [.int 0, .ref (u9_7 0), .ref (u9_7 1)])), ((u9_7 0), .inl (cI, 8, .inl (fun _ => 0))), ((u9_7 1), .inl (cI, 48, .inl (fun _ => 0))), (q_8, .inl (cI, 8, .inl (fun _ => 0)))] := hD
  refine W.widen (k := 8) (n := 377) (by omega) (by omega) ?_
  refine xpF hF kf_X1_35 tyX1_ok nmX1 hK hP hD hS 0 rfl rfl hin rfl rfl rfl (Nat.le_of_ble_eq_true rfl) dX1_init_57 (fun H locs hP hD hS => ?_)
  have hP : va_P D vwCl [(h0, .inr (1, [.int 0, .ref q_1, .ref q_2, .ref q_3, .ref q_4, .ref q_5, .ref q_8, .null, .null, .null])), (q_1, .inl (cI, 10, .inl (fun _ => 0))), (q_2, .inl (cI, 100, .inl (fun _ => 0))), (q_3, .inl (cI, 100, .inl (fun _ => 0))), (q_4, .inl (cI, 100, .inl (fun _ => 0))), (q_5, .inr (3, [.int 0, .ref (u9_7 0), .ref (u9_7 1)])), ((u9_7 0), .inl (cI, 8, .inl (fun _ => 0))), ((u9_7 1), .inl (cI, 48, .inl (fun _ => 0))), (q_8, .inl (cI, 8, .inl (fun _ => 0)))] H := hP
  have hD : va_D A [(h0, .inr (1, [.int 0, .ref q_1, .ref q_2, .ref q_3, .ref q_4, .ref q_5, .ref q_8, .null, .null, .null])), (q_1, .inl (cI, 10, .inl (fun _ => 0))), (q_2, .inl (cI, 100, .inl (fun _ => 0))), (q_3, .inl (cI, 100, .inl (fun _ => 0))), (q_4, .inl (cI, 100, .inl (fun _ => 0))), (q_5, .inr (3, [.int 0, .ref (u9_7 0), .ref (u9_7 1)])), ((u9_7 0), .inl (cI, 8, .inl (fun _ => 0))), ((u9_7 1), .inl (cI, 48, .inl (fun _ => 0))), (q_8, .inl (cI, 8, .inl (fun _ => 0)))] := hD
  refine lv_aload_n hx hb dX1_init_60 rfl (lv_at hl 0 rfl) ?_
  refine va_new (D := D) (ci := 3) (fs := [.int 0, .null, .null]) (C := RX3) (T := TX3) (N := 3) hx hb hF.2.2.2.2 (fun w h => List.mem_cons_of_mem _ (inUX3 w h)) tyX3 tyX3_ok hown (hu _ uw936) (hu _ uw937) (hu _ uw42) hK hP hD hS hA rfl (by decide) (Nat.le_of_ble_eq_true rfl) (Nat.le_of_ble_eq_true rfl) dX1_init_61 (fun q_9 H hP hD hS => ?_)
  have hP : va_P D vwCl [(h0, .inr (1, [.int 0, .ref q_1, .ref q_2, .ref q_3, .ref q_4, .ref q_5, .ref q_8, .null, .null, .null])), (q_1, .inl (cI, 10, .inl (fun _ => 0))), (q_2, .inl (cI, 100, .inl (fun _ => 0))), (q_3, .inl (cI, 100, .inl (fun _ => 0))), (q_4, .inl (cI, 100, .inl (fun _ => 0))), (q_5, .inr (3, [.int 0, .ref (u9_7 0), .ref (u9_7 1)])), ((u9_7 0), .inl (cI, 8, .inl (fun _ => 0))), ((u9_7 1), .inl (cI, 48, .inl (fun _ => 0))), (q_8, .inl (cI, 8, .inl (fun _ => 0))), (q_9, .inr (3, [.int 0, .null, .null]))] H := hP
  have hD : va_D A [(h0, .inr (1, [.int 0, .ref q_1, .ref q_2, .ref q_3, .ref q_4, .ref q_5, .ref q_8, .null, .null, .null])), (q_1, .inl (cI, 10, .inl (fun _ => 0))), (q_2, .inl (cI, 100, .inl (fun _ => 0))), (q_3, .inl (cI, 100, .inl (fun _ => 0))), (q_4, .inl (cI, 100, .inl (fun _ => 0))), (q_5, .inr (3, [.int 0, .ref (u9_7 0), .ref (u9_7 1)])), ((u9_7 0), .inl (cI, 8, .inl (fun _ => 0))), ((u9_7 1), .inl (cI, 48, .inl (fun _ => 0))), (q_8, .inl (cI, 8, .inl (fun _ => 0))), (q_9, .inr (3, [.int 0, .null, .null]))] := hD
  refine W.widen (k := 9) (n := 380) (by omega) (by omega) ?_
  refine lv_dup hx hb dX1_init_64 rfl ?_
  refine xc_IN (wr := [(h0, .inr (1, [.int 0, .ref q_1, .ref q_2, .ref q_3, .ref q_4, .ref q_5, .ref q_8, .null, .null, .null])), (q_1, .inl (cI, 10, .inl (fun _ => 0))), (q_2, .inl (cI, 100, .inl (fun _ => 0))), (q_3, .inl (cI, 100, .inl (fun _ => 0))), (q_4, .inl (cI, 100, .inl (fun _ => 0))), (q_5, .inr (3, [.int 0, .ref (u9_7 0), .ref (u9_7 1)])), ((u9_7 0), .inl (cI, 8, .inl (fun _ => 0))), ((u9_7 1), .inl (cI, 48, .inl (fun _ => 0))), (q_8, .inl (cI, 8, .inl (fun _ => 0)))]) hF (c_X3_init l D cI cJ cZ cS ta sa sv H.size q_9) ki_X1_30.1 ki_X1_30.2.1 ki_X1_30.2.2 ⟨rfl, rfl, Nat.le_of_ble_eq_true rfl, Nat.le_of_ble_eq_true rfl⟩ ⟨Nat.le_of_ble_eq_true rfl, Nat.le_of_ble_eq_true rfl⟩ hK hN hZ hP hD hS hA [9] [0, 1, 2, 3, 4, 5, 6, 7, 8] rfl rfl rfl rfl (by decide) rfl hl.1 rfl (Nat.le_of_ble_eq_true rfl) dX1_init_65 (fun u_10 H locs hw hP hD hS => ?_)
  obtain ⟨u9_11, rfl⟩ : ∃ z, z = u_10 := ⟨_, rfl⟩
  have hP : va_P D vwCl [(h0, .inr (1, [.int 0, .ref q_1, .ref q_2, .ref q_3, .ref q_4, .ref q_5, .ref q_8, .null, .null, .null])), (q_1, .inl (cI, 10, .inl (fun _ => 0))), (q_2, .inl (cI, 100, .inl (fun _ => 0))), (q_3, .inl (cI, 100, .inl (fun _ => 0))), (q_4, .inl (cI, 100, .inl (fun _ => 0))), (q_5, .inr (3, [.int 0, .ref (u9_7 0), .ref (u9_7 1)])), ((u9_7 0), .inl (cI, 8, .inl (fun _ => 0))), ((u9_7 1), .inl (cI, 48, .inl (fun _ => 0))), (q_8, .inl (cI, 8, .inl (fun _ => 0))), (q_9, .inr (3, [.int 0, .ref (u9_11 0), .ref (u9_11 1)])), ((u9_11 0), .inl (cI, 8, .inl (fun _ => 0))), ((u9_11 1), .inl (cI, 48, .inl (fun _ => 0)))] H := hP
  have hD : va_D A [(h0, .inr (1, [.int 0, .ref q_1, .ref q_2, .ref q_3, .ref q_4, .ref q_5, .ref q_8, .null, .null, .null])), (q_1, .inl (cI, 10, .inl (fun _ => 0))), (q_2, .inl (cI, 100, .inl (fun _ => 0))), (q_3, .inl (cI, 100, .inl (fun _ => 0))), (q_4, .inl (cI, 100, .inl (fun _ => 0))), (q_5, .inr (3, [.int 0, .ref (u9_7 0), .ref (u9_7 1)])), ((u9_7 0), .inl (cI, 8, .inl (fun _ => 0))), ((u9_7 1), .inl (cI, 48, .inl (fun _ => 0))), (q_8, .inl (cI, 8, .inl (fun _ => 0))), (q_9, .inr (3, [.int 0, .ref (u9_11 0), .ref (u9_11 1)])), ((u9_11 0), .inl (cI, 8, .inl (fun _ => 0))), ((u9_11 1), .inl (cI, 48, .inl (fun _ => 0)))] := hD
  refine W.widen (k := 11) (n := 436) (by omega) (by omega) ?_
  refine xpF hF kf_X1_38 tyX1_ok nmX1 hK hP hD hS 0 rfl rfl hin rfl rfl rfl (Nat.le_of_ble_eq_true rfl) dX1_init_68 (fun H locs hP hD hS => ?_)
  have hP : va_P D vwCl [(h0, .inr (1, [.int 0, .ref q_1, .ref q_2, .ref q_3, .ref q_4, .ref q_5, .ref q_8, .ref q_9, .null, .null])), (q_1, .inl (cI, 10, .inl (fun _ => 0))), (q_2, .inl (cI, 100, .inl (fun _ => 0))), (q_3, .inl (cI, 100, .inl (fun _ => 0))), (q_4, .inl (cI, 100, .inl (fun _ => 0))), (q_5, .inr (3, [.int 0, .ref (u9_7 0), .ref (u9_7 1)])), ((u9_7 0), .inl (cI, 8, .inl (fun _ => 0))), ((u9_7 1), .inl (cI, 48, .inl (fun _ => 0))), (q_8, .inl (cI, 8, .inl (fun _ => 0))), (q_9, .inr (3, [.int 0, .ref (u9_11 0), .ref (u9_11 1)])), ((u9_11 0), .inl (cI, 8, .inl (fun _ => 0))), ((u9_11 1), .inl (cI, 48, .inl (fun _ => 0)))] H := hP
  have hD : va_D A [(h0, .inr (1, [.int 0, .ref q_1, .ref q_2, .ref q_3, .ref q_4, .ref q_5, .ref q_8, .ref q_9, .null, .null])), (q_1, .inl (cI, 10, .inl (fun _ => 0))), (q_2, .inl (cI, 100, .inl (fun _ => 0))), (q_3, .inl (cI, 100, .inl (fun _ => 0))), (q_4, .inl (cI, 100, .inl (fun _ => 0))), (q_5, .inr (3, [.int 0, .ref (u9_7 0), .ref (u9_7 1)])), ((u9_7 0), .inl (cI, 8, .inl (fun _ => 0))), ((u9_7 1), .inl (cI, 48, .inl (fun _ => 0))), (q_8, .inl (cI, 8, .inl (fun _ => 0))), (q_9, .inr (3, [.int 0, .ref (u9_11 0), .ref (u9_11 1)])), ((u9_11 0), .inl (cI, 8, .inl (fun _ => 0))), ((u9_11 1), .inl (cI, 48, .inl (fun _ => 0)))] := hD
  refine lv_aload_n hx hb dX1_init_71 rfl (lv_at hl 0 rfl) ?_
  refine lv_bipush (v := 8) hx hb dX1_init_72 (by decide) ?_
  refine xna (atype := .int) (ty := .int) (a0 := (8, .inl (fun _ => 0))) hF rfl uw932 hK hP hD hS hA 0 rfl (fun _ => xuq_int) (fun _ => rfl) (by decide) (by decide) (by decide) (Nat.le_of_ble_eq_true rfl) (Nat.le_of_ble_eq_true rfl) dX1_init_74 (fun q_12 H hP hD hS => ?_)
  have hP : va_P D vwCl [(h0, .inr (1, [.int 0, .ref q_1, .ref q_2, .ref q_3, .ref q_4, .ref q_5, .ref q_8, .ref q_9, .null, .null])), (q_1, .inl (cI, 10, .inl (fun _ => 0))), (q_2, .inl (cI, 100, .inl (fun _ => 0))), (q_3, .inl (cI, 100, .inl (fun _ => 0))), (q_4, .inl (cI, 100, .inl (fun _ => 0))), (q_5, .inr (3, [.int 0, .ref (u9_7 0), .ref (u9_7 1)])), ((u9_7 0), .inl (cI, 8, .inl (fun _ => 0))), ((u9_7 1), .inl (cI, 48, .inl (fun _ => 0))), (q_8, .inl (cI, 8, .inl (fun _ => 0))), (q_9, .inr (3, [.int 0, .ref (u9_11 0), .ref (u9_11 1)])), ((u9_11 0), .inl (cI, 8, .inl (fun _ => 0))), ((u9_11 1), .inl (cI, 48, .inl (fun _ => 0))), (q_12, .inl (cI, 8, .inl (fun _ => 0)))] H := hP
  have hD : va_D A [(h0, .inr (1, [.int 0, .ref q_1, .ref q_2, .ref q_3, .ref q_4, .ref q_5, .ref q_8, .ref q_9, .null, .null])), (q_1, .inl (cI, 10, .inl (fun _ => 0))), (q_2, .inl (cI, 100, .inl (fun _ => 0))), (q_3, .inl (cI, 100, .inl (fun _ => 0))), (q_4, .inl (cI, 100, .inl (fun _ => 0))), (q_5, .inr (3, [.int 0, .ref (u9_7 0), .ref (u9_7 1)])), ((u9_7 0), .inl (cI, 8, .inl (fun _ => 0))), ((u9_7 1), .inl (cI, 48, .inl (fun _ => 0))), (q_8, .inl (cI, 8, .inl (fun _ => 0))), (q_9, .inr (3, [.int 0, .ref (u9_11 0), .ref (u9_11 1)])), ((u9_11 0), .inl (cI, 8, .inl (fun _ => 0))), ((u9_11 1), .inl (cI, 48, .inl (fun _ => 0))), (q_12, .inl (cI, 8, .inl (fun _ => 0)))] := hD
  refine W.widen (k := 12) (n := 444) (by omega) (by omega) ?_
  refine xpF hF kf_X1_41 tyX1_ok nmX1 hK hP hD hS 0 rfl rfl hin rfl rfl rfl (Nat.le_of_ble_eq_true rfl) dX1_init_76 (fun H locs hP hD hS => ?_)
  have hP : va_P D vwCl [(h0, .inr (1, [.int 0, .ref q_1, .ref q_2, .ref q_3, .ref q_4, .ref q_5, .ref q_8, .ref q_9, .ref q_12, .null])), (q_1, .inl (cI, 10, .inl (fun _ => 0))), (q_2, .inl (cI, 100, .inl (fun _ => 0))), (q_3, .inl (cI, 100, .inl (fun _ => 0))), (q_4, .inl (cI, 100, .inl (fun _ => 0))), (q_5, .inr (3, [.int 0, .ref (u9_7 0), .ref (u9_7 1)])), ((u9_7 0), .inl (cI, 8, .inl (fun _ => 0))), ((u9_7 1), .inl (cI, 48, .inl (fun _ => 0))), (q_8, .inl (cI, 8, .inl (fun _ => 0))), (q_9, .inr (3, [.int 0, .ref (u9_11 0), .ref (u9_11 1)])), ((u9_11 0), .inl (cI, 8, .inl (fun _ => 0))), ((u9_11 1), .inl (cI, 48, .inl (fun _ => 0))), (q_12, .inl (cI, 8, .inl (fun _ => 0)))] H := hP
  have hD : va_D A [(h0, .inr (1, [.int 0, .ref q_1, .ref q_2, .ref q_3, .ref q_4, .ref q_5, .ref q_8, .ref q_9, .ref q_12, .null])), (q_1, .inl (cI, 10, .inl (fun _ => 0))), (q_2, .inl (cI, 100, .inl (fun _ => 0))), (q_3, .inl (cI, 100, .inl (fun _ => 0))), (q_4, .inl (cI, 100, .inl (fun _ => 0))), (q_5, .inr (3, [.int 0, .ref (u9_7 0), .ref (u9_7 1)])), ((u9_7 0), .inl (cI, 8, .inl (fun _ => 0))), ((u9_7 1), .inl (cI, 48, .inl (fun _ => 0))), (q_8, .inl (cI, 8, .inl (fun _ => 0))), (q_9, .inr (3, [.int 0, .ref (u9_11 0), .ref (u9_11 1)])), ((u9_11 0), .inl (cI, 8, .inl (fun _ => 0))), ((u9_11 1), .inl (cI, 48, .inl (fun _ => 0))), (q_12, .inl (cI, 8, .inl (fun _ => 0)))] := hD
  refine lv_aload_n hx hb dX1_init_79 rfl (lv_at hl 0 rfl) ?_
  refine lv_bipush (v := 8) hx hb dX1_init_80 (by decide) ?_
  refine xna (atype := .int) (ty := .int) (a0 := (8, .inl (fun _ => 0))) hF rfl uw932 hK hP hD hS hA 0 rfl (fun _ => xuq_int) (fun _ => rfl) (by decide) (by decide) (by decide) (Nat.le_of_ble_eq_true rfl) (Nat.le_of_ble_eq_true rfl) dX1_init_82 (fun q_13 H hP hD hS => ?_)
  have hP : va_P D vwCl [(h0, .inr (1, [.int 0, .ref q_1, .ref q_2, .ref q_3, .ref q_4, .ref q_5, .ref q_8, .ref q_9, .ref q_12, .null])), (q_1, .inl (cI, 10, .inl (fun _ => 0))), (q_2, .inl (cI, 100, .inl (fun _ => 0))), (q_3, .inl (cI, 100, .inl (fun _ => 0))), (q_4, .inl (cI, 100, .inl (fun _ => 0))), (q_5, .inr (3, [.int 0, .ref (u9_7 0), .ref (u9_7 1)])), ((u9_7 0), .inl (cI, 8, .inl (fun _ => 0))), ((u9_7 1), .inl (cI, 48, .inl (fun _ => 0))), (q_8, .inl (cI, 8, .inl (fun _ => 0))), (q_9, .inr (3, [.int 0, .ref (u9_11 0), .ref (u9_11 1)])), ((u9_11 0), .inl (cI, 8, .inl (fun _ => 0))), ((u9_11 1), .inl (cI, 48, .inl (fun _ => 0))), (q_12, .inl (cI, 8, .inl (fun _ => 0))), (q_13, .inl (cI, 8, .inl (fun _ => 0)))] H := hP
  have hD : va_D A [(h0, .inr (1, [.int 0, .ref q_1, .ref q_2, .ref q_3, .ref q_4, .ref q_5, .ref q_8, .ref q_9, .ref q_12, .null])), (q_1, .inl (cI, 10, .inl (fun _ => 0))), (q_2, .inl (cI, 100, .inl (fun _ => 0))), (q_3, .inl (cI, 100, .inl (fun _ => 0))), (q_4, .inl (cI, 100, .inl (fun _ => 0))), (q_5, .inr (3, [.int 0, .ref (u9_7 0), .ref (u9_7 1)])), ((u9_7 0), .inl (cI, 8, .inl (fun _ => 0))), ((u9_7 1), .inl (cI, 48, .inl (fun _ => 0))), (q_8, .inl (cI, 8, .inl (fun _ => 0))), (q_9, .inr (3, [.int 0, .ref (u9_11 0), .ref (u9_11 1)])), ((u9_11 0), .inl (cI, 8, .inl (fun _ => 0))), ((u9_11 1), .inl (cI, 48, .inl (fun _ => 0))), (q_12, .inl (cI, 8, .inl (fun _ => 0))), (q_13, .inl (cI, 8, .inl (fun _ => 0)))] := hD
  refine W.widen (k := 13) (n := 452) (by omega) (by omega) ?_
  refine xpF hF kf_X1_44 tyX1_ok nmX1 hK hP hD hS 0 rfl rfl hin rfl rfl rfl (Nat.le_of_ble_eq_true rfl) dX1_init_84 (fun H locs hP hD hS => ?_)
  have hP : va_P D vwCl [(h0, .inr (1, [.int 0, .ref q_1, .ref q_2, .ref q_3, .ref q_4, .ref q_5, .ref q_8, .ref q_9, .ref q_12, .ref q_13])), (q_1, .inl (cI, 10, .inl (fun _ => 0))), (q_2, .inl (cI, 100, .inl (fun _ => 0))), (q_3, .inl (cI, 100, .inl (fun _ => 0))), (q_4, .inl (cI, 100, .inl (fun _ => 0))), (q_5, .inr (3, [.int 0, .ref (u9_7 0), .ref (u9_7 1)])), ((u9_7 0), .inl (cI, 8, .inl (fun _ => 0))), ((u9_7 1), .inl (cI, 48, .inl (fun _ => 0))), (q_8, .inl (cI, 8, .inl (fun _ => 0))), (q_9, .inr (3, [.int 0, .ref (u9_11 0), .ref (u9_11 1)])), ((u9_11 0), .inl (cI, 8, .inl (fun _ => 0))), ((u9_11 1), .inl (cI, 48, .inl (fun _ => 0))), (q_12, .inl (cI, 8, .inl (fun _ => 0))), (q_13, .inl (cI, 8, .inl (fun _ => 0)))] H := hP
  have hD : va_D A [(h0, .inr (1, [.int 0, .ref q_1, .ref q_2, .ref q_3, .ref q_4, .ref q_5, .ref q_8, .ref q_9, .ref q_12, .ref q_13])), (q_1, .inl (cI, 10, .inl (fun _ => 0))), (q_2, .inl (cI, 100, .inl (fun _ => 0))), (q_3, .inl (cI, 100, .inl (fun _ => 0))), (q_4, .inl (cI, 100, .inl (fun _ => 0))), (q_5, .inr (3, [.int 0, .ref (u9_7 0), .ref (u9_7 1)])), ((u9_7 0), .inl (cI, 8, .inl (fun _ => 0))), ((u9_7 1), .inl (cI, 48, .inl (fun _ => 0))), (q_8, .inl (cI, 8, .inl (fun _ => 0))), (q_9, .inr (3, [.int 0, .ref (u9_11 0), .ref (u9_11 1)])), ((u9_11 0), .inl (cI, 8, .inl (fun _ => 0))), ((u9_11 1), .inl (cI, 48, .inl (fun _ => 0))), (q_12, .inl (cI, 8, .inl (fun _ => 0))), (q_13, .inl (cI, 8, .inl (fun _ => 0)))] := hD
  refine W.widen (k := 13) (n := 452) (Nat.le_of_ble_eq_true rfl) (Nat.le_of_ble_eq_true rfl) ?_
  exact W.vret hx hb hr (fun t ht hW => ⟨⟨(fun i => (q_1 :: q_2 :: q_3 :: q_4 :: q_5 :: (u9_7 0) :: (u9_7 1) :: q_8 :: q_9 :: (u9_11 0) :: (u9_11 1) :: q_12 :: q_13 :: ([] : List Nat)).getD i 0), rfl, trivial, by rw [ht]; exact hP.sub [0, 1, 2, 3, 4, 5, 6, 7, 8, 9, 10, 11, 12, 13] rfl, hD.sub [0, 1, 2, 3, 4, 5, 6, 7, 8, 9, 10, 11, 12, 13] (by decide +kernel) rfl⟩, hS.F ht⟩) hS.2.2 dX1_init_87 hlk
set_option maxHeartbeats 4000000 in
set_option maxRecDepth 100000 in
theorem c_X0_init (l : Launch) (D : va_G) (cI cJ cZ cS : ClassId) (ta : Nat) (sa sv : Nat → Nat) (sz : Nat) (h0 : Nat) : Met l yX0_init (Cond.code yX0_init cX0_init 1 none :: wsU) ({ frames := 1, cells := 1, slots := 100, locals := 20 }) (va_Pc [.ref h0] (XW D (xT cI cJ cZ cS) ta sa sv [(h0, .inr (0, [.int 0, .null]))] sz)) (XQv (fun (u9 : (Nat → Nat)) => True) D (fun (u9 : Nat → Nat) => [(h0, .inr (0, [.int 0, .ref (u9 0)])), ((u9 0), .inl (cI, 100, .inl (fun _ => 0)))]) (va_A [(h0, .inr (0, [.int 0, .null]))] sz)) 1 100 (va_A [(h0, .inr (0, [.int 0, .null]))] sz) := by
  refine xh (QA := fun A => XQv (fun (u9 : (Nat → Nat)) => True) D (fun (u9 : Nat → Nat) => [(h0, .inr (0, [.int 0, .ref (u9 0)])), ((u9 0), .inl (cI, 100, .inl (fun _ => 0)))]) A) (fr := fun A => A) (by decide) (Nat.le_of_ble_eq_true rfl) ?_
  intro p e s m below meth c ls A hF hr hlk hin hsz hP hK hD hN hZ hA hS hl
  have hF : CallFix p m c cX0_init 1 s _ _ RX0 := hF
  have hx := hF.1
  have hb := hF.2.1
  have hml := hF.2.2.1
  have hown := hF.2.2.2.1
  have hu : ∀ w ∈ wsU, w.before _ s = true := fun w h => hF.2.2.2.2 w (List.mem_cons_of_mem _ h)
  have hl : lv_has ls 1 [(0, .ref h0)] := hl
  refine lv_aload_n hx hb dX0_init_0 rfl (lv_at hl 0 rfl) ?_
  refine W.objInit hx hb hown (hu _ uw941) (hu _ uw930) (hu _ uw931) rfl (by rw [hml]; exact hl.1) rfl dX0_init_1 (Nat.le_of_ble_eq_true rfl) (Nat.le_of_ble_eq_true rfl) ?_
  refine W.eq (g2 := F0 m 4 ls []) rfl ?_
  refine lv_aload_n hx hb dX0_init_4 rfl (lv_at hl 0 rfl) ?_
  refine lv_iconst (v := 0) hx hb dX0_init_5 (by decide) ?_
  refine xp hF kf_X0_9 tyX0_ok nmX0 hK hP hD hS 0 rfl rfl rfl rfl (Nat.le_of_ble_eq_true rfl) dX0_init_6 (fun H locs hP hD hS => ?_)
  have hP : va_P D vwCl [(h0, .inr (0, [.int 0, .null]))] H := hP
  have hD : va_D A [(h0, .inr (0, [.int 0, .null]))] := hD
  refine lv_aload_n hx hb dX0_init_9 rfl (lv_at hl 0 rfl) ?_
  refine lv_bipush (v := 100) hx hb dX0_init_10 (by decide) ?_
  refine xna (atype := .int) (ty := .int) (a0 := (100, .inl (fun _ => 0))) hF rfl uw932 hK hP hD hS hA 0 rfl (fun _ => xuq_int) (fun _ => rfl) (by decide) (by decide) (by decide) (Nat.le_of_ble_eq_true rfl) (Nat.le_of_ble_eq_true rfl) dX0_init_12 (fun q_1 H hP hD hS => ?_)
  have hP : va_P D vwCl [(h0, .inr (0, [.int 0, .null])), (q_1, .inl (cI, 100, .inl (fun _ => 0)))] H := hP
  have hD : va_D A [(h0, .inr (0, [.int 0, .null])), (q_1, .inl (cI, 100, .inl (fun _ => 0)))] := hD
  refine W.widen (k := 1) (n := 100) (by omega) (by omega) ?_
  refine xpF hF kf_X0_15 tyX0_ok nmX0 hK hP hD hS 0 rfl rfl hin rfl rfl rfl (Nat.le_of_ble_eq_true rfl) dX0_init_14 (fun H locs hP hD hS => ?_)
  have hP : va_P D vwCl [(h0, .inr (0, [.int 0, .ref q_1])), (q_1, .inl (cI, 100, .inl (fun _ => 0)))] H := hP
  have hD : va_D A [(h0, .inr (0, [.int 0, .ref q_1])), (q_1, .inl (cI, 100, .inl (fun _ => 0)))] := hD
  refine W.widen (k := 1) (n := 100) (Nat.le_of_ble_eq_true rfl) (Nat.le_of_ble_eq_true rfl) ?_
  exact W.vret hx hb hr (fun t ht hW => ⟨⟨(fun i => (q_1 :: ([] : List Nat)).getD i 0), rfl, trivial, by rw [ht]; exact hP.sub [0, 1] rfl, hD.sub [0, 1] (by decide) rfl⟩, hS.F ht⟩) hS.2.2 dX0_init_17 hlk
set_option maxHeartbeats 4000000 in
set_option maxRecDepth 100000 in
theorem c_X6_init (l : Launch) (D : va_G) (cI cJ cZ cS : ClassId) (ta : Nat) (sa sv : Nat → Nat) (sz : Nat) (h0 : Nat) : Met l yX6_init (Cond.code yX6_init cX6_init 1 none :: wsU) ({ frames := 1, cells := 1, slots := 384, locals := 20 }) (va_Pc [.ref h0] (XW D (xT cI cJ cZ cS) ta sa sv [(h0, .inr (6, [.null]))] sz)) (XQv (fun (u9 : (Nat → Nat)) => True) D (fun (u9 : Nat → Nat) => [(h0, .inr (6, [.ref (u9 0)])), ((u9 0), .inl (cI, 384, .inl (fun _ => 0)))]) (va_A [(h0, .inr (6, [.null]))] sz)) 1 384 (va_A [(h0, .inr (6, [.null]))] sz) := by
  refine xh (QA := fun A => XQv (fun (u9 : (Nat → Nat)) => True) D (fun (u9 : Nat → Nat) => [(h0, .inr (6, [.ref (u9 0)])), ((u9 0), .inl (cI, 384, .inl (fun _ => 0)))]) A) (fr := fun A => A) (by decide) (Nat.le_of_ble_eq_true rfl) ?_
  intro p e s m below meth c ls A hF hr hlk hin hsz hP hK hD hN hZ hA hS hl
  have hF : CallFix p m c cX6_init 1 s _ _ RX6 := hF
  have hx := hF.1
  have hb := hF.2.1
  have hml := hF.2.2.1
  have hown := hF.2.2.2.1
  have hu : ∀ w ∈ wsU, w.before _ s = true := fun w h => hF.2.2.2.2 w (List.mem_cons_of_mem _ h)
  have hl : lv_has ls 1 [(0, .ref h0)] := hl
  refine lv_aload_n hx hb dX6_init_0 rfl (lv_at hl 0 rfl) ?_
  refine W.objInit hx hb hown (hu _ uw942) (hu _ uw930) (hu _ uw931) rfl (by rw [hml]; exact hl.1) rfl dX6_init_1 (Nat.le_of_ble_eq_true rfl) (Nat.le_of_ble_eq_true rfl) ?_
  refine W.eq (g2 := F0 m 4 ls []) rfl ?_
  refine lv_aload_n hx hb dX6_init_4 rfl (lv_at hl 0 rfl) ?_
  refine lv_sipush (v := 384) hx hb dX6_init_5 (by decide) ?_
  refine xna (atype := .int) (ty := .int) (a0 := (384, .inl (fun _ => 0))) hF rfl uw932 hK hP hD hS hA 0 rfl (fun _ => xuq_int) (fun _ => rfl) (by decide) (by decide) (by decide) (Nat.le_of_ble_eq_true rfl) (Nat.le_of_ble_eq_true rfl) dX6_init_8 (fun q_1 H hP hD hS => ?_)
  have hP : va_P D vwCl [(h0, .inr (6, [.null])), (q_1, .inl (cI, 384, .inl (fun _ => 0)))] H := hP
  have hD : va_D A [(h0, .inr (6, [.null])), (q_1, .inl (cI, 384, .inl (fun _ => 0)))] := hD
  refine W.widen (k := 1) (n := 384) (by omega) (by omega) ?_
  refine xpF hF kf_X6_9 tyX6_ok nmX6 hK hP hD hS 0 rfl rfl hin rfl rfl rfl (Nat.le_of_ble_eq_true rfl) dX6_init_10 (fun H locs hP hD hS => ?_)
  have hP : va_P D vwCl [(h0, .inr (6, [.ref q_1])), (q_1, .inl (cI, 384, .inl (fun _ => 0)))] H := hP
  have hD : va_D A [(h0, .inr (6, [.ref q_1])), (q_1, .inl (cI, 384, .inl (fun _ => 0)))] := hD
  refine W.widen (k := 1) (n := 384) (Nat.le_of_ble_eq_true rfl) (Nat.le_of_ble_eq_true rfl) ?_
  exact W.vret hx hb hr (fun t ht hW => ⟨⟨(fun i => (q_1 :: ([] : List Nat)).getD i 0), rfl, trivial, by rw [ht]; exact hP.sub [0, 1] rfl, hD.sub [0, 1] (by decide) rfl⟩, hS.F ht⟩) hS.2.2 dX6_init_13 hlk
set_option maxHeartbeats 4000000 in
set_option maxRecDepth 100000 in
theorem c_X5_init (l : Launch) (D : va_G) (cI cJ cZ cS : ClassId) (ta : Nat) (sa sv : Nat → Nat) (sz : Nat) (h0 : Nat) : Met l yX5_init (Cond.code yX5_init cX5_init 1 none :: wsU) ({ frames := 1, cells := 3, slots := 30, locals := 20 }) (va_Pc [.ref h0] (XW D (xT cI cJ cZ cS) ta sa sv [(h0, .inr (5, [.null, .null, .null]))] sz)) (XQv (fun (u9 : (Nat → Nat)) => True) D (fun (u9 : Nat → Nat) => [(h0, .inr (5, [.ref (u9 0), .ref (u9 1), .ref (u9 2)])), ((u9 0), .inl (cI, 10, .inl (fun _ => 0))), ((u9 1), .inl (cZ, 10, .inl (fun _ => 0))), ((u9 2), .inl (cI, 10, .inl (fun _ => 0)))]) (va_A [(h0, .inr (5, [.null, .null, .null]))] sz)) 3 30 (va_A [(h0, .inr (5, [.null, .null, .null]))] sz) := by
  refine xh (QA := fun A => XQv (fun (u9 : (Nat → Nat)) => True) D (fun (u9 : Nat → Nat) => [(h0, .inr (5, [.ref (u9 0), .ref (u9 1), .ref (u9 2)])), ((u9 0), .inl (cI, 10, .inl (fun _ => 0))), ((u9 1), .inl (cZ, 10, .inl (fun _ => 0))), ((u9 2), .inl (cI, 10, .inl (fun _ => 0)))]) A) (fr := fun A => A) (by decide) (Nat.le_of_ble_eq_true rfl) ?_
  intro p e s m below meth c ls A hF hr hlk hin hsz hP hK hD hN hZ hA hS hl
  have hF : CallFix p m c cX5_init 1 s _ _ RX5 := hF
  have hx := hF.1
  have hb := hF.2.1
  have hml := hF.2.2.1
  have hown := hF.2.2.2.1
  have hu : ∀ w ∈ wsU, w.before _ s = true := fun w h => hF.2.2.2.2 w (List.mem_cons_of_mem _ h)
  have hl : lv_has ls 1 [(0, .ref h0)] := hl
  refine lv_aload_n hx hb dX5_init_0 rfl (lv_at hl 0 rfl) ?_
  refine W.objInit hx hb hown (hu _ uw943) (hu _ uw930) (hu _ uw931) rfl (by rw [hml]; exact hl.1) rfl dX5_init_1 (Nat.le_of_ble_eq_true rfl) (Nat.le_of_ble_eq_true rfl) ?_
  refine W.eq (g2 := F0 m 4 ls []) rfl ?_
  refine lv_aload_n hx hb dX5_init_4 rfl (lv_at hl 0 rfl) ?_
  refine lv_bipush (v := 10) hx hb dX5_init_5 (by decide) ?_
  refine xna (atype := .int) (ty := .int) (a0 := (10, .inl (fun _ => 0))) hF rfl uw932 hK hP hD hS hA 0 rfl (fun _ => xuq_int) (fun _ => rfl) (by decide) (by decide) (by decide) (Nat.le_of_ble_eq_true rfl) (Nat.le_of_ble_eq_true rfl) dX5_init_7 (fun q_1 H hP hD hS => ?_)
  have hP : va_P D vwCl [(h0, .inr (5, [.null, .null, .null])), (q_1, .inl (cI, 10, .inl (fun _ => 0)))] H := hP
  have hD : va_D A [(h0, .inr (5, [.null, .null, .null])), (q_1, .inl (cI, 10, .inl (fun _ => 0)))] := hD
  refine W.widen (k := 1) (n := 10) (by omega) (by omega) ?_
  refine xpF hF kf_X5_9 tyX5_ok nmX5 hK hP hD hS 0 rfl rfl hin rfl rfl rfl (Nat.le_of_ble_eq_true rfl) dX5_init_9 (fun H locs hP hD hS => ?_)
  have hP : va_P D vwCl [(h0, .inr (5, [.ref q_1, .null, .null])), (q_1, .inl (cI, 10, .inl (fun _ => 0)))] H := hP
  have hD : va_D A [(h0, .inr (5, [.ref q_1, .null, .null])), (q_1, .inl (cI, 10, .inl (fun _ => 0)))] := hD
  refine lv_aload_n hx hb dX5_init_12 rfl (lv_at hl 0 rfl) ?_
  refine lv_bipush (v := 10) hx hb dX5_init_13 (by decide) ?_
  refine xna (atype := .boolean) (ty := .boolean) (a0 := (10, .inl (fun _ => 0))) hF rfl uw944 hK hP hD hS hA 2 rfl (fun _ => xuq_boolean) (fun _ => rfl) (by decide) (by decide) (by decide) (Nat.le_of_ble_eq_true rfl) (Nat.le_of_ble_eq_true rfl) dX5_init_15 (fun q_2 H hP hD hS => ?_)
  have hP : va_P D vwCl [(h0, .inr (5, [.ref q_1, .null, .null])), (q_1, .inl (cI, 10, .inl (fun _ => 0))), (q_2, .inl (cZ, 10, .inl (fun _ => 0)))] H := hP
  have hD : va_D A [(h0, .inr (5, [.ref q_1, .null, .null])), (q_1, .inl (cI, 10, .inl (fun _ => 0))), (q_2, .inl (cZ, 10, .inl (fun _ => 0)))] := hD
  refine W.widen (k := 2) (n := 20) (by omega) (by omega) ?_
  refine xpF hF kf_X5_15 tyX5_ok nmX5 hK hP hD hS 0 rfl rfl hin rfl rfl rfl (Nat.le_of_ble_eq_true rfl) dX5_init_17 (fun H locs hP hD hS => ?_)
  have hP : va_P D vwCl [(h0, .inr (5, [.ref q_1, .ref q_2, .null])), (q_1, .inl (cI, 10, .inl (fun _ => 0))), (q_2, .inl (cZ, 10, .inl (fun _ => 0)))] H := hP
  have hD : va_D A [(h0, .inr (5, [.ref q_1, .ref q_2, .null])), (q_1, .inl (cI, 10, .inl (fun _ => 0))), (q_2, .inl (cZ, 10, .inl (fun _ => 0)))] := hD
  refine lv_aload_n hx hb dX5_init_20 rfl (lv_at hl 0 rfl) ?_
  refine lv_bipush (v := 10) hx hb dX5_init_21 (by decide) ?_
  refine xna (atype := .int) (ty := .int) (a0 := (10, .inl (fun _ => 0))) hF rfl uw932 hK hP hD hS hA 0 rfl (fun _ => xuq_int) (fun _ => rfl) (by decide) (by decide) (by decide) (Nat.le_of_ble_eq_true rfl) (Nat.le_of_ble_eq_true rfl) dX5_init_23 (fun q_3 H hP hD hS => ?_)
  have hP : va_P D vwCl [(h0, .inr (5, [.ref q_1, .ref q_2, .null])), (q_1, .inl (cI, 10, .inl (fun _ => 0))), (q_2, .inl (cZ, 10, .inl (fun _ => 0))), (q_3, .inl (cI, 10, .inl (fun _ => 0)))] H := hP
  have hD : va_D A [(h0, .inr (5, [.ref q_1, .ref q_2, .null])), (q_1, .inl (cI, 10, .inl (fun _ => 0))), (q_2, .inl (cZ, 10, .inl (fun _ => 0))), (q_3, .inl (cI, 10, .inl (fun _ => 0)))] := hD
  refine W.widen (k := 3) (n := 30) (by omega) (by omega) ?_
  refine xpF hF kf_X5_19 tyX5_ok nmX5 hK hP hD hS 0 rfl rfl hin rfl rfl rfl (Nat.le_of_ble_eq_true rfl) dX5_init_25 (fun H locs hP hD hS => ?_)
  have hP : va_P D vwCl [(h0, .inr (5, [.ref q_1, .ref q_2, .ref q_3])), (q_1, .inl (cI, 10, .inl (fun _ => 0))), (q_2, .inl (cZ, 10, .inl (fun _ => 0))), (q_3, .inl (cI, 10, .inl (fun _ => 0)))] H := hP
  have hD : va_D A [(h0, .inr (5, [.ref q_1, .ref q_2, .ref q_3])), (q_1, .inl (cI, 10, .inl (fun _ => 0))), (q_2, .inl (cZ, 10, .inl (fun _ => 0))), (q_3, .inl (cI, 10, .inl (fun _ => 0)))] := hD
  refine W.widen (k := 3) (n := 30) (Nat.le_of_ble_eq_true rfl) (Nat.le_of_ble_eq_true rfl) ?_
  exact W.vret hx hb hr (fun t ht hW => ⟨⟨(fun i => (q_1 :: q_2 :: q_3 :: ([] : List Nat)).getD i 0), rfl, trivial, by rw [ht]; exact hP.sub [0, 1, 2, 3] rfl, hD.sub [0, 1, 2, 3] (by decide) rfl⟩, hS.F ht⟩) hS.2.2 dX5_init_28 hlk
set_option maxHeartbeats 4000000 in
set_option maxRecDepth 100000 in
theorem c_X2_init (l : Launch) (D : va_G) (cI cJ cZ cS : ClassId) (ta : Nat) (sa sv : Nat → Nat) (sz : Nat) (h0 : Nat) : Met l yX2_init (Cond.code yX2_init cX2_init 1 none :: wsU) ({ frames := 1, cells := 0, slots := 0, locals := 20 }) (va_Pc [.ref h0] (XW D (xT cI cJ cZ cS) ta sa sv [(h0, .inr (2, [.int 0, .int 0]))] sz)) (XQv (fun (u9 : (Nat → Nat)) => True) D (fun (u9 : Nat → Nat) => [(h0, .inr (2, [.int 0, .int 0]))]) (va_A [(h0, .inr (2, [.int 0, .int 0]))] sz)) 0 0 (va_A [(h0, .inr (2, [.int 0, .int 0]))] sz) := by
  refine xh (QA := fun A => XQv (fun (u9 : (Nat → Nat)) => True) D (fun (u9 : Nat → Nat) => [(h0, .inr (2, [.int 0, .int 0]))]) A) (fr := fun A => A) (by decide) (Nat.le_of_ble_eq_true rfl) ?_
  intro p e s m below meth c ls A hF hr hlk hin hsz hP hK hD hN hZ hA hS hl
  have hF : CallFix p m c cX2_init 1 s _ _ RX2 := hF
  have hx := hF.1
  have hb := hF.2.1
  have hml := hF.2.2.1
  have hown := hF.2.2.2.1
  have hu : ∀ w ∈ wsU, w.before _ s = true := fun w h => hF.2.2.2.2 w (List.mem_cons_of_mem _ h)
  have hl : lv_has ls 1 [(0, .ref h0)] := hl
  refine lv_aload_n hx hb dX2_init_0 rfl (lv_at hl 0 rfl) ?_
  refine W.objInit hx hb hown (hu _ uw945) (hu _ uw930) (hu _ uw931) rfl (by rw [hml]; exact hl.1) rfl dX2_init_1 (Nat.le_of_ble_eq_true rfl) (Nat.le_of_ble_eq_true rfl) ?_
  refine W.eq (g2 := F0 m 4 ls []) rfl ?_
  refine lv_aload_n hx hb dX2_init_4 rfl (lv_at hl 0 rfl) ?_
  refine lv_iconst (v := 0) hx hb dX2_init_5 (by decide) ?_
  refine xp hF kf_X2_7 tyX2_ok nmX2 hK hP hD hS 0 rfl rfl rfl rfl (Nat.le_of_ble_eq_true rfl) dX2_init_6 (fun H locs hP hD hS => ?_)
  have hP : va_P D vwCl [(h0, .inr (2, [.int 0, .int 0]))] H := hP
  have hD : va_D A [(h0, .inr (2, [.int 0, .int 0]))] := hD
  refine lv_aload_n hx hb dX2_init_9 rfl (lv_at hl 0 rfl) ?_
  refine lv_iconst (v := 0) hx hb dX2_init_10 (by decide) ?_
  refine xp hF kf_X2_13 tyX2_ok nmX2 hK hP hD hS 0 rfl rfl rfl rfl (Nat.le_of_ble_eq_true rfl) dX2_init_11 (fun H locs hP hD hS => ?_)
  have hP : va_P D vwCl [(h0, .inr (2, [.int 0, .int 0]))] H := hP
  have hD : va_D A [(h0, .inr (2, [.int 0, .int 0]))] := hD
  exact W.vret hx hb hr (fun t ht hW => ⟨⟨(fun i => (([] : List Nat)).getD i 0), rfl, trivial, by rw [ht]; exact hP.sub [0] rfl, hD.sub [0] (by decide) rfl⟩, hS.F ht⟩) hS.2.2 dX2_init_14 hlk
set_option maxHeartbeats 4000000 in
set_option maxRecDepth 100000 in
theorem c_X7_init (l : Launch) (D : va_G) (cI cJ cZ cS : ClassId) (ta : Nat) (sa sv : Nat → Nat) (sz : Nat) (h0 : Nat) : Met l yX7_init (Cond.code yX7_init cX7_init 1 none :: wsU) ({ frames := 1, cells := 1, slots := 120, locals := 20 }) (va_Pc [.ref h0] (XW D (xT cI cJ cZ cS) ta sa sv [(h0, .inr (7, [.int 0, .null, .int 0, .int 0, .int 0, .int 0, .int 0]))] sz)) (XQv (fun (u9 : (Nat → Nat)) => True) D (fun (u9 : Nat → Nat) => [(h0, .inr (7, [.int 0, .ref (u9 0), .int 0, .int 0, .int 0, .int 0, .int 0])), ((u9 0), .inl (cI, 120, .inl (fun _ => 0)))]) (va_A [(h0, .inr (7, [.int 0, .null, .int 0, .int 0, .int 0, .int 0, .int 0]))] sz)) 1 120 (va_A [(h0, .inr (7, [.int 0, .null, .int 0, .int 0, .int 0, .int 0, .int 0]))] sz) := by
  refine xh (QA := fun A => XQv (fun (u9 : (Nat → Nat)) => True) D (fun (u9 : Nat → Nat) => [(h0, .inr (7, [.int 0, .ref (u9 0), .int 0, .int 0, .int 0, .int 0, .int 0])), ((u9 0), .inl (cI, 120, .inl (fun _ => 0)))]) A) (fr := fun A => A) (by decide) (Nat.le_of_ble_eq_true rfl) ?_
  intro p e s m below meth c ls A hF hr hlk hin hsz hP hK hD hN hZ hA hS hl
  have hF : CallFix p m c cX7_init 1 s _ _ RX7 := hF
  have hx := hF.1
  have hb := hF.2.1
  have hml := hF.2.2.1
  have hown := hF.2.2.2.1
  have hu : ∀ w ∈ wsU, w.before _ s = true := fun w h => hF.2.2.2.2 w (List.mem_cons_of_mem _ h)
  have hl : lv_has ls 1 [(0, .ref h0)] := hl
  refine lv_aload_n hx hb dX7_init_0 rfl (lv_at hl 0 rfl) ?_
  refine W.objInit hx hb hown (hu _ uw946) (hu _ uw930) (hu _ uw931) rfl (by rw [hml]; exact hl.1) rfl dX7_init_1 (Nat.le_of_ble_eq_true rfl) (Nat.le_of_ble_eq_true rfl) ?_
  refine W.eq (g2 := F0 m 4 ls []) rfl ?_
  refine lv_aload_n hx hb dX7_init_4 rfl (lv_at hl 0 rfl) ?_
  refine lv_iconst (v := 0) hx hb dX7_init_5 (by decide) ?_
  refine xp hF kf_X7_9 tyX7_ok nmX7 hK hP hD hS 0 rfl rfl rfl rfl (Nat.le_of_ble_eq_true rfl) dX7_init_6 (fun H locs hP hD hS => ?_)
  have hP : va_P D vwCl [(h0, .inr (7, [.int 0, .null, .int 0, .int 0, .int 0, .int 0, .int 0]))] H := hP
  have hD : va_D A [(h0, .inr (7, [.int 0, .null, .int 0, .int 0, .int 0, .int 0, .int 0]))] := hD
  refine lv_aload_n hx hb dX7_init_9 rfl (lv_at hl 0 rfl) ?_
  refine lv_bipush (v := 120) hx hb dX7_init_10 (by decide) ?_
  refine xna (atype := .int) (ty := .int) (a0 := (120, .inl (fun _ => 0))) hF rfl uw932 hK hP hD hS hA 0 rfl (fun _ => xuq_int) (fun _ => rfl) (by decide) (by decide) (by decide) (Nat.le_of_ble_eq_true rfl) (Nat.le_of_ble_eq_true rfl) dX7_init_12 (fun q_1 H hP hD hS => ?_)
  have hP : va_P D vwCl [(h0, .inr (7, [.int 0, .null, .int 0, .int 0, .int 0, .int 0, .int 0])), (q_1, .inl (cI, 120, .inl (fun _ => 0)))] H := hP
  have hD : va_D A [(h0, .inr (7, [.int 0, .null, .int 0, .int 0, .int 0, .int 0, .int 0])), (q_1, .inl (cI, 120, .inl (fun _ => 0)))] := hD
  refine W.widen (k := 1) (n := 120) (by omega) (by omega) ?_
  refine xpF hF kf_X7_15 tyX7_ok nmX7 hK hP hD hS 0 rfl rfl hin rfl rfl rfl (Nat.le_of_ble_eq_true rfl) dX7_init_14 (fun H locs hP hD hS => ?_)
  have hP : va_P D vwCl [(h0, .inr (7, [.int 0, .ref q_1, .int 0, .int 0, .int 0, .int 0, .int 0])), (q_1, .inl (cI, 120, .inl (fun _ => 0)))] H := hP
  have hD : va_D A [(h0, .inr (7, [.int 0, .ref q_1, .int 0, .int 0, .int 0, .int 0, .int 0])), (q_1, .inl (cI, 120, .inl (fun _ => 0)))] := hD
  refine lv_aload_n hx hb dX7_init_17 rfl (lv_at hl 0 rfl) ?_
  refine lv_iconst (v := 0) hx hb dX7_init_18 (by decide) ?_
  refine xp hF kf_X7_19 tyX7_ok nmX7 hK hP hD hS 0 rfl rfl rfl rfl (Nat.le_of_ble_eq_true rfl) dX7_init_19 (fun H locs hP hD hS => ?_)
  have hP : va_P D vwCl [(h0, .inr (7, [.int 0, .ref q_1, .int 0, .int 0, .int 0, .int 0, .int 0])), (q_1, .inl (cI, 120, .inl (fun _ => 0)))] H := hP
  have hD : va_D A [(h0, .inr (7, [.int 0, .ref q_1, .int 0, .int 0, .int 0, .int 0, .int 0])), (q_1, .inl (cI, 120, .inl (fun _ => 0)))] := hD
  refine lv_aload_n hx hb dX7_init_22 rfl (lv_at hl 0 rfl) ?_
  refine lv_iconst (v := 0) hx hb dX7_init_23 (by decide) ?_
  refine xp hF kf_X7_22 tyX7_ok nmX7 hK hP hD hS 0 rfl rfl rfl rfl (Nat.le_of_ble_eq_true rfl) dX7_init_24 (fun H locs hP hD hS => ?_)
  have hP : va_P D vwCl [(h0, .inr (7, [.int 0, .ref q_1, .int 0, .int 0, .int 0, .int 0, .int 0])), (q_1, .inl (cI, 120, .inl (fun _ => 0)))] H := hP
  have hD : va_D A [(h0, .inr (7, [.int 0, .ref q_1, .int 0, .int 0, .int 0, .int 0, .int 0])), (q_1, .inl (cI, 120, .inl (fun _ => 0)))] := hD
  refine lv_aload_n hx hb dX7_init_27 rfl (lv_at hl 0 rfl) ?_
  refine lv_iconst (v := 0) hx hb dX7_init_28 (by decide) ?_
  refine xp hF kf_X7_25 tyX7_ok nmX7 hK hP hD hS 0 rfl rfl rfl rfl (Nat.le_of_ble_eq_true rfl) dX7_init_29 (fun H locs hP hD hS => ?_)
  have hP : va_P D vwCl [(h0, .inr (7, [.int 0, .ref q_1, .int 0, .int 0, .int 0, .int 0, .int 0])), (q_1, .inl (cI, 120, .inl (fun _ => 0)))] H := hP
  have hD : va_D A [(h0, .inr (7, [.int 0, .ref q_1, .int 0, .int 0, .int 0, .int 0, .int 0])), (q_1, .inl (cI, 120, .inl (fun _ => 0)))] := hD
  refine lv_aload_n hx hb dX7_init_32 rfl (lv_at hl 0 rfl) ?_
  refine lv_iconst (v := 0) hx hb dX7_init_33 (by decide) ?_
  refine xp hF kf_X7_28 tyX7_ok nmX7 hK hP hD hS 0 rfl rfl rfl rfl (Nat.le_of_ble_eq_true rfl) dX7_init_34 (fun H locs hP hD hS => ?_)
  have hP : va_P D vwCl [(h0, .inr (7, [.int 0, .ref q_1, .int 0, .int 0, .int 0, .int 0, .int 0])), (q_1, .inl (cI, 120, .inl (fun _ => 0)))] H := hP
  have hD : va_D A [(h0, .inr (7, [.int 0, .ref q_1, .int 0, .int 0, .int 0, .int 0, .int 0])), (q_1, .inl (cI, 120, .inl (fun _ => 0)))] := hD
  refine lv_aload_n hx hb dX7_init_37 rfl (lv_at hl 0 rfl) ?_
  refine lv_iconst (v := 0) hx hb dX7_init_38 (by decide) ?_
  refine xp hF kf_X7_31 tyX7_ok nmX7 hK hP hD hS 0 rfl rfl rfl rfl (Nat.le_of_ble_eq_true rfl) dX7_init_39 (fun H locs hP hD hS => ?_)
  have hP : va_P D vwCl [(h0, .inr (7, [.int 0, .ref q_1, .int 0, .int 0, .int 0, .int 0, .int 0])), (q_1, .inl (cI, 120, .inl (fun _ => 0)))] H := hP
  have hD : va_D A [(h0, .inr (7, [.int 0, .ref q_1, .int 0, .int 0, .int 0, .int 0, .int 0])), (q_1, .inl (cI, 120, .inl (fun _ => 0)))] := hD
  refine W.widen (k := 1) (n := 120) (Nat.le_of_ble_eq_true rfl) (Nat.le_of_ble_eq_true rfl) ?_
  exact W.vret hx hb hr (fun t ht hW => ⟨⟨(fun i => (q_1 :: ([] : List Nat)).getD i 0), rfl, trivial, by rw [ht]; exact hP.sub [0, 1] rfl, hD.sub [0, 1] (by decide) rfl⟩, hS.F ht⟩) hS.2.2 dX7_init_42 hlk
