def LRX1_become_9 : List UInt8 := []
def LBX1_become_8 : List UInt8 := [0x2c, 0x03, 0x10, 0x08, 0xb8, 0x00, 0x2f, 0xb1]
def LRX1_become_8 : List UInt8 := LBX1_become_8 ++ LRX1_become_9
def LBX1_become_7 : List UInt8 := [0x00, 0x29, 0x03, 0x10, 0x08, 0xb8, 0x00, 0x2f, 0x2b, 0xb4, 0x00, 0x2c, 0x03, 0x2a, 0xb4, 0x00]
def LRX1_become_7 : List UInt8 := LBX1_become_7 ++ LRX1_become_8
def LBX1_become_6 : List UInt8 := [0x00, 0x26, 0x2b, 0xb4, 0x00, 0x26, 0xb6, 0x00, 0x35, 0x2b, 0xb4, 0x00, 0x29, 0x03, 0x2a, 0xb4]
def LRX1_become_6 : List UInt8 := LBX1_become_6 ++ LRX1_become_7
def LBX1_become_5 : List UInt8 := [0xb4, 0x00, 0x23, 0x03, 0x2a, 0xb4, 0x00, 0x23, 0x03, 0x10, 0x08, 0xb8, 0x00, 0x2f, 0x2a, 0xb4]
def LRX1_become_5 : List UInt8 := LBX1_become_5 ++ LRX1_become_6
def LBX1_become_4 : List UInt8 := [0x64, 0xb8, 0x00, 0x2f, 0x2a, 0xb4, 0x00, 0x1f, 0x2b, 0xb4, 0x00, 0x1f, 0xb6, 0x00, 0x35, 0x2b]
def LRX1_become_4 : List UInt8 := LBX1_become_4 ++ LRX1_become_5
def LBX1_become_3 : List UInt8 := [0x10, 0x64, 0xb8, 0x00, 0x2f, 0x2b, 0xb4, 0x00, 0x19, 0x03, 0x2a, 0xb4, 0x00, 0x19, 0x03, 0x10]
def LRX1_become_3 : List UInt8 := LBX1_become_3 ++ LRX1_become_4
def LBX1_become_2 : List UInt8 := [0x03, 0x10, 0x64, 0xb8, 0x00, 0x2f, 0x2b, 0xb4, 0x00, 0x16, 0x03, 0x2a, 0xb4, 0x00, 0x16, 0x03]
def LRX1_become_2 : List UInt8 := LBX1_become_2 ++ LRX1_become_3
def LBX1_become_1 : List UInt8 := [0x0f, 0x03, 0x10, 0x0a, 0xb8, 0x00, 0x2f, 0x2b, 0xb4, 0x00, 0x13, 0x03, 0x2a, 0xb4, 0x00, 0x13]
def LRX1_become_1 : List UInt8 := LBX1_become_1 ++ LRX1_become_2
def LBX1_become_0 : List UInt8 := [0x2a, 0x2b, 0xb4, 0x00, 0x09, 0xb5, 0x00, 0x09, 0x2b, 0xb4, 0x00, 0x0f, 0x03, 0x2a, 0xb4, 0x00]
def LRX1_become_0 : List UInt8 := LBX1_become_0 ++ LRX1_become_1
set_option maxRecDepth 100000 in
theorem LBX1_become_eq : cX1_become.data.toList = LRX1_become_0 := by decide +kernel
theorem LBX1_becomer_0 (k : Nat) : cX1_become.data.toList[0 + k]? = LRX1_become_0[k]? := by rw [LBX1_become_eq, Nat.zero_add]
theorem LBX1_becomer_1 (k : Nat) : cX1_become.data.toList[16 + k]? = LRX1_become_1[k]? := by
  have h := LBX1_becomer_0 (16 + k)
  rw [show 0 + (16 + k) = 16 + k by omega] at h
  rw [h]
  exact (List.getElem?_append_right (l₁ := LBX1_become_0) (l₂ := LRX1_become_1) (show 16 ≤ 16 + k by omega)).trans (congrArg (fun i => LRX1_become_1[i]?) (show 16 + k - 16 = k by omega))
theorem LBX1_becomer_2 (k : Nat) : cX1_become.data.toList[32 + k]? = LRX1_become_2[k]? := by
  have h := LBX1_becomer_1 (16 + k)
  rw [show 16 + (16 + k) = 32 + k by omega] at h
  rw [h]
  exact (List.getElem?_append_right (l₁ := LBX1_become_1) (l₂ := LRX1_become_2) (show 16 ≤ 16 + k by omega)).trans (congrArg (fun i => LRX1_become_2[i]?) (show 16 + k - 16 = k by omega))
theorem LBX1_becomer_3 (k : Nat) : cX1_become.data.toList[48 + k]? = LRX1_become_3[k]? := by
  have h := LBX1_becomer_2 (16 + k)
  rw [show 32 + (16 + k) = 48 + k by omega] at h
  rw [h]
  exact (List.getElem?_append_right (l₁ := LBX1_become_2) (l₂ := LRX1_become_3) (show 16 ≤ 16 + k by omega)).trans (congrArg (fun i => LRX1_become_3[i]?) (show 16 + k - 16 = k by omega))
theorem LBX1_becomer_4 (k : Nat) : cX1_become.data.toList[64 + k]? = LRX1_become_4[k]? := by
  have h := LBX1_becomer_3 (16 + k)
  rw [show 48 + (16 + k) = 64 + k by omega] at h
  rw [h]
  exact (List.getElem?_append_right (l₁ := LBX1_become_3) (l₂ := LRX1_become_4) (show 16 ≤ 16 + k by omega)).trans (congrArg (fun i => LRX1_become_4[i]?) (show 16 + k - 16 = k by omega))
theorem LBX1_becomer_5 (k : Nat) : cX1_become.data.toList[80 + k]? = LRX1_become_5[k]? := by
  have h := LBX1_becomer_4 (16 + k)
  rw [show 64 + (16 + k) = 80 + k by omega] at h
  rw [h]
  exact (List.getElem?_append_right (l₁ := LBX1_become_4) (l₂ := LRX1_become_5) (show 16 ≤ 16 + k by omega)).trans (congrArg (fun i => LRX1_become_5[i]?) (show 16 + k - 16 = k by omega))
theorem LBX1_becomer_6 (k : Nat) : cX1_become.data.toList[96 + k]? = LRX1_become_6[k]? := by
  have h := LBX1_becomer_5 (16 + k)
  rw [show 80 + (16 + k) = 96 + k by omega] at h
  rw [h]
  exact (List.getElem?_append_right (l₁ := LBX1_become_5) (l₂ := LRX1_become_6) (show 16 ≤ 16 + k by omega)).trans (congrArg (fun i => LRX1_become_6[i]?) (show 16 + k - 16 = k by omega))
theorem LBX1_becomer_7 (k : Nat) : cX1_become.data.toList[112 + k]? = LRX1_become_7[k]? := by
  have h := LBX1_becomer_6 (16 + k)
  rw [show 96 + (16 + k) = 112 + k by omega] at h
  rw [h]
  exact (List.getElem?_append_right (l₁ := LBX1_become_6) (l₂ := LRX1_become_7) (show 16 ≤ 16 + k by omega)).trans (congrArg (fun i => LRX1_become_7[i]?) (show 16 + k - 16 = k by omega))
theorem LBX1_becomer_8 (k : Nat) : cX1_become.data.toList[128 + k]? = LRX1_become_8[k]? := by
  have h := LBX1_becomer_7 (16 + k)
  rw [show 112 + (16 + k) = 128 + k by omega] at h
  rw [h]
  exact (List.getElem?_append_right (l₁ := LBX1_become_7) (l₂ := LRX1_become_8) (show 16 ≤ 16 + k by omega)).trans (congrArg (fun i => LRX1_become_8[i]?) (show 16 + k - 16 = k by omega))
theorem dX1_become_0 : decode cX1_become 0 = .ok (.aload_n 0, 1) := dk_42_ (show cX1_become.data.toList[0]? = some 0x2a from (LBX1_becomer_0 0).trans (by decide +kernel))
theorem dX1_become_1 : decode cX1_become 1 = .ok (.aload_n 1, 1) := dk_43_ (show cX1_become.data.toList[1]? = some 0x2b from (LBX1_becomer_0 1).trans (by decide +kernel))
theorem dX1_become_2 : decode cX1_become 2 = .ok (.getfield 9, 3) := dk_180_ (show cX1_become.data.toList[2]? = some 0xb4 from (LBX1_becomer_0 2).trans (by decide +kernel)) (show cX1_become.data.toList[3]? = some 0x00 from (LBX1_becomer_0 3).trans (by decide +kernel)) (show cX1_become.data.toList[4]? = some 0x09 from (LBX1_becomer_0 4).trans (by decide +kernel)) (by decide)
theorem dX1_become_5 : decode cX1_become 5 = .ok (.putfield 9, 3) := dk_181_ (show cX1_become.data.toList[5]? = some 0xb5 from (LBX1_becomer_0 5).trans (by decide +kernel)) (show cX1_become.data.toList[6]? = some 0x00 from (LBX1_becomer_0 6).trans (by decide +kernel)) (show cX1_become.data.toList[7]? = some 0x09 from (LBX1_becomer_0 7).trans (by decide +kernel)) (by decide)
theorem dX1_become_8 : decode cX1_become 8 = .ok (.aload_n 1, 1) := dk_43_ (show cX1_become.data.toList[8]? = some 0x2b from (LBX1_becomer_0 8).trans (by decide +kernel))
theorem dX1_become_9 : decode cX1_become 9 = .ok (.getfield 15, 3) := dk_180_ (show cX1_become.data.toList[9]? = some 0xb4 from (LBX1_becomer_0 9).trans (by decide +kernel)) (show cX1_become.data.toList[10]? = some 0x00 from (LBX1_becomer_0 10).trans (by decide +kernel)) (show cX1_become.data.toList[11]? = some 0x0f from (LBX1_becomer_0 11).trans (by decide +kernel)) (by decide)
theorem dX1_become_12 : decode cX1_become 12 = .ok (.iconst 0, 1) := dk_3_ (show cX1_become.data.toList[12]? = some 0x03 from (LBX1_becomer_0 12).trans (by decide +kernel))
theorem dX1_become_13 : decode cX1_become 13 = .ok (.aload_n 0, 1) := dk_42_ (show cX1_become.data.toList[13]? = some 0x2a from (LBX1_becomer_0 13).trans (by decide +kernel))
theorem dX1_become_14 : decode cX1_become 14 = .ok (.getfield 15, 3) := dk_180_ (show cX1_become.data.toList[14]? = some 0xb4 from (LBX1_becomer_0 14).trans (by decide +kernel)) (show cX1_become.data.toList[15]? = some 0x00 from (LBX1_becomer_0 15).trans (by decide +kernel)) (show cX1_become.data.toList[16]? = some 0x0f from (LBX1_becomer_1 0).trans (by decide +kernel)) (by decide)
theorem dX1_become_17 : decode cX1_become 17 = .ok (.iconst 0, 1) := dk_3_ (show cX1_become.data.toList[17]? = some 0x03 from (LBX1_becomer_1 1).trans (by decide +kernel))
theorem dX1_become_18 : decode cX1_become 18 = .ok (.bipush 10, 2) := dk_16_ (show cX1_become.data.toList[18]? = some 0x10 from (LBX1_becomer_1 2).trans (by decide +kernel)) (show cX1_become.data.toList[19]? = some 0x0a from (LBX1_becomer_1 3).trans (by decide +kernel)) (by decide)
theorem dX1_become_20 : decode cX1_become 20 = .ok (.invokestatic 47, 3) := dk_184_ (show cX1_become.data.toList[20]? = some 0xb8 from (LBX1_becomer_1 4).trans (by decide +kernel)) (show cX1_become.data.toList[21]? = some 0x00 from (LBX1_becomer_1 5).trans (by decide +kernel)) (show cX1_become.data.toList[22]? = some 0x2f from (LBX1_becomer_1 6).trans (by decide +kernel)) (by decide)
theorem dX1_become_23 : decode cX1_become 23 = .ok (.aload_n 1, 1) := dk_43_ (show cX1_become.data.toList[23]? = some 0x2b from (LBX1_becomer_1 7).trans (by decide +kernel))
theorem dX1_become_24 : decode cX1_become 24 = .ok (.getfield 19, 3) := dk_180_ (show cX1_become.data.toList[24]? = some 0xb4 from (LBX1_becomer_1 8).trans (by decide +kernel)) (show cX1_become.data.toList[25]? = some 0x00 from (LBX1_becomer_1 9).trans (by decide +kernel)) (show cX1_become.data.toList[26]? = some 0x13 from (LBX1_becomer_1 10).trans (by decide +kernel)) (by decide)
theorem dX1_become_27 : decode cX1_become 27 = .ok (.iconst 0, 1) := dk_3_ (show cX1_become.data.toList[27]? = some 0x03 from (LBX1_becomer_1 11).trans (by decide +kernel))
theorem dX1_become_28 : decode cX1_become 28 = .ok (.aload_n 0, 1) := dk_42_ (show cX1_become.data.toList[28]? = some 0x2a from (LBX1_becomer_1 12).trans (by decide +kernel))
theorem dX1_become_29 : decode cX1_become 29 = .ok (.getfield 19, 3) := dk_180_ (show cX1_become.data.toList[29]? = some 0xb4 from (LBX1_becomer_1 13).trans (by decide +kernel)) (show cX1_become.data.toList[30]? = some 0x00 from (LBX1_becomer_1 14).trans (by decide +kernel)) (show cX1_become.data.toList[31]? = some 0x13 from (LBX1_becomer_1 15).trans (by decide +kernel)) (by decide)
theorem dX1_become_32 : decode cX1_become 32 = .ok (.iconst 0, 1) := dk_3_ (show cX1_become.data.toList[32]? = some 0x03 from (LBX1_becomer_2 0).trans (by decide +kernel))
theorem dX1_become_33 : decode cX1_become 33 = .ok (.bipush 100, 2) := dk_16_ (show cX1_become.data.toList[33]? = some 0x10 from (LBX1_becomer_2 1).trans (by decide +kernel)) (show cX1_become.data.toList[34]? = some 0x64 from (LBX1_becomer_2 2).trans (by decide +kernel)) (by decide)
theorem dX1_become_35 : decode cX1_become 35 = .ok (.invokestatic 47, 3) := dk_184_ (show cX1_become.data.toList[35]? = some 0xb8 from (LBX1_becomer_2 3).trans (by decide +kernel)) (show cX1_become.data.toList[36]? = some 0x00 from (LBX1_becomer_2 4).trans (by decide +kernel)) (show cX1_become.data.toList[37]? = some 0x2f from (LBX1_becomer_2 5).trans (by decide +kernel)) (by decide)
theorem dX1_become_38 : decode cX1_become 38 = .ok (.aload_n 1, 1) := dk_43_ (show cX1_become.data.toList[38]? = some 0x2b from (LBX1_becomer_2 6).trans (by decide +kernel))
theorem dX1_become_39 : decode cX1_become 39 = .ok (.getfield 22, 3) := dk_180_ (show cX1_become.data.toList[39]? = some 0xb4 from (LBX1_becomer_2 7).trans (by decide +kernel)) (show cX1_become.data.toList[40]? = some 0x00 from (LBX1_becomer_2 8).trans (by decide +kernel)) (show cX1_become.data.toList[41]? = some 0x16 from (LBX1_becomer_2 9).trans (by decide +kernel)) (by decide)
theorem dX1_become_42 : decode cX1_become 42 = .ok (.iconst 0, 1) := dk_3_ (show cX1_become.data.toList[42]? = some 0x03 from (LBX1_becomer_2 10).trans (by decide +kernel))
theorem dX1_become_43 : decode cX1_become 43 = .ok (.aload_n 0, 1) := dk_42_ (show cX1_become.data.toList[43]? = some 0x2a from (LBX1_becomer_2 11).trans (by decide +kernel))
theorem dX1_become_44 : decode cX1_become 44 = .ok (.getfield 22, 3) := dk_180_ (show cX1_become.data.toList[44]? = some 0xb4 from (LBX1_becomer_2 12).trans (by decide +kernel)) (show cX1_become.data.toList[45]? = some 0x00 from (LBX1_becomer_2 13).trans (by decide +kernel)) (show cX1_become.data.toList[46]? = some 0x16 from (LBX1_becomer_2 14).trans (by decide +kernel)) (by decide)
theorem dX1_become_47 : decode cX1_become 47 = .ok (.iconst 0, 1) := dk_3_ (show cX1_become.data.toList[47]? = some 0x03 from (LBX1_becomer_2 15).trans (by decide +kernel))
theorem dX1_become_48 : decode cX1_become 48 = .ok (.bipush 100, 2) := dk_16_ (show cX1_become.data.toList[48]? = some 0x10 from (LBX1_becomer_3 0).trans (by decide +kernel)) (show cX1_become.data.toList[49]? = some 0x64 from (LBX1_becomer_3 1).trans (by decide +kernel)) (by decide)
theorem dX1_become_50 : decode cX1_become 50 = .ok (.invokestatic 47, 3) := dk_184_ (show cX1_become.data.toList[50]? = some 0xb8 from (LBX1_becomer_3 2).trans (by decide +kernel)) (show cX1_become.data.toList[51]? = some 0x00 from (LBX1_becomer_3 3).trans (by decide +kernel)) (show cX1_become.data.toList[52]? = some 0x2f from (LBX1_becomer_3 4).trans (by decide +kernel)) (by decide)
theorem dX1_become_53 : decode cX1_become 53 = .ok (.aload_n 1, 1) := dk_43_ (show cX1_become.data.toList[53]? = some 0x2b from (LBX1_becomer_3 5).trans (by decide +kernel))
theorem dX1_become_54 : decode cX1_become 54 = .ok (.getfield 25, 3) := dk_180_ (show cX1_become.data.toList[54]? = some 0xb4 from (LBX1_becomer_3 6).trans (by decide +kernel)) (show cX1_become.data.toList[55]? = some 0x00 from (LBX1_becomer_3 7).trans (by decide +kernel)) (show cX1_become.data.toList[56]? = some 0x19 from (LBX1_becomer_3 8).trans (by decide +kernel)) (by decide)
theorem dX1_become_57 : decode cX1_become 57 = .ok (.iconst 0, 1) := dk_3_ (show cX1_become.data.toList[57]? = some 0x03 from (LBX1_becomer_3 9).trans (by decide +kernel))
theorem dX1_become_58 : decode cX1_become 58 = .ok (.aload_n 0, 1) := dk_42_ (show cX1_become.data.toList[58]? = some 0x2a from (LBX1_becomer_3 10).trans (by decide +kernel))
theorem dX1_become_59 : decode cX1_become 59 = .ok (.getfield 25, 3) := dk_180_ (show cX1_become.data.toList[59]? = some 0xb4 from (LBX1_becomer_3 11).trans (by decide +kernel)) (show cX1_become.data.toList[60]? = some 0x00 from (LBX1_becomer_3 12).trans (by decide +kernel)) (show cX1_become.data.toList[61]? = some 0x19 from (LBX1_becomer_3 13).trans (by decide +kernel)) (by decide)
theorem dX1_become_62 : decode cX1_become 62 = .ok (.iconst 0, 1) := dk_3_ (show cX1_become.data.toList[62]? = some 0x03 from (LBX1_becomer_3 14).trans (by decide +kernel))
theorem dX1_become_63 : decode cX1_become 63 = .ok (.bipush 100, 2) := dk_16_ (show cX1_become.data.toList[63]? = some 0x10 from (LBX1_becomer_3 15).trans (by decide +kernel)) (show cX1_become.data.toList[64]? = some 0x64 from (LBX1_becomer_4 0).trans (by decide +kernel)) (by decide)
theorem dX1_become_65 : decode cX1_become 65 = .ok (.invokestatic 47, 3) := dk_184_ (show cX1_become.data.toList[65]? = some 0xb8 from (LBX1_becomer_4 1).trans (by decide +kernel)) (show cX1_become.data.toList[66]? = some 0x00 from (LBX1_becomer_4 2).trans (by decide +kernel)) (show cX1_become.data.toList[67]? = some 0x2f from (LBX1_becomer_4 3).trans (by decide +kernel)) (by decide)
theorem dX1_become_68 : decode cX1_become 68 = .ok (.aload_n 0, 1) := dk_42_ (show cX1_become.data.toList[68]? = some 0x2a from (LBX1_becomer_4 4).trans (by decide +kernel))
theorem dX1_become_69 : decode cX1_become 69 = .ok (.getfield 31, 3) := dk_180_ (show cX1_become.data.toList[69]? = some 0xb4 from (LBX1_becomer_4 5).trans (by decide +kernel)) (show cX1_become.data.toList[70]? = some 0x00 from (LBX1_becomer_4 6).trans (by decide +kernel)) (show cX1_become.data.toList[71]? = some 0x1f from (LBX1_becomer_4 7).trans (by decide +kernel)) (by decide)
theorem dX1_become_72 : decode cX1_become 72 = .ok (.aload_n 1, 1) := dk_43_ (show cX1_become.data.toList[72]? = some 0x2b from (LBX1_becomer_4 8).trans (by decide +kernel))
theorem dX1_become_73 : decode cX1_become 73 = .ok (.getfield 31, 3) := dk_180_ (show cX1_become.data.toList[73]? = some 0xb4 from (LBX1_becomer_4 9).trans (by decide +kernel)) (show cX1_become.data.toList[74]? = some 0x00 from (LBX1_becomer_4 10).trans (by decide +kernel)) (show cX1_become.data.toList[75]? = some 0x1f from (LBX1_becomer_4 11).trans (by decide +kernel)) (by decide)
theorem dX1_become_76 : decode cX1_become 76 = .ok (.invokevirtual 53, 3) := dk_182_ (show cX1_become.data.toList[76]? = some 0xb6 from (LBX1_becomer_4 12).trans (by decide +kernel)) (show cX1_become.data.toList[77]? = some 0x00 from (LBX1_becomer_4 13).trans (by decide +kernel)) (show cX1_become.data.toList[78]? = some 0x35 from (LBX1_becomer_4 14).trans (by decide +kernel)) (by decide)
theorem dX1_become_79 : decode cX1_become 79 = .ok (.aload_n 1, 1) := dk_43_ (show cX1_become.data.toList[79]? = some 0x2b from (LBX1_becomer_4 15).trans (by decide +kernel))
theorem dX1_become_80 : decode cX1_become 80 = .ok (.getfield 35, 3) := dk_180_ (show cX1_become.data.toList[80]? = some 0xb4 from (LBX1_becomer_5 0).trans (by decide +kernel)) (show cX1_become.data.toList[81]? = some 0x00 from (LBX1_becomer_5 1).trans (by decide +kernel)) (show cX1_become.data.toList[82]? = some 0x23 from (LBX1_becomer_5 2).trans (by decide +kernel)) (by decide)
theorem dX1_become_83 : decode cX1_become 83 = .ok (.iconst 0, 1) := dk_3_ (show cX1_become.data.toList[83]? = some 0x03 from (LBX1_becomer_5 3).trans (by decide +kernel))
theorem dX1_become_84 : decode cX1_become 84 = .ok (.aload_n 0, 1) := dk_42_ (show cX1_become.data.toList[84]? = some 0x2a from (LBX1_becomer_5 4).trans (by decide +kernel))
theorem dX1_become_85 : decode cX1_become 85 = .ok (.getfield 35, 3) := dk_180_ (show cX1_become.data.toList[85]? = some 0xb4 from (LBX1_becomer_5 5).trans (by decide +kernel)) (show cX1_become.data.toList[86]? = some 0x00 from (LBX1_becomer_5 6).trans (by decide +kernel)) (show cX1_become.data.toList[87]? = some 0x23 from (LBX1_becomer_5 7).trans (by decide +kernel)) (by decide)
theorem dX1_become_88 : decode cX1_become 88 = .ok (.iconst 0, 1) := dk_3_ (show cX1_become.data.toList[88]? = some 0x03 from (LBX1_becomer_5 8).trans (by decide +kernel))
theorem dX1_become_89 : decode cX1_become 89 = .ok (.bipush 8, 2) := dk_16_ (show cX1_become.data.toList[89]? = some 0x10 from (LBX1_becomer_5 9).trans (by decide +kernel)) (show cX1_become.data.toList[90]? = some 0x08 from (LBX1_becomer_5 10).trans (by decide +kernel)) (by decide)
theorem dX1_become_91 : decode cX1_become 91 = .ok (.invokestatic 47, 3) := dk_184_ (show cX1_become.data.toList[91]? = some 0xb8 from (LBX1_becomer_5 11).trans (by decide +kernel)) (show cX1_become.data.toList[92]? = some 0x00 from (LBX1_becomer_5 12).trans (by decide +kernel)) (show cX1_become.data.toList[93]? = some 0x2f from (LBX1_becomer_5 13).trans (by decide +kernel)) (by decide)
theorem dX1_become_94 : decode cX1_become 94 = .ok (.aload_n 0, 1) := dk_42_ (show cX1_become.data.toList[94]? = some 0x2a from (LBX1_becomer_5 14).trans (by decide +kernel))
theorem dX1_become_95 : decode cX1_become 95 = .ok (.getfield 38, 3) := dk_180_ (show cX1_become.data.toList[95]? = some 0xb4 from (LBX1_becomer_5 15).trans (by decide +kernel)) (show cX1_become.data.toList[96]? = some 0x00 from (LBX1_becomer_6 0).trans (by decide +kernel)) (show cX1_become.data.toList[97]? = some 0x26 from (LBX1_becomer_6 1).trans (by decide +kernel)) (by decide)
theorem dX1_become_98 : decode cX1_become 98 = .ok (.aload_n 1, 1) := dk_43_ (show cX1_become.data.toList[98]? = some 0x2b from (LBX1_becomer_6 2).trans (by decide +kernel))
theorem dX1_become_99 : decode cX1_become 99 = .ok (.getfield 38, 3) := dk_180_ (show cX1_become.data.toList[99]? = some 0xb4 from (LBX1_becomer_6 3).trans (by decide +kernel)) (show cX1_become.data.toList[100]? = some 0x00 from (LBX1_becomer_6 4).trans (by decide +kernel)) (show cX1_become.data.toList[101]? = some 0x26 from (LBX1_becomer_6 5).trans (by decide +kernel)) (by decide)
theorem dX1_become_102 : decode cX1_become 102 = .ok (.invokevirtual 53, 3) := dk_182_ (show cX1_become.data.toList[102]? = some 0xb6 from (LBX1_becomer_6 6).trans (by decide +kernel)) (show cX1_become.data.toList[103]? = some 0x00 from (LBX1_becomer_6 7).trans (by decide +kernel)) (show cX1_become.data.toList[104]? = some 0x35 from (LBX1_becomer_6 8).trans (by decide +kernel)) (by decide)
theorem dX1_become_105 : decode cX1_become 105 = .ok (.aload_n 1, 1) := dk_43_ (show cX1_become.data.toList[105]? = some 0x2b from (LBX1_becomer_6 9).trans (by decide +kernel))
theorem dX1_become_106 : decode cX1_become 106 = .ok (.getfield 41, 3) := dk_180_ (show cX1_become.data.toList[106]? = some 0xb4 from (LBX1_becomer_6 10).trans (by decide +kernel)) (show cX1_become.data.toList[107]? = some 0x00 from (LBX1_becomer_6 11).trans (by decide +kernel)) (show cX1_become.data.toList[108]? = some 0x29 from (LBX1_becomer_6 12).trans (by decide +kernel)) (by decide)
theorem dX1_become_109 : decode cX1_become 109 = .ok (.iconst 0, 1) := dk_3_ (show cX1_become.data.toList[109]? = some 0x03 from (LBX1_becomer_6 13).trans (by decide +kernel))
theorem dX1_become_110 : decode cX1_become 110 = .ok (.aload_n 0, 1) := dk_42_ (show cX1_become.data.toList[110]? = some 0x2a from (LBX1_becomer_6 14).trans (by decide +kernel))
theorem dX1_become_111 : decode cX1_become 111 = .ok (.getfield 41, 3) := dk_180_ (show cX1_become.data.toList[111]? = some 0xb4 from (LBX1_becomer_6 15).trans (by decide +kernel)) (show cX1_become.data.toList[112]? = some 0x00 from (LBX1_becomer_7 0).trans (by decide +kernel)) (show cX1_become.data.toList[113]? = some 0x29 from (LBX1_becomer_7 1).trans (by decide +kernel)) (by decide)
theorem dX1_become_114 : decode cX1_become 114 = .ok (.iconst 0, 1) := dk_3_ (show cX1_become.data.toList[114]? = some 0x03 from (LBX1_becomer_7 2).trans (by decide +kernel))
theorem dX1_become_115 : decode cX1_become 115 = .ok (.bipush 8, 2) := dk_16_ (show cX1_become.data.toList[115]? = some 0x10 from (LBX1_becomer_7 3).trans (by decide +kernel)) (show cX1_become.data.toList[116]? = some 0x08 from (LBX1_becomer_7 4).trans (by decide +kernel)) (by decide)
theorem dX1_become_117 : decode cX1_become 117 = .ok (.invokestatic 47, 3) := dk_184_ (show cX1_become.data.toList[117]? = some 0xb8 from (LBX1_becomer_7 5).trans (by decide +kernel)) (show cX1_become.data.toList[118]? = some 0x00 from (LBX1_becomer_7 6).trans (by decide +kernel)) (show cX1_become.data.toList[119]? = some 0x2f from (LBX1_becomer_7 7).trans (by decide +kernel)) (by decide)
theorem dX1_become_120 : decode cX1_become 120 = .ok (.aload_n 1, 1) := dk_43_ (show cX1_become.data.toList[120]? = some 0x2b from (LBX1_becomer_7 8).trans (by decide +kernel))
theorem dX1_become_121 : decode cX1_become 121 = .ok (.getfield 44, 3) := dk_180_ (show cX1_become.data.toList[121]? = some 0xb4 from (LBX1_becomer_7 9).trans (by decide +kernel)) (show cX1_become.data.toList[122]? = some 0x00 from (LBX1_becomer_7 10).trans (by decide +kernel)) (show cX1_become.data.toList[123]? = some 0x2c from (LBX1_becomer_7 11).trans (by decide +kernel)) (by decide)
theorem dX1_become_124 : decode cX1_become 124 = .ok (.iconst 0, 1) := dk_3_ (show cX1_become.data.toList[124]? = some 0x03 from (LBX1_becomer_7 12).trans (by decide +kernel))
theorem dX1_become_125 : decode cX1_become 125 = .ok (.aload_n 0, 1) := dk_42_ (show cX1_become.data.toList[125]? = some 0x2a from (LBX1_becomer_7 13).trans (by decide +kernel))
theorem dX1_become_126 : decode cX1_become 126 = .ok (.getfield 44, 3) := dk_180_ (show cX1_become.data.toList[126]? = some 0xb4 from (LBX1_becomer_7 14).trans (by decide +kernel)) (show cX1_become.data.toList[127]? = some 0x00 from (LBX1_becomer_7 15).trans (by decide +kernel)) (show cX1_become.data.toList[128]? = some 0x2c from (LBX1_becomer_8 0).trans (by decide +kernel)) (by decide)
theorem dX1_become_129 : decode cX1_become 129 = .ok (.iconst 0, 1) := dk_3_ (show cX1_become.data.toList[129]? = some 0x03 from (LBX1_becomer_8 1).trans (by decide +kernel))
theorem dX1_become_130 : decode cX1_become 130 = .ok (.bipush 8, 2) := dk_16_ (show cX1_become.data.toList[130]? = some 0x10 from (LBX1_becomer_8 2).trans (by decide +kernel)) (show cX1_become.data.toList[131]? = some 0x08 from (LBX1_becomer_8 3).trans (by decide +kernel)) (by decide)
theorem dX1_become_132 : decode cX1_become 132 = .ok (.invokestatic 47, 3) := dk_184_ (show cX1_become.data.toList[132]? = some 0xb8 from (LBX1_becomer_8 4).trans (by decide +kernel)) (show cX1_become.data.toList[133]? = some 0x00 from (LBX1_becomer_8 5).trans (by decide +kernel)) (show cX1_become.data.toList[134]? = some 0x2f from (LBX1_becomer_8 6).trans (by decide +kernel)) (by decide)
theorem dX1_become_135 : decode cX1_become 135 = .ok (.return_, 1) := dk_177_ (show cX1_become.data.toList[135]? = some 0xb1 from (LBX1_becomer_8 7).trans (by decide +kernel))
theorem dX4_isMissing_0 : decode cX4_isMissing 0 = .ok (.aload_n 0, 1) := dk_42_ (show cX4_isMissing.data.toList[0]? = some 0x2a from by decide +kernel)
theorem dX4_isMissing_1 : decode cX4_isMissing 1 = .ok (.getfield 9, 3) := dk_180_ (show cX4_isMissing.data.toList[1]? = some 0xb4 from by decide +kernel) (show cX4_isMissing.data.toList[2]? = some 0x00 from by decide +kernel) (show cX4_isMissing.data.toList[3]? = some 0x09 from by decide +kernel) (by decide)
theorem dX4_isMissing_4 : decode cX4_isMissing 4 = .ok (.ifCond .ne 7, 3) := dk_154_ (show cX4_isMissing.data.toList[4]? = some 0x9a from by decide +kernel) (show cX4_isMissing.data.toList[5]? = some 0x00 from by decide +kernel) (show cX4_isMissing.data.toList[6]? = some 0x07 from by decide +kernel) (by decide)
theorem dX4_isMissing_7 : decode cX4_isMissing 7 = .ok (.iconst 1, 1) := dk_4_ (show cX4_isMissing.data.toList[7]? = some 0x04 from by decide +kernel)
theorem dX4_isMissing_8 : decode cX4_isMissing 8 = .ok (.goto 4, 3) := dk_167_ (show cX4_isMissing.data.toList[8]? = some 0xa7 from by decide +kernel) (show cX4_isMissing.data.toList[9]? = some 0x00 from by decide +kernel) (show cX4_isMissing.data.toList[10]? = some 0x04 from by decide +kernel) (by decide)
theorem dX4_isMissing_11 : decode cX4_isMissing 11 = .ok (.iconst 0, 1) := dk_3_ (show cX4_isMissing.data.toList[11]? = some 0x03 from by decide +kernel)
theorem dX4_isMissing_12 : decode cX4_isMissing 12 = .ok (.ireturn, 1) := dk_172_ (show cX4_isMissing.data.toList[12]? = some 0xac from by decide +kernel)
def LRX4_begin_2 : List UInt8 := []
def LBX4_begin_1 : List UInt8 := [0x00, 0x10, 0x2a, 0xb4, 0x00, 0x12, 0x1d, 0x09, 0x50, 0x84, 0x03, 0x01, 0xa7, 0xff, 0xf0, 0xb1]
def LRX4_begin_1 : List UInt8 := LBX4_begin_1 ++ LRX4_begin_2
def LBX4_begin_0 : List UInt8 := [0x2a, 0x1b, 0xb5, 0x00, 0x09, 0x2a, 0x1c, 0xb5, 0x00, 0x0f, 0x03, 0x3e, 0x1d, 0x10, 0x28, 0xa2]
def LRX4_begin_0 : List UInt8 := LBX4_begin_0 ++ LRX4_begin_1
set_option maxRecDepth 100000 in
theorem LBX4_begin_eq : cX4_begin.data.toList = LRX4_begin_0 := by decide +kernel
theorem LBX4_beginr_0 (k : Nat) : cX4_begin.data.toList[0 + k]? = LRX4_begin_0[k]? := by rw [LBX4_begin_eq, Nat.zero_add]
theorem LBX4_beginr_1 (k : Nat) : cX4_begin.data.toList[16 + k]? = LRX4_begin_1[k]? := by
  have h := LBX4_beginr_0 (16 + k)
  rw [show 0 + (16 + k) = 16 + k by omega] at h
  rw [h]
  exact (List.getElem?_append_right (l₁ := LBX4_begin_0) (l₂ := LRX4_begin_1) (show 16 ≤ 16 + k by omega)).trans (congrArg (fun i => LRX4_begin_1[i]?) (show 16 + k - 16 = k by omega))
theorem dX4_begin_0 : decode cX4_begin 0 = .ok (.aload_n 0, 1) := dk_42_ (show cX4_begin.data.toList[0]? = some 0x2a from (LBX4_beginr_0 0).trans (by decide +kernel))
theorem dX4_begin_1 : decode cX4_begin 1 = .ok (.iload_n 1, 1) := dk_27_ (show cX4_begin.data.toList[1]? = some 0x1b from (LBX4_beginr_0 1).trans (by decide +kernel))
theorem dX4_begin_2 : decode cX4_begin 2 = .ok (.putfield 9, 3) := dk_181_ (show cX4_begin.data.toList[2]? = some 0xb5 from (LBX4_beginr_0 2).trans (by decide +kernel)) (show cX4_begin.data.toList[3]? = some 0x00 from (LBX4_beginr_0 3).trans (by decide +kernel)) (show cX4_begin.data.toList[4]? = some 0x09 from (LBX4_beginr_0 4).trans (by decide +kernel)) (by decide)
theorem dX4_begin_5 : decode cX4_begin 5 = .ok (.aload_n 0, 1) := dk_42_ (show cX4_begin.data.toList[5]? = some 0x2a from (LBX4_beginr_0 5).trans (by decide +kernel))
theorem dX4_begin_6 : decode cX4_begin 6 = .ok (.iload_n 2, 1) := dk_28_ (show cX4_begin.data.toList[6]? = some 0x1c from (LBX4_beginr_0 6).trans (by decide +kernel))
theorem dX4_begin_7 : decode cX4_begin 7 = .ok (.putfield 15, 3) := dk_181_ (show cX4_begin.data.toList[7]? = some 0xb5 from (LBX4_beginr_0 7).trans (by decide +kernel)) (show cX4_begin.data.toList[8]? = some 0x00 from (LBX4_beginr_0 8).trans (by decide +kernel)) (show cX4_begin.data.toList[9]? = some 0x0f from (LBX4_beginr_0 9).trans (by decide +kernel)) (by decide)
theorem dX4_begin_10 : decode cX4_begin 10 = .ok (.iconst 0, 1) := dk_3_ (show cX4_begin.data.toList[10]? = some 0x03 from (LBX4_beginr_0 10).trans (by decide +kernel))
theorem dX4_begin_11 : decode cX4_begin 11 = .ok (.istore_n 3, 1) := dk_62_ (show cX4_begin.data.toList[11]? = some 0x3e from (LBX4_beginr_0 11).trans (by decide +kernel))
theorem dX4_begin_12 : decode cX4_begin 12 = .ok (.iload_n 3, 1) := dk_29_ (show cX4_begin.data.toList[12]? = some 0x1d from (LBX4_beginr_0 12).trans (by decide +kernel))
theorem dX4_begin_13 : decode cX4_begin 13 = .ok (.bipush 40, 2) := dk_16_ (show cX4_begin.data.toList[13]? = some 0x10 from (LBX4_beginr_0 13).trans (by decide +kernel)) (show cX4_begin.data.toList[14]? = some 0x28 from (LBX4_beginr_0 14).trans (by decide +kernel)) (by decide)
theorem dX4_begin_15 : decode cX4_begin 15 = .ok (.if_icmp .ge 16, 3) := dk_162_ (show cX4_begin.data.toList[15]? = some 0xa2 from (LBX4_beginr_0 15).trans (by decide +kernel)) (show cX4_begin.data.toList[16]? = some 0x00 from (LBX4_beginr_1 0).trans (by decide +kernel)) (show cX4_begin.data.toList[17]? = some 0x10 from (LBX4_beginr_1 1).trans (by decide +kernel)) (by decide)
theorem dX4_begin_18 : decode cX4_begin 18 = .ok (.aload_n 0, 1) := dk_42_ (show cX4_begin.data.toList[18]? = some 0x2a from (LBX4_beginr_1 2).trans (by decide +kernel))
theorem dX4_begin_19 : decode cX4_begin 19 = .ok (.getfield 18, 3) := dk_180_ (show cX4_begin.data.toList[19]? = some 0xb4 from (LBX4_beginr_1 3).trans (by decide +kernel)) (show cX4_begin.data.toList[20]? = some 0x00 from (LBX4_beginr_1 4).trans (by decide +kernel)) (show cX4_begin.data.toList[21]? = some 0x12 from (LBX4_beginr_1 5).trans (by decide +kernel)) (by decide)
theorem dX4_begin_22 : decode cX4_begin 22 = .ok (.iload_n 3, 1) := dk_29_ (show cX4_begin.data.toList[22]? = some 0x1d from (LBX4_beginr_1 6).trans (by decide +kernel))
theorem dX4_begin_23 : decode cX4_begin 23 = .ok (.lconst 0, 1) := dk_9_ (show cX4_begin.data.toList[23]? = some 0x09 from (LBX4_beginr_1 7).trans (by decide +kernel))
theorem dX4_begin_24 : decode cX4_begin 24 = .ok (.lastore, 1) := dk_80_ (show cX4_begin.data.toList[24]? = some 0x50 from (LBX4_beginr_1 8).trans (by decide +kernel))
theorem dX4_begin_25 : decode cX4_begin 25 = .ok (.iinc 3 1, 3) := dk_132_ (show cX4_begin.data.toList[25]? = some 0x84 from (LBX4_beginr_1 9).trans (by decide +kernel)) (show cX4_begin.data.toList[26]? = some 0x03 from (LBX4_beginr_1 10).trans (by decide +kernel)) (show cX4_begin.data.toList[27]? = some 0x01 from (LBX4_beginr_1 11).trans (by decide +kernel)) (by decide) (by decide)
theorem dX4_begin_28 : decode cX4_begin 28 = .ok (.goto (-16), 3) := dk_167_ (show cX4_begin.data.toList[28]? = some 0xa7 from (LBX4_beginr_1 12).trans (by decide +kernel)) (show cX4_begin.data.toList[29]? = some 0xff from (LBX4_beginr_1 13).trans (by decide +kernel)) (show cX4_begin.data.toList[30]? = some 0xf0 from (LBX4_beginr_1 14).trans (by decide +kernel)) (by decide)
theorem dX4_begin_31 : decode cX4_begin 31 = .ok (.return_, 1) := dk_177_ (show cX4_begin.data.toList[31]? = some 0xb1 from (LBX4_beginr_1 15).trans (by decide +kernel))
def LRX4_lowestBits_2 : List UInt8 := []
def LBX4_lowestBits_1 : List UInt8 := [0x00, 0x09, 0x10, 0x10, 0xa0, 0x00, 0x0a, 0x1f, 0x88, 0x93, 0x85, 0xa7, 0x00, 0x04, 0x1f, 0xad]
def LRX4_lowestBits_1 : List UInt8 := LBX4_lowestBits_1 ++ LRX4_lowestBits_2
def LBX4_lowestBits_0 : List UInt8 := [0x2a, 0xb4, 0x00, 0x09, 0x10, 0x08, 0xa0, 0x00, 0x08, 0x1f, 0x88, 0x91, 0x85, 0xad, 0x2a, 0xb4]
def LRX4_lowestBits_0 : List UInt8 := LBX4_lowestBits_0 ++ LRX4_lowestBits_1
set_option maxRecDepth 100000 in
theorem LBX4_lowestBits_eq : cX4_lowestBits.data.toList = LRX4_lowestBits_0 := by decide +kernel
theorem LBX4_lowestBitsr_0 (k : Nat) : cX4_lowestBits.data.toList[0 + k]? = LRX4_lowestBits_0[k]? := by rw [LBX4_lowestBits_eq, Nat.zero_add]
theorem LBX4_lowestBitsr_1 (k : Nat) : cX4_lowestBits.data.toList[16 + k]? = LRX4_lowestBits_1[k]? := by
  have h := LBX4_lowestBitsr_0 (16 + k)
  rw [show 0 + (16 + k) = 16 + k by omega] at h
  rw [h]
  exact (List.getElem?_append_right (l₁ := LBX4_lowestBits_0) (l₂ := LRX4_lowestBits_1) (show 16 ≤ 16 + k by omega)).trans (congrArg (fun i => LRX4_lowestBits_1[i]?) (show 16 + k - 16 = k by omega))
theorem dX4_lowestBits_0 : decode cX4_lowestBits 0 = .ok (.aload_n 0, 1) := dk_42_ (show cX4_lowestBits.data.toList[0]? = some 0x2a from (LBX4_lowestBitsr_0 0).trans (by decide +kernel))
theorem dX4_lowestBits_1 : decode cX4_lowestBits 1 = .ok (.getfield 9, 3) := dk_180_ (show cX4_lowestBits.data.toList[1]? = some 0xb4 from (LBX4_lowestBitsr_0 1).trans (by decide +kernel)) (show cX4_lowestBits.data.toList[2]? = some 0x00 from (LBX4_lowestBitsr_0 2).trans (by decide +kernel)) (show cX4_lowestBits.data.toList[3]? = some 0x09 from (LBX4_lowestBitsr_0 3).trans (by decide +kernel)) (by decide)
theorem dX4_lowestBits_4 : decode cX4_lowestBits 4 = .ok (.bipush 8, 2) := dk_16_ (show cX4_lowestBits.data.toList[4]? = some 0x10 from (LBX4_lowestBitsr_0 4).trans (by decide +kernel)) (show cX4_lowestBits.data.toList[5]? = some 0x08 from (LBX4_lowestBitsr_0 5).trans (by decide +kernel)) (by decide)
theorem dX4_lowestBits_6 : decode cX4_lowestBits 6 = .ok (.if_icmp .ne 8, 3) := dk_160_ (show cX4_lowestBits.data.toList[6]? = some 0xa0 from (LBX4_lowestBitsr_0 6).trans (by decide +kernel)) (show cX4_lowestBits.data.toList[7]? = some 0x00 from (LBX4_lowestBitsr_0 7).trans (by decide +kernel)) (show cX4_lowestBits.data.toList[8]? = some 0x08 from (LBX4_lowestBitsr_0 8).trans (by decide +kernel)) (by decide)
theorem dX4_lowestBits_9 : decode cX4_lowestBits 9 = .ok (.lload_n 1, 1) := dk_31_ (show cX4_lowestBits.data.toList[9]? = some 0x1f from (LBX4_lowestBitsr_0 9).trans (by decide +kernel))
theorem dX4_lowestBits_10 : decode cX4_lowestBits 10 = .ok (.l2i, 1) := dk_136_ (show cX4_lowestBits.data.toList[10]? = some 0x88 from (LBX4_lowestBitsr_0 10).trans (by decide +kernel))
theorem dX4_lowestBits_11 : decode cX4_lowestBits 11 = .ok (.i2b, 1) := dk_145_ (show cX4_lowestBits.data.toList[11]? = some 0x91 from (LBX4_lowestBitsr_0 11).trans (by decide +kernel))
theorem dX4_lowestBits_12 : decode cX4_lowestBits 12 = .ok (.i2l, 1) := dk_133_ (show cX4_lowestBits.data.toList[12]? = some 0x85 from (LBX4_lowestBitsr_0 12).trans (by decide +kernel))
theorem dX4_lowestBits_13 : decode cX4_lowestBits 13 = .ok (.lreturn, 1) := dk_173_ (show cX4_lowestBits.data.toList[13]? = some 0xad from (LBX4_lowestBitsr_0 13).trans (by decide +kernel))
theorem dX4_lowestBits_14 : decode cX4_lowestBits 14 = .ok (.aload_n 0, 1) := dk_42_ (show cX4_lowestBits.data.toList[14]? = some 0x2a from (LBX4_lowestBitsr_0 14).trans (by decide +kernel))
theorem dX4_lowestBits_15 : decode cX4_lowestBits 15 = .ok (.getfield 9, 3) := dk_180_ (show cX4_lowestBits.data.toList[15]? = some 0xb4 from (LBX4_lowestBitsr_0 15).trans (by decide +kernel)) (show cX4_lowestBits.data.toList[16]? = some 0x00 from (LBX4_lowestBitsr_1 0).trans (by decide +kernel)) (show cX4_lowestBits.data.toList[17]? = some 0x09 from (LBX4_lowestBitsr_1 1).trans (by decide +kernel)) (by decide)
theorem dX4_lowestBits_18 : decode cX4_lowestBits 18 = .ok (.bipush 16, 2) := dk_16_ (show cX4_lowestBits.data.toList[18]? = some 0x10 from (LBX4_lowestBitsr_1 2).trans (by decide +kernel)) (show cX4_lowestBits.data.toList[19]? = some 0x10 from (LBX4_lowestBitsr_1 3).trans (by decide +kernel)) (by decide)
theorem dX4_lowestBits_20 : decode cX4_lowestBits 20 = .ok (.if_icmp .ne 10, 3) := dk_160_ (show cX4_lowestBits.data.toList[20]? = some 0xa0 from (LBX4_lowestBitsr_1 4).trans (by decide +kernel)) (show cX4_lowestBits.data.toList[21]? = some 0x00 from (LBX4_lowestBitsr_1 5).trans (by decide +kernel)) (show cX4_lowestBits.data.toList[22]? = some 0x0a from (LBX4_lowestBitsr_1 6).trans (by decide +kernel)) (by decide)
theorem dX4_lowestBits_23 : decode cX4_lowestBits 23 = .ok (.lload_n 1, 1) := dk_31_ (show cX4_lowestBits.data.toList[23]? = some 0x1f from (LBX4_lowestBitsr_1 7).trans (by decide +kernel))
theorem dX4_lowestBits_24 : decode cX4_lowestBits 24 = .ok (.l2i, 1) := dk_136_ (show cX4_lowestBits.data.toList[24]? = some 0x88 from (LBX4_lowestBitsr_1 8).trans (by decide +kernel))
theorem dX4_lowestBits_25 : decode cX4_lowestBits 25 = .ok (.i2s, 1) := dk_147_ (show cX4_lowestBits.data.toList[25]? = some 0x93 from (LBX4_lowestBitsr_1 9).trans (by decide +kernel))
theorem dX4_lowestBits_26 : decode cX4_lowestBits 26 = .ok (.i2l, 1) := dk_133_ (show cX4_lowestBits.data.toList[26]? = some 0x85 from (LBX4_lowestBitsr_1 10).trans (by decide +kernel))
theorem dX4_lowestBits_27 : decode cX4_lowestBits 27 = .ok (.goto 4, 3) := dk_167_ (show cX4_lowestBits.data.toList[27]? = some 0xa7 from (LBX4_lowestBitsr_1 11).trans (by decide +kernel)) (show cX4_lowestBits.data.toList[28]? = some 0x00 from (LBX4_lowestBitsr_1 12).trans (by decide +kernel)) (show cX4_lowestBits.data.toList[29]? = some 0x04 from (LBX4_lowestBitsr_1 13).trans (by decide +kernel)) (by decide)
theorem dX4_lowestBits_30 : decode cX4_lowestBits 30 = .ok (.lload_n 1, 1) := dk_31_ (show cX4_lowestBits.data.toList[30]? = some 0x1f from (LBX4_lowestBitsr_1 14).trans (by decide +kernel))
theorem dX4_lowestBits_31 : decode cX4_lowestBits 31 = .ok (.lreturn, 1) := dk_173_ (show cX4_lowestBits.data.toList[31]? = some 0xad from (LBX4_lowestBitsr_1 15).trans (by decide +kernel))
def LRX4_hasSpan_2 : List UInt8 := []
def LBX4_hasSpan_1 : List UInt8 := [0x1b, 0x2a, 0xb4, 0x00, 0x0f, 0x1c, 0x64, 0xa3, 0x00, 0x07, 0x04, 0xa7, 0x00, 0x04, 0x03, 0xac]
def LRX4_hasSpan_1 : List UInt8 := LBX4_hasSpan_1 ++ LRX4_hasSpan_2
def LBX4_hasSpan_0 : List UInt8 := [0x1b, 0x9b, 0x00, 0x1d, 0x1c, 0x9b, 0x00, 0x19, 0x1c, 0x2a, 0xb4, 0x00, 0x0f, 0xa3, 0x00, 0x11]
def LRX4_hasSpan_0 : List UInt8 := LBX4_hasSpan_0 ++ LRX4_hasSpan_1
set_option maxRecDepth 100000 in
theorem LBX4_hasSpan_eq : cX4_hasSpan.data.toList = LRX4_hasSpan_0 := by decide +kernel
theorem LBX4_hasSpanr_0 (k : Nat) : cX4_hasSpan.data.toList[0 + k]? = LRX4_hasSpan_0[k]? := by rw [LBX4_hasSpan_eq, Nat.zero_add]
theorem LBX4_hasSpanr_1 (k : Nat) : cX4_hasSpan.data.toList[16 + k]? = LRX4_hasSpan_1[k]? := by
  have h := LBX4_hasSpanr_0 (16 + k)
  rw [show 0 + (16 + k) = 16 + k by omega] at h
  rw [h]
  exact (List.getElem?_append_right (l₁ := LBX4_hasSpan_0) (l₂ := LRX4_hasSpan_1) (show 16 ≤ 16 + k by omega)).trans (congrArg (fun i => LRX4_hasSpan_1[i]?) (show 16 + k - 16 = k by omega))
theorem dX4_hasSpan_0 : decode cX4_hasSpan 0 = .ok (.iload_n 1, 1) := dk_27_ (show cX4_hasSpan.data.toList[0]? = some 0x1b from (LBX4_hasSpanr_0 0).trans (by decide +kernel))
theorem dX4_hasSpan_1 : decode cX4_hasSpan 1 = .ok (.ifCond .lt 29, 3) := dk_155_ (show cX4_hasSpan.data.toList[1]? = some 0x9b from (LBX4_hasSpanr_0 1).trans (by decide +kernel)) (show cX4_hasSpan.data.toList[2]? = some 0x00 from (LBX4_hasSpanr_0 2).trans (by decide +kernel)) (show cX4_hasSpan.data.toList[3]? = some 0x1d from (LBX4_hasSpanr_0 3).trans (by decide +kernel)) (by decide)
theorem dX4_hasSpan_4 : decode cX4_hasSpan 4 = .ok (.iload_n 2, 1) := dk_28_ (show cX4_hasSpan.data.toList[4]? = some 0x1c from (LBX4_hasSpanr_0 4).trans (by decide +kernel))
theorem dX4_hasSpan_5 : decode cX4_hasSpan 5 = .ok (.ifCond .lt 25, 3) := dk_155_ (show cX4_hasSpan.data.toList[5]? = some 0x9b from (LBX4_hasSpanr_0 5).trans (by decide +kernel)) (show cX4_hasSpan.data.toList[6]? = some 0x00 from (LBX4_hasSpanr_0 6).trans (by decide +kernel)) (show cX4_hasSpan.data.toList[7]? = some 0x19 from (LBX4_hasSpanr_0 7).trans (by decide +kernel)) (by decide)
theorem dX4_hasSpan_8 : decode cX4_hasSpan 8 = .ok (.iload_n 2, 1) := dk_28_ (show cX4_hasSpan.data.toList[8]? = some 0x1c from (LBX4_hasSpanr_0 8).trans (by decide +kernel))
theorem dX4_hasSpan_9 : decode cX4_hasSpan 9 = .ok (.aload_n 0, 1) := dk_42_ (show cX4_hasSpan.data.toList[9]? = some 0x2a from (LBX4_hasSpanr_0 9).trans (by decide +kernel))
theorem dX4_hasSpan_10 : decode cX4_hasSpan 10 = .ok (.getfield 15, 3) := dk_180_ (show cX4_hasSpan.data.toList[10]? = some 0xb4 from (LBX4_hasSpanr_0 10).trans (by decide +kernel)) (show cX4_hasSpan.data.toList[11]? = some 0x00 from (LBX4_hasSpanr_0 11).trans (by decide +kernel)) (show cX4_hasSpan.data.toList[12]? = some 0x0f from (LBX4_hasSpanr_0 12).trans (by decide +kernel)) (by decide)
theorem dX4_hasSpan_13 : decode cX4_hasSpan 13 = .ok (.if_icmp .gt 17, 3) := dk_163_ (show cX4_hasSpan.data.toList[13]? = some 0xa3 from (LBX4_hasSpanr_0 13).trans (by decide +kernel)) (show cX4_hasSpan.data.toList[14]? = some 0x00 from (LBX4_hasSpanr_0 14).trans (by decide +kernel)) (show cX4_hasSpan.data.toList[15]? = some 0x11 from (LBX4_hasSpanr_0 15).trans (by decide +kernel)) (by decide)
theorem dX4_hasSpan_16 : decode cX4_hasSpan 16 = .ok (.iload_n 1, 1) := dk_27_ (show cX4_hasSpan.data.toList[16]? = some 0x1b from (LBX4_hasSpanr_1 0).trans (by decide +kernel))
theorem dX4_hasSpan_17 : decode cX4_hasSpan 17 = .ok (.aload_n 0, 1) := dk_42_ (show cX4_hasSpan.data.toList[17]? = some 0x2a from (LBX4_hasSpanr_1 1).trans (by decide +kernel))
theorem dX4_hasSpan_18 : decode cX4_hasSpan 18 = .ok (.getfield 15, 3) := dk_180_ (show cX4_hasSpan.data.toList[18]? = some 0xb4 from (LBX4_hasSpanr_1 2).trans (by decide +kernel)) (show cX4_hasSpan.data.toList[19]? = some 0x00 from (LBX4_hasSpanr_1 3).trans (by decide +kernel)) (show cX4_hasSpan.data.toList[20]? = some 0x0f from (LBX4_hasSpanr_1 4).trans (by decide +kernel)) (by decide)
theorem dX4_hasSpan_21 : decode cX4_hasSpan 21 = .ok (.iload_n 2, 1) := dk_28_ (show cX4_hasSpan.data.toList[21]? = some 0x1c from (LBX4_hasSpanr_1 5).trans (by decide +kernel))
theorem dX4_hasSpan_22 : decode cX4_hasSpan 22 = .ok (.isub, 1) := dk_100_ (show cX4_hasSpan.data.toList[22]? = some 0x64 from (LBX4_hasSpanr_1 6).trans (by decide +kernel))
theorem dX4_hasSpan_23 : decode cX4_hasSpan 23 = .ok (.if_icmp .gt 7, 3) := dk_163_ (show cX4_hasSpan.data.toList[23]? = some 0xa3 from (LBX4_hasSpanr_1 7).trans (by decide +kernel)) (show cX4_hasSpan.data.toList[24]? = some 0x00 from (LBX4_hasSpanr_1 8).trans (by decide +kernel)) (show cX4_hasSpan.data.toList[25]? = some 0x07 from (LBX4_hasSpanr_1 9).trans (by decide +kernel)) (by decide)
theorem dX4_hasSpan_26 : decode cX4_hasSpan 26 = .ok (.iconst 1, 1) := dk_4_ (show cX4_hasSpan.data.toList[26]? = some 0x04 from (LBX4_hasSpanr_1 10).trans (by decide +kernel))
theorem dX4_hasSpan_27 : decode cX4_hasSpan 27 = .ok (.goto 4, 3) := dk_167_ (show cX4_hasSpan.data.toList[27]? = some 0xa7 from (LBX4_hasSpanr_1 11).trans (by decide +kernel)) (show cX4_hasSpan.data.toList[28]? = some 0x00 from (LBX4_hasSpanr_1 12).trans (by decide +kernel)) (show cX4_hasSpan.data.toList[29]? = some 0x04 from (LBX4_hasSpanr_1 13).trans (by decide +kernel)) (by decide)
theorem dX4_hasSpan_30 : decode cX4_hasSpan 30 = .ok (.iconst 0, 1) := dk_3_ (show cX4_hasSpan.data.toList[30]? = some 0x03 from (LBX4_hasSpanr_1 14).trans (by decide +kernel))
theorem dX4_hasSpan_31 : decode cX4_hasSpan 31 = .ok (.ireturn, 1) := dk_172_ (show cX4_hasSpan.data.toList[31]? = some 0xac from (LBX4_hasSpanr_1 15).trans (by decide +kernel))
def LRX8_isUnder_3 : List UInt8 := []
def LBX8_isUnder_2 : List UInt8 := [0x01, 0xa7, 0xff, 0xe3, 0x03, 0xac]
def LRX8_isUnder_2 : List UInt8 := LBX8_isUnder_2 ++ LRX8_isUnder_3
def LBX8_isUnder_1 : List UInt8 := [0x16, 0x1c, 0x1b, 0xa0, 0x00, 0x05, 0x04, 0xac, 0xb2, 0x01, 0x53, 0x1c, 0x2e, 0x3d, 0x84, 0x03]
def LRX8_isUnder_1 : List UInt8 := LBX8_isUnder_1 ++ LRX8_isUnder_2
def LBX8_isUnder_0 : List UInt8 := [0x1a, 0x3d, 0x03, 0x3e, 0x1d, 0x10, 0x07, 0xa2, 0x00, 0x1d, 0x1c, 0xb8, 0x00, 0x9b, 0x99, 0x00]
def LRX8_isUnder_0 : List UInt8 := LBX8_isUnder_0 ++ LRX8_isUnder_1
set_option maxRecDepth 100000 in
theorem LBX8_isUnder_eq : cX8_isUnder.data.toList = LRX8_isUnder_0 := by decide +kernel
theorem LBX8_isUnderr_0 (k : Nat) : cX8_isUnder.data.toList[0 + k]? = LRX8_isUnder_0[k]? := by rw [LBX8_isUnder_eq, Nat.zero_add]
theorem LBX8_isUnderr_1 (k : Nat) : cX8_isUnder.data.toList[16 + k]? = LRX8_isUnder_1[k]? := by
  have h := LBX8_isUnderr_0 (16 + k)
  rw [show 0 + (16 + k) = 16 + k by omega] at h
  rw [h]
  exact (List.getElem?_append_right (l₁ := LBX8_isUnder_0) (l₂ := LRX8_isUnder_1) (show 16 ≤ 16 + k by omega)).trans (congrArg (fun i => LRX8_isUnder_1[i]?) (show 16 + k - 16 = k by omega))
theorem LBX8_isUnderr_2 (k : Nat) : cX8_isUnder.data.toList[32 + k]? = LRX8_isUnder_2[k]? := by
  have h := LBX8_isUnderr_1 (16 + k)
  rw [show 16 + (16 + k) = 32 + k by omega] at h
  rw [h]
  exact (List.getElem?_append_right (l₁ := LBX8_isUnder_1) (l₂ := LRX8_isUnder_2) (show 16 ≤ 16 + k by omega)).trans (congrArg (fun i => LRX8_isUnder_2[i]?) (show 16 + k - 16 = k by omega))
theorem dX8_isUnder_0 : decode cX8_isUnder 0 = .ok (.iload_n 0, 1) := dk_26_ (show cX8_isUnder.data.toList[0]? = some 0x1a from (LBX8_isUnderr_0 0).trans (by decide +kernel))
theorem dX8_isUnder_1 : decode cX8_isUnder 1 = .ok (.istore_n 2, 1) := dk_61_ (show cX8_isUnder.data.toList[1]? = some 0x3d from (LBX8_isUnderr_0 1).trans (by decide +kernel))
theorem dX8_isUnder_2 : decode cX8_isUnder 2 = .ok (.iconst 0, 1) := dk_3_ (show cX8_isUnder.data.toList[2]? = some 0x03 from (LBX8_isUnderr_0 2).trans (by decide +kernel))
theorem dX8_isUnder_3 : decode cX8_isUnder 3 = .ok (.istore_n 3, 1) := dk_62_ (show cX8_isUnder.data.toList[3]? = some 0x3e from (LBX8_isUnderr_0 3).trans (by decide +kernel))
theorem dX8_isUnder_4 : decode cX8_isUnder 4 = .ok (.iload_n 3, 1) := dk_29_ (show cX8_isUnder.data.toList[4]? = some 0x1d from (LBX8_isUnderr_0 4).trans (by decide +kernel))
theorem dX8_isUnder_5 : decode cX8_isUnder 5 = .ok (.bipush 7, 2) := dk_16_ (show cX8_isUnder.data.toList[5]? = some 0x10 from (LBX8_isUnderr_0 5).trans (by decide +kernel)) (show cX8_isUnder.data.toList[6]? = some 0x07 from (LBX8_isUnderr_0 6).trans (by decide +kernel)) (by decide)
theorem dX8_isUnder_7 : decode cX8_isUnder 7 = .ok (.if_icmp .ge 29, 3) := dk_162_ (show cX8_isUnder.data.toList[7]? = some 0xa2 from (LBX8_isUnderr_0 7).trans (by decide +kernel)) (show cX8_isUnder.data.toList[8]? = some 0x00 from (LBX8_isUnderr_0 8).trans (by decide +kernel)) (show cX8_isUnder.data.toList[9]? = some 0x1d from (LBX8_isUnderr_0 9).trans (by decide +kernel)) (by decide)
theorem dX8_isUnder_10 : decode cX8_isUnder 10 = .ok (.iload_n 2, 1) := dk_28_ (show cX8_isUnder.data.toList[10]? = some 0x1c from (LBX8_isUnderr_0 10).trans (by decide +kernel))
theorem dX8_isUnder_11 : decode cX8_isUnder 11 = .ok (.invokestatic 155, 3) := dk_184_ (show cX8_isUnder.data.toList[11]? = some 0xb8 from (LBX8_isUnderr_0 11).trans (by decide +kernel)) (show cX8_isUnder.data.toList[12]? = some 0x00 from (LBX8_isUnderr_0 12).trans (by decide +kernel)) (show cX8_isUnder.data.toList[13]? = some 0x9b from (LBX8_isUnderr_0 13).trans (by decide +kernel)) (by decide)
theorem dX8_isUnder_14 : decode cX8_isUnder 14 = .ok (.ifCond .eq 22, 3) := dk_153_ (show cX8_isUnder.data.toList[14]? = some 0x99 from (LBX8_isUnderr_0 14).trans (by decide +kernel)) (show cX8_isUnder.data.toList[15]? = some 0x00 from (LBX8_isUnderr_0 15).trans (by decide +kernel)) (show cX8_isUnder.data.toList[16]? = some 0x16 from (LBX8_isUnderr_1 0).trans (by decide +kernel)) (by decide)
theorem dX8_isUnder_17 : decode cX8_isUnder 17 = .ok (.iload_n 2, 1) := dk_28_ (show cX8_isUnder.data.toList[17]? = some 0x1c from (LBX8_isUnderr_1 1).trans (by decide +kernel))
theorem dX8_isUnder_18 : decode cX8_isUnder 18 = .ok (.iload_n 1, 1) := dk_27_ (show cX8_isUnder.data.toList[18]? = some 0x1b from (LBX8_isUnderr_1 2).trans (by decide +kernel))
theorem dX8_isUnder_19 : decode cX8_isUnder 19 = .ok (.if_icmp .ne 5, 3) := dk_160_ (show cX8_isUnder.data.toList[19]? = some 0xa0 from (LBX8_isUnderr_1 3).trans (by decide +kernel)) (show cX8_isUnder.data.toList[20]? = some 0x00 from (LBX8_isUnderr_1 4).trans (by decide +kernel)) (show cX8_isUnder.data.toList[21]? = some 0x05 from (LBX8_isUnderr_1 5).trans (by decide +kernel)) (by decide)
theorem dX8_isUnder_22 : decode cX8_isUnder 22 = .ok (.iconst 1, 1) := dk_4_ (show cX8_isUnder.data.toList[22]? = some 0x04 from (LBX8_isUnderr_1 6).trans (by decide +kernel))
theorem dX8_isUnder_23 : decode cX8_isUnder 23 = .ok (.ireturn, 1) := dk_172_ (show cX8_isUnder.data.toList[23]? = some 0xac from (LBX8_isUnderr_1 7).trans (by decide +kernel))
theorem dX8_isUnder_24 : decode cX8_isUnder 24 = .ok (.getstatic 339, 3) := dk_178_ (show cX8_isUnder.data.toList[24]? = some 0xb2 from (LBX8_isUnderr_1 8).trans (by decide +kernel)) (show cX8_isUnder.data.toList[25]? = some 0x01 from (LBX8_isUnderr_1 9).trans (by decide +kernel)) (show cX8_isUnder.data.toList[26]? = some 0x53 from (LBX8_isUnderr_1 10).trans (by decide +kernel)) (by decide)
theorem dX8_isUnder_27 : decode cX8_isUnder 27 = .ok (.iload_n 2, 1) := dk_28_ (show cX8_isUnder.data.toList[27]? = some 0x1c from (LBX8_isUnderr_1 11).trans (by decide +kernel))
theorem dX8_isUnder_28 : decode cX8_isUnder 28 = .ok (.iaload, 1) := dk_46_ (show cX8_isUnder.data.toList[28]? = some 0x2e from (LBX8_isUnderr_1 12).trans (by decide +kernel))
theorem dX8_isUnder_29 : decode cX8_isUnder 29 = .ok (.istore_n 2, 1) := dk_61_ (show cX8_isUnder.data.toList[29]? = some 0x3d from (LBX8_isUnderr_1 13).trans (by decide +kernel))
theorem dX8_isUnder_30 : decode cX8_isUnder 30 = .ok (.iinc 3 1, 3) := dk_132_ (show cX8_isUnder.data.toList[30]? = some 0x84 from (LBX8_isUnderr_1 14).trans (by decide +kernel)) (show cX8_isUnder.data.toList[31]? = some 0x03 from (LBX8_isUnderr_1 15).trans (by decide +kernel)) (show cX8_isUnder.data.toList[32]? = some 0x01 from (LBX8_isUnderr_2 0).trans (by decide +kernel)) (by decide) (by decide)
theorem dX8_isUnder_33 : decode cX8_isUnder 33 = .ok (.goto (-29), 3) := dk_167_ (show cX8_isUnder.data.toList[33]? = some 0xa7 from (LBX8_isUnderr_2 1).trans (by decide +kernel)) (show cX8_isUnder.data.toList[34]? = some 0xff from (LBX8_isUnderr_2 2).trans (by decide +kernel)) (show cX8_isUnder.data.toList[35]? = some 0xe3 from (LBX8_isUnderr_2 3).trans (by decide +kernel)) (by decide)
theorem dX8_isUnder_36 : decode cX8_isUnder 36 = .ok (.iconst 0, 1) := dk_3_ (show cX8_isUnder.data.toList[36]? = some 0x03 from (LBX8_isUnderr_2 4).trans (by decide +kernel))
theorem dX8_isUnder_37 : decode cX8_isUnder 37 = .ok (.ireturn, 1) := dk_172_ (show cX8_isUnder.data.toList[37]? = some 0xac from (LBX8_isUnderr_2 5).trans (by decide +kernel))
theorem uw380 : Cond.methodLink RX1 47 arraycopyName ∈ wsU := ut3 (List.mem_of_getElem? (i := 157) rfl) rfl
theorem uw381 : Cond.methodLink RX1 53 yX3_become ∈ wsU := ut3 (List.mem_of_getElem? (i := 160) rfl) rfl
theorem uw382 : Cond.instanceMethod yX3_become ∈ wsU := ut3 (List.mem_of_getElem? (i := 161) rfl) rfl
theorem uw383 : Cond.selects RX3 yX3_become yX3_become ∈ wsU := ut3 (List.mem_of_getElem? (i := 162) rfl) rfl
theorem uw384 : Cond.code yX3_become cX3_become 2 none ∈ wsU := ut3 (List.mem_of_getElem? (i := 163) rfl) rfl
theorem uw385 : Cond.fieldLink RX4 9 "LongerBack$Sheet" "bits" "I" ∈ wsU := ut1 (List.mem_of_getElem? (i := 195) rfl) rfl
theorem uw386 : Cond.lays RX4 "LongerBack$Sheet" "bits" "I" ∈ wsU := ut1 (List.mem_of_getElem? (i := 201) rfl) rfl
theorem uw387 : Cond.lays RX4 "LongerBack$Sheet" "size" "I" ∈ wsU := ut1 (List.mem_of_getElem? (i := 203) rfl) rfl
theorem uw388 : Cond.laysFinal RX4 "LongerBack$Sheet" "numbers" "[J" ∈ wsU := ut1 (List.mem_of_getElem? (i := 205) rfl) rfl
theorem uw389 : Cond.fieldLink RX4 15 "LongerBack$Sheet" "size" "I" ∈ wsU := ut1 (List.mem_of_getElem? (i := 197) rfl) rfl
theorem uw390 : Cond.fieldLink RX4 18 "LongerBack$Sheet" "numbers" "[J" ∈ wsU := ut1 (List.mem_of_getElem? (i := 199) rfl) rfl
theorem uw391 : Cond.methodLink RX8 155 yX8_isKind ∈ wsU := ut2 (List.mem_of_getElem? (i := 168) rfl) rfl
theorem uw392 : Cond.static yX8_isKind ∈ wsU := ut2 (List.mem_of_getElem? (i := 169) rfl) rfl
theorem uw393 : Cond.initialized yX8_isKind.cls ∈ wsU := ut1 (List.mem_of_getElem? (i := 1) rfl) rfl
theorem uw394 : Cond.code yX8_isKind cX8_isKind 1 (some .boolean) ∈ wsU := ut2 (List.mem_of_getElem? (i := 170) rfl) rfl
theorem uw395 : Cond.fieldLink RX8 339 "LongerBack" "ABOVE" "[I" ∈ wsU := ut3 (List.mem_of_getElem? (i := 37) rfl) rfl
theorem inUX4 : ∀ w ∈ u_ws RX4 TX4 3, w ∈ wsU := List.forall_mem_cons.mpr ⟨uw386, List.forall_mem_cons.mpr ⟨uw387, List.forall_mem_cons.mpr ⟨uw388, fun _ h => absurd h List.not_mem_nil⟩⟩⟩
theorem kv_X1_53 : xWV RX1 53 RX3 yX3_become cX3_become 2 none 1 := ⟨⟨uw381, uw382, uw383, uw42, uw384⟩, by decide +kernel⟩
theorem kf_X4_9 : xWF RX4 9 4 0 RX4 TX4 3 := ⟨inUX4, rfl, by decide, uw385⟩
theorem kf_X4_15 : xWF RX4 15 4 1 RX4 TX4 3 := ⟨inUX4, rfl, by decide, uw389⟩
theorem kf_X4_18 : xWF RX4 18 4 2 RX4 TX4 3 := ⟨inUX4, rfl, by decide, uw390⟩
theorem ks_X8_155 : xWS RX8 155 yX8_isKind cX8_isKind 1 (some .boolean) 1 := ⟨⟨uw391, uw392, uw393, uw394⟩, by decide +kernel⟩
set_option maxHeartbeats 4000000 in
set_option maxRecDepth 100000 in
theorem c_X1_become (l : Launch) (D : va_G) (cI cJ cZ cS : ClassId) (ta : Nat) (sa sv : Nat → Nat) (sz : Nat) (h0 : Nat) (q1 : Nat) (ae : Nat) (al : Nat) (au : Nat) (ao : Nat) (ar : Nat) (ak : Nat) (aw : Nat) (att : Nat) (ass : Nat) (aRn : Nat) (aRp : Nat) (aWn : Nat) (aWp : Nat) (Pa : Nat) (Ra : Nat) (Wa : Nat) (fae : Nat → Int32) (fal : Nat → Int32) (fau : Nat → Int32) (fao : Nat → Int32) (farn : Nat → Int32) (farp : Nat → Int32) (fak : Nat → Int32) (fawn : Nat → Int32) (fawp : Nat → Int32) (fat : Nat → Int32) (fas : Nat → Int32) (be : Nat) (bl : Nat) (bu : Nat) (bo : Nat) (br : Nat) (bk : Nat) (bw : Nat) (btt : Nat) (bss : Nat) (bRn : Nat) (bRp : Nat) (bWn : Nat) (bWp : Nat) (Pb : Nat) (Rb : Nat) (Wb : Nat) (fbe : Nat → Int32) (fbl : Nat → Int32) (fbu : Nat → Int32) (fbo : Nat → Int32) (fbrn : Nat → Int32) (fbrp : Nat → Int32) (fbk : Nat → Int32) (fbwn : Nat → Int32) (fbwp : Nat → Int32) (fbt : Nat → Int32) (fbs : Nat → Int32) (harn : BA 8 7 farn) (harp : BA 48 10 farp) (hawn : BA 8 7 fawn) (hawp : BA 48 10 fawp) (hbrn : BA 8 7 fbrn) (hbrp : BA 48 10 fbrp) (hbwn : BA 8 7 fbwn) (hbwp : BA 48 10 fbwp) : Met l yX1_become (Cond.code yX1_become cX1_become 2 none :: wsU) ({ frames := 2, cells := 0, slots := 0, locals := 81 }) (va_Pc [.ref h0, .ref q1] (XW D (xT cI cJ cZ cS) ta sa sv [(h0, .inr (1, [.int (nI (Pa)), .ref ae, .ref al, .ref au, .ref ao, .ref ar, .ref ak, .ref aw, .ref att, .ref ass])), (ae, .inl (cI, 10, .inl fae)), (al, .inl (cI, 100, .inl fal)), (au, .inl (cI, 100, .inl fau)), (ao, .inl (cI, 100, .inl fao)), (ar, .inr (3, [.int (nI (Ra)), .ref aRn, .ref aRp])), (aRn, .inl (cI, 8, .inl farn)), (aRp, .inl (cI, 48, .inl farp)), (ak, .inl (cI, 8, .inl fak)), (aw, .inr (3, [.int (nI (Wa)), .ref aWn, .ref aWp])), (aWn, .inl (cI, 8, .inl fawn)), (aWp, .inl (cI, 48, .inl fawp)), (att, .inl (cI, 8, .inl fat)), (ass, .inl (cI, 8, .inl fas)), (q1, .inr (1, [.int (nI (Pb)), .ref be, .ref bl, .ref bu, .ref bo, .ref br, .ref bk, .ref bw, .ref btt, .ref bss])), (be, .inl (cI, 10, .inl fbe)), (bl, .inl (cI, 100, .inl fbl)), (bu, .inl (cI, 100, .inl fbu)), (bo, .inl (cI, 100, .inl fbo)), (br, .inr (3, [.int (nI (Rb)), .ref bRn, .ref bRp])), (bRn, .inl (cI, 8, .inl fbrn)), (bRp, .inl (cI, 48, .inl fbrp)), (bk, .inl (cI, 8, .inl fbk)), (bw, .inr (3, [.int (nI (Wb)), .ref bWn, .ref bWp])), (bWn, .inl (cI, 8, .inl fbwn)), (bWp, .inl (cI, 48, .inl fbwp)), (btt, .inl (cI, 8, .inl fbt)), (bss, .inl (cI, 8, .inl fbs))] sz)) (XQv (fun (u : (Nat → Int32) × (Nat → Int32) × (Nat → Int32) × (Nat → Int32) × (Nat → Int32) × (Nat → Int32) × (Nat → Int32) × (Nat → Int32) × (Nat → Int32) × (Nat → Int32) × (Nat → Int32)) => match u with | (ge, gl, gu, go, grn, grp, gk, gwn, gwp, gt, gs) => (BA 8 7 grn) ∧ (BA 48 10 grp) ∧ (BA 8 7 gwn) ∧ (BA 48 10 gwp) ∧ (∀ j, j < 10 → ge j = fbe j) ∧ (∀ j, j < 100 → gl j = fbl j) ∧ (∀ j, j < 100 → gu j = fbu j) ∧ (∀ j, j < 100 → go j = fbo j) ∧ (∀ j, j < 8 → grn j = fbrn j) ∧ (∀ j, j < 48 → grp j = fbrp j) ∧ (∀ j, j < 8 → gk j = fbk j) ∧ (∀ j, j < 8 → gwn j = fbwn j) ∧ (∀ j, j < 48 → gwp j = fbwp j) ∧ (∀ j, j < 8 → gt j = fbt j) ∧ (∀ j, j < 8 → gs j = fbs j)) D (fun (u : (Nat → Int32) × (Nat → Int32) × (Nat → Int32) × (Nat → Int32) × (Nat → Int32) × (Nat → Int32) × (Nat → Int32) × (Nat → Int32) × (Nat → Int32) × (Nat → Int32) × (Nat → Int32)) => match u with | (ge, gl, gu, go, grn, grp, gk, gwn, gwp, gt, gs) => [(h0, .inr (1, [.int (nI (Pb)), .ref ae, .ref al, .ref au, .ref ao, .ref ar, .ref ak, .ref aw, .ref att, .ref ass])), (ae, .inl (cI, 10, .inl ge)), (al, .inl (cI, 100, .inl gl)), (au, .inl (cI, 100, .inl gu)), (ao, .inl (cI, 100, .inl go)), (ar, .inr (3, [.int (nI (Rb)), .ref aRn, .ref aRp])), (aRn, .inl (cI, 8, .inl grn)), (aRp, .inl (cI, 48, .inl grp)), (ak, .inl (cI, 8, .inl gk)), (aw, .inr (3, [.int (nI (Wb)), .ref aWn, .ref aWp])), (aWn, .inl (cI, 8, .inl gwn)), (aWp, .inl (cI, 48, .inl gwp)), (att, .inl (cI, 8, .inl gt)), (ass, .inl (cI, 8, .inl gs)), (q1, .inr (1, [.int (nI (Pb)), .ref be, .ref bl, .ref bu, .ref bo, .ref br, .ref bk, .ref bw, .ref btt, .ref bss])), (be, .inl (cI, 10, .inl fbe)), (bl, .inl (cI, 100, .inl fbl)), (bu, .inl (cI, 100, .inl fbu)), (bo, .inl (cI, 100, .inl fbo)), (br, .inr (3, [.int (nI (Rb)), .ref bRn, .ref bRp])), (bRn, .inl (cI, 8, .inl fbrn)), (bRp, .inl (cI, 48, .inl fbrp)), (bk, .inl (cI, 8, .inl fbk)), (bw, .inr (3, [.int (nI (Wb)), .ref bWn, .ref bWp])), (bWn, .inl (cI, 8, .inl fbwn)), (bWp, .inl (cI, 48, .inl fbwp)), (btt, .inl (cI, 8, .inl fbt)), (bss, .inl (cI, 8, .inl fbs))]) (va_A [(h0, .inr (1, [.int (nI (Pa)), .ref ae, .ref al, .ref au, .ref ao, .ref ar, .ref ak, .ref aw, .ref att, .ref ass])), (ae, .inl (cI, 10, .inl fae)), (al, .inl (cI, 100, .inl fal)), (au, .inl (cI, 100, .inl fau)), (ao, .inl (cI, 100, .inl fao)), (ar, .inr (3, [.int (nI (Ra)), .ref aRn, .ref aRp])), (aRn, .inl (cI, 8, .inl farn)), (aRp, .inl (cI, 48, .inl farp)), (ak, .inl (cI, 8, .inl fak)), (aw, .inr (3, [.int (nI (Wa)), .ref aWn, .ref aWp])), (aWn, .inl (cI, 8, .inl fawn)), (aWp, .inl (cI, 48, .inl fawp)), (att, .inl (cI, 8, .inl fat)), (ass, .inl (cI, 8, .inl fas)), (q1, .inr (1, [.int (nI (Pb)), .ref be, .ref bl, .ref bu, .ref bo, .ref br, .ref bk, .ref bw, .ref btt, .ref bss])), (be, .inl (cI, 10, .inl fbe)), (bl, .inl (cI, 100, .inl fbl)), (bu, .inl (cI, 100, .inl fbu)), (bo, .inl (cI, 100, .inl fbo)), (br, .inr (3, [.int (nI (Rb)), .ref bRn, .ref bRp])), (bRn, .inl (cI, 8, .inl fbrn)), (bRp, .inl (cI, 48, .inl fbrp)), (bk, .inl (cI, 8, .inl fbk)), (bw, .inr (3, [.int (nI (Wb)), .ref bWn, .ref bWp])), (bWn, .inl (cI, 8, .inl fbwn)), (bWp, .inl (cI, 48, .inl fbwp)), (btt, .inl (cI, 8, .inl fbt)), (bss, .inl (cI, 8, .inl fbs))] sz)) 0 0 (va_A [(h0, .inr (1, [.int (nI (Pa)), .ref ae, .ref al, .ref au, .ref ao, .ref ar, .ref ak, .ref aw, .ref att, .ref ass])), (ae, .inl (cI, 10, .inl fae)), (al, .inl (cI, 100, .inl fal)), (au, .inl (cI, 100, .inl fau)), (ao, .inl (cI, 100, .inl fao)), (ar, .inr (3, [.int (nI (Ra)), .ref aRn, .ref aRp])), (aRn, .inl (cI, 8, .inl farn)), (aRp, .inl (cI, 48, .inl farp)), (ak, .inl (cI, 8, .inl fak)), (aw, .inr (3, [.int (nI (Wa)), .ref aWn, .ref aWp])), (aWn, .inl (cI, 8, .inl fawn)), (aWp, .inl (cI, 48, .inl fawp)), (att, .inl (cI, 8, .inl fat)), (ass, .inl (cI, 8, .inl fas)), (q1, .inr (1, [.int (nI (Pb)), .ref be, .ref bl, .ref bu, .ref bo, .ref br, .ref bk, .ref bw, .ref btt, .ref bss])), (be, .inl (cI, 10, .inl fbe)), (bl, .inl (cI, 100, .inl fbl)), (bu, .inl (cI, 100, .inl fbu)), (bo, .inl (cI, 100, .inl fbo)), (br, .inr (3, [.int (nI (Rb)), .ref bRn, .ref bRp])), (bRn, .inl (cI, 8, .inl fbrn)), (bRp, .inl (cI, 48, .inl fbrp)), (bk, .inl (cI, 8, .inl fbk)), (bw, .inr (3, [.int (nI (Wb)), .ref bWn, .ref bWp])), (bWn, .inl (cI, 8, .inl fbwn)), (bWp, .inl (cI, 48, .inl fbwp)), (btt, .inl (cI, 8, .inl fbt)), (bss, .inl (cI, 8, .inl fbs))] sz) := by
  refine xh (QA := fun A => XQv (fun (u : (Nat → Int32) × (Nat → Int32) × (Nat → Int32) × (Nat → Int32) × (Nat → Int32) × (Nat → Int32) × (Nat → Int32) × (Nat → Int32) × (Nat → Int32) × (Nat → Int32) × (Nat → Int32)) => match u with | (ge, gl, gu, go, grn, grp, gk, gwn, gwp, gt, gs) => (BA 8 7 grn) ∧ (BA 48 10 grp) ∧ (BA 8 7 gwn) ∧ (BA 48 10 gwp) ∧ (∀ j, j < 10 → ge j = fbe j) ∧ (∀ j, j < 100 → gl j = fbl j) ∧ (∀ j, j < 100 → gu j = fbu j) ∧ (∀ j, j < 100 → go j = fbo j) ∧ (∀ j, j < 8 → grn j = fbrn j) ∧ (∀ j, j < 48 → grp j = fbrp j) ∧ (∀ j, j < 8 → gk j = fbk j) ∧ (∀ j, j < 8 → gwn j = fbwn j) ∧ (∀ j, j < 48 → gwp j = fbwp j) ∧ (∀ j, j < 8 → gt j = fbt j) ∧ (∀ j, j < 8 → gs j = fbs j)) D (fun (u : (Nat → Int32) × (Nat → Int32) × (Nat → Int32) × (Nat → Int32) × (Nat → Int32) × (Nat → Int32) × (Nat → Int32) × (Nat → Int32) × (Nat → Int32) × (Nat → Int32) × (Nat → Int32)) => match u with | (ge, gl, gu, go, grn, grp, gk, gwn, gwp, gt, gs) => [(h0, .inr (1, [.int (nI (Pb)), .ref ae, .ref al, .ref au, .ref ao, .ref ar, .ref ak, .ref aw, .ref att, .ref ass])), (ae, .inl (cI, 10, .inl ge)), (al, .inl (cI, 100, .inl gl)), (au, .inl (cI, 100, .inl gu)), (ao, .inl (cI, 100, .inl go)), (ar, .inr (3, [.int (nI (Rb)), .ref aRn, .ref aRp])), (aRn, .inl (cI, 8, .inl grn)), (aRp, .inl (cI, 48, .inl grp)), (ak, .inl (cI, 8, .inl gk)), (aw, .inr (3, [.int (nI (Wb)), .ref aWn, .ref aWp])), (aWn, .inl (cI, 8, .inl gwn)), (aWp, .inl (cI, 48, .inl gwp)), (att, .inl (cI, 8, .inl gt)), (ass, .inl (cI, 8, .inl gs)), (q1, .inr (1, [.int (nI (Pb)), .ref be, .ref bl, .ref bu, .ref bo, .ref br, .ref bk, .ref bw, .ref btt, .ref bss])), (be, .inl (cI, 10, .inl fbe)), (bl, .inl (cI, 100, .inl fbl)), (bu, .inl (cI, 100, .inl fbu)), (bo, .inl (cI, 100, .inl fbo)), (br, .inr (3, [.int (nI (Rb)), .ref bRn, .ref bRp])), (bRn, .inl (cI, 8, .inl fbrn)), (bRp, .inl (cI, 48, .inl fbrp)), (bk, .inl (cI, 8, .inl fbk)), (bw, .inr (3, [.int (nI (Wb)), .ref bWn, .ref bWp])), (bWn, .inl (cI, 8, .inl fbwn)), (bWp, .inl (cI, 48, .inl fbwp)), (btt, .inl (cI, 8, .inl fbt)), (bss, .inl (cI, 8, .inl fbs))]) A) (fr := fun A => A) (by decide) (Nat.le_of_ble_eq_true rfl) ?_
  intro p e s m below meth c ls A hF hr hlk hin hsz hP hK hD hN hZ hA hS hl
  have hF : CallFix p m c cX1_become 2 s _ _ RX1 := hF
  have hx := hF.1
  have hb := hF.2.1
  have hml := hF.2.2.1
  have hown := hF.2.2.2.1
  have hu : ∀ w ∈ wsU, w.before _ s = true := fun w h => hF.2.2.2.2 w (List.mem_cons_of_mem _ h)
  have hl : lv_has ls 2 [(0, .ref h0), (1, .ref q1)] := hl
  refine lv_aload_n hx hb dX1_become_0 rfl (lv_at hl 0 rfl) ?_
  refine lv_aload_n hx hb dX1_become_1 rfl (lv_at hl 1 rfl) ?_
  refine xg hF kf_X1_9 hK hP 14 rfl rfl dX1_become_2 ?_
  refine xp hF kf_X1_9 tyX1_ok nmX1 hK hP hD hS 0 rfl rfl rfl rfl (Nat.le_of_ble_eq_true rfl) dX1_become_5 (fun H locs hP hD hS => ?_)
  have hP : va_P D vwCl [(h0, .inr (1, [.int (nI (Pb)), .ref ae, .ref al, .ref au, .ref ao, .ref ar, .ref ak, .ref aw, .ref att, .ref ass])), (ae, .inl (cI, 10, .inl fae)), (al, .inl (cI, 100, .inl fal)), (au, .inl (cI, 100, .inl fau)), (ao, .inl (cI, 100, .inl fao)), (ar, .inr (3, [.int (nI (Ra)), .ref aRn, .ref aRp])), (aRn, .inl (cI, 8, .inl farn)), (aRp, .inl (cI, 48, .inl farp)), (ak, .inl (cI, 8, .inl fak)), (aw, .inr (3, [.int (nI (Wa)), .ref aWn, .ref aWp])), (aWn, .inl (cI, 8, .inl fawn)), (aWp, .inl (cI, 48, .inl fawp)), (att, .inl (cI, 8, .inl fat)), (ass, .inl (cI, 8, .inl fas)), (q1, .inr (1, [.int (nI (Pb)), .ref be, .ref bl, .ref bu, .ref bo, .ref br, .ref bk, .ref bw, .ref btt, .ref bss])), (be, .inl (cI, 10, .inl fbe)), (bl, .inl (cI, 100, .inl fbl)), (bu, .inl (cI, 100, .inl fbu)), (bo, .inl (cI, 100, .inl fbo)), (br, .inr (3, [.int (nI (Rb)), .ref bRn, .ref bRp])), (bRn, .inl (cI, 8, .inl fbrn)), (bRp, .inl (cI, 48, .inl fbrp)), (bk, .inl (cI, 8, .inl fbk)), (bw, .inr (3, [.int (nI (Wb)), .ref bWn, .ref bWp])), (bWn, .inl (cI, 8, .inl fbwn)), (bWp, .inl (cI, 48, .inl fbwp)), (btt, .inl (cI, 8, .inl fbt)), (bss, .inl (cI, 8, .inl fbs))] H := hP
  have hD : va_D A [(h0, .inr (1, [.int (nI (Pb)), .ref ae, .ref al, .ref au, .ref ao, .ref ar, .ref ak, .ref aw, .ref att, .ref ass])), (ae, .inl (cI, 10, .inl fae)), (al, .inl (cI, 100, .inl fal)), (au, .inl (cI, 100, .inl fau)), (ao, .inl (cI, 100, .inl fao)), (ar, .inr (3, [.int (nI (Ra)), .ref aRn, .ref aRp])), (aRn, .inl (cI, 8, .inl farn)), (aRp, .inl (cI, 48, .inl farp)), (ak, .inl (cI, 8, .inl fak)), (aw, .inr (3, [.int (nI (Wa)), .ref aWn, .ref aWp])), (aWn, .inl (cI, 8, .inl fawn)), (aWp, .inl (cI, 48, .inl fawp)), (att, .inl (cI, 8, .inl fat)), (ass, .inl (cI, 8, .inl fas)), (q1, .inr (1, [.int (nI (Pb)), .ref be, .ref bl, .ref bu, .ref bo, .ref br, .ref bk, .ref bw, .ref btt, .ref bss])), (be, .inl (cI, 10, .inl fbe)), (bl, .inl (cI, 100, .inl fbl)), (bu, .inl (cI, 100, .inl fbu)), (bo, .inl (cI, 100, .inl fbo)), (br, .inr (3, [.int (nI (Rb)), .ref bRn, .ref bRp])), (bRn, .inl (cI, 8, .inl fbrn)), (bRp, .inl (cI, 48, .inl fbrp)), (bk, .inl (cI, 8, .inl fbk)), (bw, .inr (3, [.int (nI (Wb)), .ref bWn, .ref bWp])), (bWn, .inl (cI, 8, .inl fbwn)), (bWp, .inl (cI, 48, .inl fbwp)), (btt, .inl (cI, 8, .inl fbt)), (bss, .inl (cI, 8, .inl fbs))] := hD
  refine lv_aload_n hx hb dX1_become_8 rfl (lv_at hl 1 rfl) ?_
  refine xg hF kf_X1_15 hK hP 14 rfl rfl dX1_become_9 ?_
  refine lv_iconst (v := 0) hx hb dX1_become_12 (by decide) ?_
  refine lv_aload_n hx hb dX1_become_13 rfl (lv_at hl 0 rfl) ?_
  refine xg hF kf_X1_15 hK hP 0 rfl rfl dX1_become_14 ?_
  refine lv_iconst (v := 0) hx hb dX1_become_17 (by decide) ?_
  refine lv_bipush (v := 10) hx hb dX1_become_18 (by decide) ?_
  refine va_copyi hx hb (hml.trans hl.1.symm) hown (hu _ uw380) (hu _ uw49) (hu _ uw50) (hu _ uw51) hK hP hD hS 15 1 0 0 rfl rfl rfl rfl rfl (by decide) (by decide) (by decide) (by decide) (by decide) (fun _ _ => rfl) (Nat.le_of_ble_eq_true rfl) (by decide) dX1_become_20 (fun H locs hP hD hS => ?_)
  obtain ⟨f_1, ef_1⟩ : ∃ g, g = va_cpy fbe fae (0 : Int32).toNatClampNeg (0 : Int32).toNatClampNeg (10 : Int32).toNatClampNeg := ⟨_, rfl⟩
  rw [← ef_1] at hP hD
  have hP : va_P D vwCl [(h0, .inr (1, [.int (nI (Pb)), .ref ae, .ref al, .ref au, .ref ao, .ref ar, .ref ak, .ref aw, .ref att, .ref ass])), (ae, .inl (cI, 10, .inl f_1)), (al, .inl (cI, 100, .inl fal)), (au, .inl (cI, 100, .inl fau)), (ao, .inl (cI, 100, .inl fao)), (ar, .inr (3, [.int (nI (Ra)), .ref aRn, .ref aRp])), (aRn, .inl (cI, 8, .inl farn)), (aRp, .inl (cI, 48, .inl farp)), (ak, .inl (cI, 8, .inl fak)), (aw, .inr (3, [.int (nI (Wa)), .ref aWn, .ref aWp])), (aWn, .inl (cI, 8, .inl fawn)), (aWp, .inl (cI, 48, .inl fawp)), (att, .inl (cI, 8, .inl fat)), (ass, .inl (cI, 8, .inl fas)), (q1, .inr (1, [.int (nI (Pb)), .ref be, .ref bl, .ref bu, .ref bo, .ref br, .ref bk, .ref bw, .ref btt, .ref bss])), (be, .inl (cI, 10, .inl fbe)), (bl, .inl (cI, 100, .inl fbl)), (bu, .inl (cI, 100, .inl fbu)), (bo, .inl (cI, 100, .inl fbo)), (br, .inr (3, [.int (nI (Rb)), .ref bRn, .ref bRp])), (bRn, .inl (cI, 8, .inl fbrn)), (bRp, .inl (cI, 48, .inl fbrp)), (bk, .inl (cI, 8, .inl fbk)), (bw, .inr (3, [.int (nI (Wb)), .ref bWn, .ref bWp])), (bWn, .inl (cI, 8, .inl fbwn)), (bWp, .inl (cI, 48, .inl fbwp)), (btt, .inl (cI, 8, .inl fbt)), (bss, .inl (cI, 8, .inl fbs))] H := hP
  have hD : va_D A [(h0, .inr (1, [.int (nI (Pb)), .ref ae, .ref al, .ref au, .ref ao, .ref ar, .ref ak, .ref aw, .ref att, .ref ass])), (ae, .inl (cI, 10, .inl f_1)), (al, .inl (cI, 100, .inl fal)), (au, .inl (cI, 100, .inl fau)), (ao, .inl (cI, 100, .inl fao)), (ar, .inr (3, [.int (nI (Ra)), .ref aRn, .ref aRp])), (aRn, .inl (cI, 8, .inl farn)), (aRp, .inl (cI, 48, .inl farp)), (ak, .inl (cI, 8, .inl fak)), (aw, .inr (3, [.int (nI (Wa)), .ref aWn, .ref aWp])), (aWn, .inl (cI, 8, .inl fawn)), (aWp, .inl (cI, 48, .inl fawp)), (att, .inl (cI, 8, .inl fat)), (ass, .inl (cI, 8, .inl fas)), (q1, .inr (1, [.int (nI (Pb)), .ref be, .ref bl, .ref bu, .ref bo, .ref br, .ref bk, .ref bw, .ref btt, .ref bss])), (be, .inl (cI, 10, .inl fbe)), (bl, .inl (cI, 100, .inl fbl)), (bu, .inl (cI, 100, .inl fbu)), (bo, .inl (cI, 100, .inl fbo)), (br, .inr (3, [.int (nI (Rb)), .ref bRn, .ref bRp])), (bRn, .inl (cI, 8, .inl fbrn)), (bRp, .inl (cI, 48, .inl fbrp)), (bk, .inl (cI, 8, .inl fbk)), (bw, .inr (3, [.int (nI (Wb)), .ref bWn, .ref bWp])), (bWn, .inl (cI, 8, .inl fbwn)), (bWp, .inl (cI, 48, .inl fbwp)), (btt, .inl (cI, 8, .inl fbt)), (bss, .inl (cI, 8, .inl fbs))] := hD
  refine lv_aload_n hx hb dX1_become_23 rfl (lv_at hl 1 rfl) ?_
  refine xg hF kf_X1_19 hK hP 14 rfl rfl dX1_become_24 ?_
  refine lv_iconst (v := 0) hx hb dX1_become_27 (by decide) ?_
  refine lv_aload_n hx hb dX1_become_28 rfl (lv_at hl 0 rfl) ?_
  refine xg hF kf_X1_19 hK hP 0 rfl rfl dX1_become_29 ?_
  refine lv_iconst (v := 0) hx hb dX1_become_32 (by decide) ?_
  refine lv_bipush (v := 100) hx hb dX1_become_33 (by decide) ?_
  refine va_copyi hx hb (hml.trans hl.1.symm) hown (hu _ uw380) (hu _ uw49) (hu _ uw50) (hu _ uw51) hK hP hD hS 16 2 0 0 rfl rfl rfl rfl rfl (by decide) (by decide) (by decide) (by decide) (by decide) (fun _ _ => rfl) (Nat.le_of_ble_eq_true rfl) (by decide) dX1_become_35 (fun H locs hP hD hS => ?_)
  obtain ⟨f_2, ef_2⟩ : ∃ g, g = va_cpy fbl fal (0 : Int32).toNatClampNeg (0 : Int32).toNatClampNeg (100 : Int32).toNatClampNeg := ⟨_, rfl⟩
  rw [← ef_2] at hP hD
  have hP : va_P D vwCl [(h0, .inr (1, [.int (nI (Pb)), .ref ae, .ref al, .ref au, .ref ao, .ref ar, .ref ak, .ref aw, .ref att, .ref ass])), (ae, .inl (cI, 10, .inl f_1)), (al, .inl (cI, 100, .inl f_2)), (au, .inl (cI, 100, .inl fau)), (ao, .inl (cI, 100, .inl fao)), (ar, .inr (3, [.int (nI (Ra)), .ref aRn, .ref aRp])), (aRn, .inl (cI, 8, .inl farn)), (aRp, .inl (cI, 48, .inl farp)), (ak, .inl (cI, 8, .inl fak)), (aw, .inr (3, [.int (nI (Wa)), .ref aWn, .ref aWp])), (aWn, .inl (cI, 8, .inl fawn)), (aWp, .inl (cI, 48, .inl fawp)), (att, .inl (cI, 8, .inl fat)), (ass, .inl (cI, 8, .inl fas)), (q1, .inr (1, [.int (nI (Pb)), .ref be, .ref bl, .ref bu, .ref bo, .ref br, .ref bk, .ref bw, .ref btt, .ref bss])), (be, .inl (cI, 10, .inl fbe)), (bl, .inl (cI, 100, .inl fbl)), (bu, .inl (cI, 100, .inl fbu)), (bo, .inl (cI, 100, .inl fbo)), (br, .inr (3, [.int (nI (Rb)), .ref bRn, .ref bRp])), (bRn, .inl (cI, 8, .inl fbrn)), (bRp, .inl (cI, 48, .inl fbrp)), (bk, .inl (cI, 8, .inl fbk)), (bw, .inr (3, [.int (nI (Wb)), .ref bWn, .ref bWp])), (bWn, .inl (cI, 8, .inl fbwn)), (bWp, .inl (cI, 48, .inl fbwp)), (btt, .inl (cI, 8, .inl fbt)), (bss, .inl (cI, 8, .inl fbs))] H := hP
  have hD : va_D A [(h0, .inr (1, [.int (nI (Pb)), .ref ae, .ref al, .ref au, .ref ao, .ref ar, .ref ak, .ref aw, .ref att, .ref ass])), (ae, .inl (cI, 10, .inl f_1)), (al, .inl (cI, 100, .inl f_2)), (au, .inl (cI, 100, .inl fau)), (ao, .inl (cI, 100, .inl fao)), (ar, .inr (3, [.int (nI (Ra)), .ref aRn, .ref aRp])), (aRn, .inl (cI, 8, .inl farn)), (aRp, .inl (cI, 48, .inl farp)), (ak, .inl (cI, 8, .inl fak)), (aw, .inr (3, [.int (nI (Wa)), .ref aWn, .ref aWp])), (aWn, .inl (cI, 8, .inl fawn)), (aWp, .inl (cI, 48, .inl fawp)), (att, .inl (cI, 8, .inl fat)), (ass, .inl (cI, 8, .inl fas)), (q1, .inr (1, [.int (nI (Pb)), .ref be, .ref bl, .ref bu, .ref bo, .ref br, .ref bk, .ref bw, .ref btt, .ref bss])), (be, .inl (cI, 10, .inl fbe)), (bl, .inl (cI, 100, .inl fbl)), (bu, .inl (cI, 100, .inl fbu)), (bo, .inl (cI, 100, .inl fbo)), (br, .inr (3, [.int (nI (Rb)), .ref bRn, .ref bRp])), (bRn, .inl (cI, 8, .inl fbrn)), (bRp, .inl (cI, 48, .inl fbrp)), (bk, .inl (cI, 8, .inl fbk)), (bw, .inr (3, [.int (nI (Wb)), .ref bWn, .ref bWp])), (bWn, .inl (cI, 8, .inl fbwn)), (bWp, .inl (cI, 48, .inl fbwp)), (btt, .inl (cI, 8, .inl fbt)), (bss, .inl (cI, 8, .inl fbs))] := hD
  refine lv_aload_n hx hb dX1_become_38 rfl (lv_at hl 1 rfl) ?_
  refine xg hF kf_X1_22 hK hP 14 rfl rfl dX1_become_39 ?_
  refine lv_iconst (v := 0) hx hb dX1_become_42 (by decide) ?_
  refine lv_aload_n hx hb dX1_become_43 rfl (lv_at hl 0 rfl) ?_
  refine xg hF kf_X1_22 hK hP 0 rfl rfl dX1_become_44 ?_
  refine lv_iconst (v := 0) hx hb dX1_become_47 (by decide) ?_
  refine lv_bipush (v := 100) hx hb dX1_become_48 (by decide) ?_
  refine va_copyi hx hb (hml.trans hl.1.symm) hown (hu _ uw380) (hu _ uw49) (hu _ uw50) (hu _ uw51) hK hP hD hS 17 3 0 0 rfl rfl rfl rfl rfl (by decide) (by decide) (by decide) (by decide) (by decide) (fun _ _ => rfl) (Nat.le_of_ble_eq_true rfl) (by decide) dX1_become_50 (fun H locs hP hD hS => ?_)
  obtain ⟨f_3, ef_3⟩ : ∃ g, g = va_cpy fbu fau (0 : Int32).toNatClampNeg (0 : Int32).toNatClampNeg (100 : Int32).toNatClampNeg := ⟨_, rfl⟩
  rw [← ef_3] at hP hD
  have hP : va_P D vwCl [(h0, .inr (1, [.int (nI (Pb)), .ref ae, .ref al, .ref au, .ref ao, .ref ar, .ref ak, .ref aw, .ref att, .ref ass])), (ae, .inl (cI, 10, .inl f_1)), (al, .inl (cI, 100, .inl f_2)), (au, .inl (cI, 100, .inl f_3)), (ao, .inl (cI, 100, .inl fao)), (ar, .inr (3, [.int (nI (Ra)), .ref aRn, .ref aRp])), (aRn, .inl (cI, 8, .inl farn)), (aRp, .inl (cI, 48, .inl farp)), (ak, .inl (cI, 8, .inl fak)), (aw, .inr (3, [.int (nI (Wa)), .ref aWn, .ref aWp])), (aWn, .inl (cI, 8, .inl fawn)), (aWp, .inl (cI, 48, .inl fawp)), (att, .inl (cI, 8, .inl fat)), (ass, .inl (cI, 8, .inl fas)), (q1, .inr (1, [.int (nI (Pb)), .ref be, .ref bl, .ref bu, .ref bo, .ref br, .ref bk, .ref bw, .ref btt, .ref bss])), (be, .inl (cI, 10, .inl fbe)), (bl, .inl (cI, 100, .inl fbl)), (bu, .inl (cI, 100, .inl fbu)), (bo, .inl (cI, 100, .inl fbo)), (br, .inr (3, [.int (nI (Rb)), .ref bRn, .ref bRp])), (bRn, .inl (cI, 8, .inl fbrn)), (bRp, .inl (cI, 48, .inl fbrp)), (bk, .inl (cI, 8, .inl fbk)), (bw, .inr (3, [.int (nI (Wb)), .ref bWn, .ref bWp])), (bWn, .inl (cI, 8, .inl fbwn)), (bWp, .inl (cI, 48, .inl fbwp)), (btt, .inl (cI, 8, .inl fbt)), (bss, .inl (cI, 8, .inl fbs))] H := hP
  have hD : va_D A [(h0, .inr (1, [.int (nI (Pb)), .ref ae, .ref al, .ref au, .ref ao, .ref ar, .ref ak, .ref aw, .ref att, .ref ass])), (ae, .inl (cI, 10, .inl f_1)), (al, .inl (cI, 100, .inl f_2)), (au, .inl (cI, 100, .inl f_3)), (ao, .inl (cI, 100, .inl fao)), (ar, .inr (3, [.int (nI (Ra)), .ref aRn, .ref aRp])), (aRn, .inl (cI, 8, .inl farn)), (aRp, .inl (cI, 48, .inl farp)), (ak, .inl (cI, 8, .inl fak)), (aw, .inr (3, [.int (nI (Wa)), .ref aWn, .ref aWp])), (aWn, .inl (cI, 8, .inl fawn)), (aWp, .inl (cI, 48, .inl fawp)), (att, .inl (cI, 8, .inl fat)), (ass, .inl (cI, 8, .inl fas)), (q1, .inr (1, [.int (nI (Pb)), .ref be, .ref bl, .ref bu, .ref bo, .ref br, .ref bk, .ref bw, .ref btt, .ref bss])), (be, .inl (cI, 10, .inl fbe)), (bl, .inl (cI, 100, .inl fbl)), (bu, .inl (cI, 100, .inl fbu)), (bo, .inl (cI, 100, .inl fbo)), (br, .inr (3, [.int (nI (Rb)), .ref bRn, .ref bRp])), (bRn, .inl (cI, 8, .inl fbrn)), (bRp, .inl (cI, 48, .inl fbrp)), (bk, .inl (cI, 8, .inl fbk)), (bw, .inr (3, [.int (nI (Wb)), .ref bWn, .ref bWp])), (bWn, .inl (cI, 8, .inl fbwn)), (bWp, .inl (cI, 48, .inl fbwp)), (btt, .inl (cI, 8, .inl fbt)), (bss, .inl (cI, 8, .inl fbs))] := hD
  refine lv_aload_n hx hb dX1_become_53 rfl (lv_at hl 1 rfl) ?_
  refine xg hF kf_X1_25 hK hP 14 rfl rfl dX1_become_54 ?_
  refine lv_iconst (v := 0) hx hb dX1_become_57 (by decide) ?_
  refine lv_aload_n hx hb dX1_become_58 rfl (lv_at hl 0 rfl) ?_
  refine xg hF kf_X1_25 hK hP 0 rfl rfl dX1_become_59 ?_
  refine lv_iconst (v := 0) hx hb dX1_become_62 (by decide) ?_
  refine lv_bipush (v := 100) hx hb dX1_become_63 (by decide) ?_
  refine va_copyi hx hb (hml.trans hl.1.symm) hown (hu _ uw380) (hu _ uw49) (hu _ uw50) (hu _ uw51) hK hP hD hS 18 4 0 0 rfl rfl rfl rfl rfl (by decide) (by decide) (by decide) (by decide) (by decide) (fun _ _ => rfl) (Nat.le_of_ble_eq_true rfl) (by decide) dX1_become_65 (fun H locs hP hD hS => ?_)
  obtain ⟨f_4, ef_4⟩ : ∃ g, g = va_cpy fbo fao (0 : Int32).toNatClampNeg (0 : Int32).toNatClampNeg (100 : Int32).toNatClampNeg := ⟨_, rfl⟩
  rw [← ef_4] at hP hD
  have hP : va_P D vwCl [(h0, .inr (1, [.int (nI (Pb)), .ref ae, .ref al, .ref au, .ref ao, .ref ar, .ref ak, .ref aw, .ref att, .ref ass])), (ae, .inl (cI, 10, .inl f_1)), (al, .inl (cI, 100, .inl f_2)), (au, .inl (cI, 100, .inl f_3)), (ao, .inl (cI, 100, .inl f_4)), (ar, .inr (3, [.int (nI (Ra)), .ref aRn, .ref aRp])), (aRn, .inl (cI, 8, .inl farn)), (aRp, .inl (cI, 48, .inl farp)), (ak, .inl (cI, 8, .inl fak)), (aw, .inr (3, [.int (nI (Wa)), .ref aWn, .ref aWp])), (aWn, .inl (cI, 8, .inl fawn)), (aWp, .inl (cI, 48, .inl fawp)), (att, .inl (cI, 8, .inl fat)), (ass, .inl (cI, 8, .inl fas)), (q1, .inr (1, [.int (nI (Pb)), .ref be, .ref bl, .ref bu, .ref bo, .ref br, .ref bk, .ref bw, .ref btt, .ref bss])), (be, .inl (cI, 10, .inl fbe)), (bl, .inl (cI, 100, .inl fbl)), (bu, .inl (cI, 100, .inl fbu)), (bo, .inl (cI, 100, .inl fbo)), (br, .inr (3, [.int (nI (Rb)), .ref bRn, .ref bRp])), (bRn, .inl (cI, 8, .inl fbrn)), (bRp, .inl (cI, 48, .inl fbrp)), (bk, .inl (cI, 8, .inl fbk)), (bw, .inr (3, [.int (nI (Wb)), .ref bWn, .ref bWp])), (bWn, .inl (cI, 8, .inl fbwn)), (bWp, .inl (cI, 48, .inl fbwp)), (btt, .inl (cI, 8, .inl fbt)), (bss, .inl (cI, 8, .inl fbs))] H := hP
  have hD : va_D A [(h0, .inr (1, [.int (nI (Pb)), .ref ae, .ref al, .ref au, .ref ao, .ref ar, .ref ak, .ref aw, .ref att, .ref ass])), (ae, .inl (cI, 10, .inl f_1)), (al, .inl (cI, 100, .inl f_2)), (au, .inl (cI, 100, .inl f_3)), (ao, .inl (cI, 100, .inl f_4)), (ar, .inr (3, [.int (nI (Ra)), .ref aRn, .ref aRp])), (aRn, .inl (cI, 8, .inl farn)), (aRp, .inl (cI, 48, .inl farp)), (ak, .inl (cI, 8, .inl fak)), (aw, .inr (3, [.int (nI (Wa)), .ref aWn, .ref aWp])), (aWn, .inl (cI, 8, .inl fawn)), (aWp, .inl (cI, 48, .inl fawp)), (att, .inl (cI, 8, .inl fat)), (ass, .inl (cI, 8, .inl fas)), (q1, .inr (1, [.int (nI (Pb)), .ref be, .ref bl, .ref bu, .ref bo, .ref br, .ref bk, .ref bw, .ref btt, .ref bss])), (be, .inl (cI, 10, .inl fbe)), (bl, .inl (cI, 100, .inl fbl)), (bu, .inl (cI, 100, .inl fbu)), (bo, .inl (cI, 100, .inl fbo)), (br, .inr (3, [.int (nI (Rb)), .ref bRn, .ref bRp])), (bRn, .inl (cI, 8, .inl fbrn)), (bRp, .inl (cI, 48, .inl fbrp)), (bk, .inl (cI, 8, .inl fbk)), (bw, .inr (3, [.int (nI (Wb)), .ref bWn, .ref bWp])), (bWn, .inl (cI, 8, .inl fbwn)), (bWp, .inl (cI, 48, .inl fbwp)), (btt, .inl (cI, 8, .inl fbt)), (bss, .inl (cI, 8, .inl fbs))] := hD
  refine lv_aload_n hx hb dX1_become_68 rfl (lv_at hl 0 rfl) ?_
  refine xg hF kf_X1_31 hK hP 0 rfl rfl dX1_become_69 ?_
  refine lv_aload_n hx hb dX1_become_72 rfl (lv_at hl 1 rfl) ?_
  refine xg hF kf_X1_31 hK hP 14 rfl rfl dX1_become_73 ?_
  refine xc_Vv (wr := [(h0, .inr (1, [.int (nI (Pb)), .ref ae, .ref al, .ref au, .ref ao, .ref ar, .ref ak, .ref aw, .ref att, .ref ass])), (ae, .inl (cI, 10, .inl f_1)), (al, .inl (cI, 100, .inl f_2)), (au, .inl (cI, 100, .inl f_3)), (ao, .inl (cI, 100, .inl f_4)), (ak, .inl (cI, 8, .inl fak)), (aw, .inr (3, [.int (nI (Wa)), .ref aWn, .ref aWp])), (aWn, .inl (cI, 8, .inl fawn)), (aWp, .inl (cI, 48, .inl fawp)), (att, .inl (cI, 8, .inl fat)), (ass, .inl (cI, 8, .inl fas)), (q1, .inr (1, [.int (nI (Pb)), .ref be, .ref bl, .ref bu, .ref bo, .ref br, .ref bk, .ref bw, .ref btt, .ref bss])), (be, .inl (cI, 10, .inl fbe)), (bl, .inl (cI, 100, .inl fbl)), (bu, .inl (cI, 100, .inl fbu)), (bo, .inl (cI, 100, .inl fbo)), (bk, .inl (cI, 8, .inl fbk)), (bw, .inr (3, [.int (nI (Wb)), .ref bWn, .ref bWp])), (bWn, .inl (cI, 8, .inl fbwn)), (bWp, .inl (cI, 48, .inl fbwp)), (btt, .inl (cI, 8, .inl fbt)), (bss, .inl (cI, 8, .inl fbs))]) hF (c_X3_become l D cI cJ cZ cS ta sa sv H.size ar aRn aRp Ra br bRn bRp Rb farn farp fbrn fbrp harn harp hbrn hbrp) kv_X1_53 ⟨rfl, rfl, Nat.le_of_ble_eq_true rfl, Nat.le_of_ble_eq_true rfl⟩ ⟨Nat.le_of_ble_eq_true rfl, Nat.le_of_ble_eq_true rfl⟩ hK hN hZ hP hD hS hA [5, 6, 7, 19, 20, 21] [0, 1, 2, 3, 4, 8, 9, 10, 11, 12, 13, 14, 15, 16, 17, 18, 22, 23, 24, 25, 26, 27] rfl rfl (by decide +kernel) (by decide +kernel) (by decide +kernel) 0 rfl rfl rfl rfl hl.1 rfl (Nat.le_of_ble_eq_true rfl) dX1_become_76 (fun u_r_5 H locs hw_r_5 hP hD hS => ?_)
  obtain ⟨l2_6, s2_7⟩ := u_r_5
  try dsimp only at hw_r_5
  obtain ⟨i_8, i_9, i_10, i_11⟩ := hw_r_5
  have hP : va_P D vwCl [(h0, .inr (1, [.int (nI (Pb)), .ref ae, .ref al, .ref au, .ref ao, .ref ar, .ref ak, .ref aw, .ref att, .ref ass])), (ae, .inl (cI, 10, .inl f_1)), (al, .inl (cI, 100, .inl f_2)), (au, .inl (cI, 100, .inl f_3)), (ao, .inl (cI, 100, .inl f_4)), (ak, .inl (cI, 8, .inl fak)), (aw, .inr (3, [.int (nI (Wa)), .ref aWn, .ref aWp])), (aWn, .inl (cI, 8, .inl fawn)), (aWp, .inl (cI, 48, .inl fawp)), (att, .inl (cI, 8, .inl fat)), (ass, .inl (cI, 8, .inl fas)), (q1, .inr (1, [.int (nI (Pb)), .ref be, .ref bl, .ref bu, .ref bo, .ref br, .ref bk, .ref bw, .ref btt, .ref bss])), (be, .inl (cI, 10, .inl fbe)), (bl, .inl (cI, 100, .inl fbl)), (bu, .inl (cI, 100, .inl fbu)), (bo, .inl (cI, 100, .inl fbo)), (bk, .inl (cI, 8, .inl fbk)), (bw, .inr (3, [.int (nI (Wb)), .ref bWn, .ref bWp])), (bWn, .inl (cI, 8, .inl fbwn)), (bWp, .inl (cI, 48, .inl fbwp)), (btt, .inl (cI, 8, .inl fbt)), (bss, .inl (cI, 8, .inl fbs)), (ar, .inr (3, [.int (nI (Rb)), .ref aRn, .ref aRp])), (aRn, .inl (cI, 8, .inl l2_6)), (aRp, .inl (cI, 48, .inl s2_7)), (br, .inr (3, [.int (nI (Rb)), .ref bRn, .ref bRp])), (bRn, .inl (cI, 8, .inl fbrn)), (bRp, .inl (cI, 48, .inl fbrp))] H := hP
  have hD : va_D A [(h0, .inr (1, [.int (nI (Pb)), .ref ae, .ref al, .ref au, .ref ao, .ref ar, .ref ak, .ref aw, .ref att, .ref ass])), (ae, .inl (cI, 10, .inl f_1)), (al, .inl (cI, 100, .inl f_2)), (au, .inl (cI, 100, .inl f_3)), (ao, .inl (cI, 100, .inl f_4)), (ak, .inl (cI, 8, .inl fak)), (aw, .inr (3, [.int (nI (Wa)), .ref aWn, .ref aWp])), (aWn, .inl (cI, 8, .inl fawn)), (aWp, .inl (cI, 48, .inl fawp)), (att, .inl (cI, 8, .inl fat)), (ass, .inl (cI, 8, .inl fas)), (q1, .inr (1, [.int (nI (Pb)), .ref be, .ref bl, .ref bu, .ref bo, .ref br, .ref bk, .ref bw, .ref btt, .ref bss])), (be, .inl (cI, 10, .inl fbe)), (bl, .inl (cI, 100, .inl fbl)), (bu, .inl (cI, 100, .inl fbu)), (bo, .inl (cI, 100, .inl fbo)), (bk, .inl (cI, 8, .inl fbk)), (bw, .inr (3, [.int (nI (Wb)), .ref bWn, .ref bWp])), (bWn, .inl (cI, 8, .inl fbwn)), (bWp, .inl (cI, 48, .inl fbwp)), (btt, .inl (cI, 8, .inl fbt)), (bss, .inl (cI, 8, .inl fbs)), (ar, .inr (3, [.int (nI (Rb)), .ref aRn, .ref aRp])), (aRn, .inl (cI, 8, .inl l2_6)), (aRp, .inl (cI, 48, .inl s2_7)), (br, .inr (3, [.int (nI (Rb)), .ref bRn, .ref bRp])), (bRn, .inl (cI, 8, .inl fbrn)), (bRp, .inl (cI, 48, .inl fbrp))] := hD
  refine lv_aload_n hx hb dX1_become_79 rfl (lv_at hl 1 rfl) ?_
  refine xg hF kf_X1_35 hK hP 11 rfl rfl dX1_become_80 ?_
  refine lv_iconst (v := 0) hx hb dX1_become_83 (by decide) ?_
  refine lv_aload_n hx hb dX1_become_84 rfl (lv_at hl 0 rfl) ?_
  refine xg hF kf_X1_35 hK hP 0 rfl rfl dX1_become_85 ?_
  refine lv_iconst (v := 0) hx hb dX1_become_88 (by decide) ?_
  refine lv_bipush (v := 8) hx hb dX1_become_89 (by decide) ?_
  refine va_copyi hx hb (hml.trans hl.1.symm) hown (hu _ uw380) (hu _ uw49) (hu _ uw50) (hu _ uw51) hK hP hD hS 16 5 0 0 rfl rfl rfl rfl rfl (by decide) (by decide) (by decide) (by decide) (by decide) (fun _ _ => rfl) (Nat.le_of_ble_eq_true rfl) (by decide) dX1_become_91 (fun H locs hP hD hS => ?_)
  obtain ⟨f_12, ef_12⟩ : ∃ g, g = va_cpy fbk fak (0 : Int32).toNatClampNeg (0 : Int32).toNatClampNeg (8 : Int32).toNatClampNeg := ⟨_, rfl⟩
  rw [← ef_12] at hP hD
  have hP : va_P D vwCl [(h0, .inr (1, [.int (nI (Pb)), .ref ae, .ref al, .ref au, .ref ao, .ref ar, .ref ak, .ref aw, .ref att, .ref ass])), (ae, .inl (cI, 10, .inl f_1)), (al, .inl (cI, 100, .inl f_2)), (au, .inl (cI, 100, .inl f_3)), (ao, .inl (cI, 100, .inl f_4)), (ak, .inl (cI, 8, .inl f_12)), (aw, .inr (3, [.int (nI (Wa)), .ref aWn, .ref aWp])), (aWn, .inl (cI, 8, .inl fawn)), (aWp, .inl (cI, 48, .inl fawp)), (att, .inl (cI, 8, .inl fat)), (ass, .inl (cI, 8, .inl fas)), (q1, .inr (1, [.int (nI (Pb)), .ref be, .ref bl, .ref bu, .ref bo, .ref br, .ref bk, .ref bw, .ref btt, .ref bss])), (be, .inl (cI, 10, .inl fbe)), (bl, .inl (cI, 100, .inl fbl)), (bu, .inl (cI, 100, .inl fbu)), (bo, .inl (cI, 100, .inl fbo)), (bk, .inl (cI, 8, .inl fbk)), (bw, .inr (3, [.int (nI (Wb)), .ref bWn, .ref bWp])), (bWn, .inl (cI, 8, .inl fbwn)), (bWp, .inl (cI, 48, .inl fbwp)), (btt, .inl (cI, 8, .inl fbt)), (bss, .inl (cI, 8, .inl fbs)), (ar, .inr (3, [.int (nI (Rb)), .ref aRn, .ref aRp])), (aRn, .inl (cI, 8, .inl l2_6)), (aRp, .inl (cI, 48, .inl s2_7)), (br, .inr (3, [.int (nI (Rb)), .ref bRn, .ref bRp])), (bRn, .inl (cI, 8, .inl fbrn)), (bRp, .inl (cI, 48, .inl fbrp))] H := hP
  have hD : va_D A [(h0, .inr (1, [.int (nI (Pb)), .ref ae, .ref al, .ref au, .ref ao, .ref ar, .ref ak, .ref aw, .ref att, .ref ass])), (ae, .inl (cI, 10, .inl f_1)), (al, .inl (cI, 100, .inl f_2)), (au, .inl (cI, 100, .inl f_3)), (ao, .inl (cI, 100, .inl f_4)), (ak, .inl (cI, 8, .inl f_12)), (aw, .inr (3, [.int (nI (Wa)), .ref aWn, .ref aWp])), (aWn, .inl (cI, 8, .inl fawn)), (aWp, .inl (cI, 48, .inl fawp)), (att, .inl (cI, 8, .inl fat)), (ass, .inl (cI, 8, .inl fas)), (q1, .inr (1, [.int (nI (Pb)), .ref be, .ref bl, .ref bu, .ref bo, .ref br, .ref bk, .ref bw, .ref btt, .ref bss])), (be, .inl (cI, 10, .inl fbe)), (bl, .inl (cI, 100, .inl fbl)), (bu, .inl (cI, 100, .inl fbu)), (bo, .inl (cI, 100, .inl fbo)), (bk, .inl (cI, 8, .inl fbk)), (bw, .inr (3, [.int (nI (Wb)), .ref bWn, .ref bWp])), (bWn, .inl (cI, 8, .inl fbwn)), (bWp, .inl (cI, 48, .inl fbwp)), (btt, .inl (cI, 8, .inl fbt)), (bss, .inl (cI, 8, .inl fbs)), (ar, .inr (3, [.int (nI (Rb)), .ref aRn, .ref aRp])), (aRn, .inl (cI, 8, .inl l2_6)), (aRp, .inl (cI, 48, .inl s2_7)), (br, .inr (3, [.int (nI (Rb)), .ref bRn, .ref bRp])), (bRn, .inl (cI, 8, .inl fbrn)), (bRp, .inl (cI, 48, .inl fbrp))] := hD
  refine lv_aload_n hx hb dX1_become_94 rfl (lv_at hl 0 rfl) ?_
  refine xg hF kf_X1_38 hK hP 0 rfl rfl dX1_become_95 ?_
  refine lv_aload_n hx hb dX1_become_98 rfl (lv_at hl 1 rfl) ?_
  refine xg hF kf_X1_38 hK hP 11 rfl rfl dX1_become_99 ?_
  refine xc_Vv (wr := [(h0, .inr (1, [.int (nI (Pb)), .ref ae, .ref al, .ref au, .ref ao, .ref ar, .ref ak, .ref aw, .ref att, .ref ass])), (ae, .inl (cI, 10, .inl f_1)), (al, .inl (cI, 100, .inl f_2)), (au, .inl (cI, 100, .inl f_3)), (ao, .inl (cI, 100, .inl f_4)), (ak, .inl (cI, 8, .inl f_12)), (att, .inl (cI, 8, .inl fat)), (ass, .inl (cI, 8, .inl fas)), (q1, .inr (1, [.int (nI (Pb)), .ref be, .ref bl, .ref bu, .ref bo, .ref br, .ref bk, .ref bw, .ref btt, .ref bss])), (be, .inl (cI, 10, .inl fbe)), (bl, .inl (cI, 100, .inl fbl)), (bu, .inl (cI, 100, .inl fbu)), (bo, .inl (cI, 100, .inl fbo)), (bk, .inl (cI, 8, .inl fbk)), (btt, .inl (cI, 8, .inl fbt)), (bss, .inl (cI, 8, .inl fbs)), (ar, .inr (3, [.int (nI (Rb)), .ref aRn, .ref aRp])), (aRn, .inl (cI, 8, .inl l2_6)), (aRp, .inl (cI, 48, .inl s2_7)), (br, .inr (3, [.int (nI (Rb)), .ref bRn, .ref bRp])), (bRn, .inl (cI, 8, .inl fbrn)), (bRp, .inl (cI, 48, .inl fbrp))]) hF (c_X3_become l D cI cJ cZ cS ta sa sv H.size aw aWn aWp Wa bw bWn bWp Wb fawn fawp fbwn fbwp hawn hawp hbwn hbwp) kv_X1_53 ⟨rfl, rfl, Nat.le_of_ble_eq_true rfl, Nat.le_of_ble_eq_true rfl⟩ ⟨Nat.le_of_ble_eq_true rfl, Nat.le_of_ble_eq_true rfl⟩ hK hN hZ hP hD hS hA [6, 7, 8, 17, 18, 19] [0, 1, 2, 3, 4, 5, 9, 10, 11, 12, 13, 14, 15, 16, 20, 21, 22, 23, 24, 25, 26, 27] rfl rfl (by decide +kernel) (by decide +kernel) (by decide +kernel) 0 rfl rfl rfl rfl hl.1 rfl (Nat.le_of_ble_eq_true rfl) dX1_become_102 (fun u_r_13 H locs hw_r_13 hP hD hS => ?_)
  obtain ⟨l2_14, s2_15⟩ := u_r_13
  try dsimp only at hw_r_13
  obtain ⟨i_16, i_17, i_18, i_19⟩ := hw_r_13
  have hP : va_P D vwCl [(h0, .inr (1, [.int (nI (Pb)), .ref ae, .ref al, .ref au, .ref ao, .ref ar, .ref ak, .ref aw, .ref att, .ref ass])), (ae, .inl (cI, 10, .inl f_1)), (al, .inl (cI, 100, .inl f_2)), (au, .inl (cI, 100, .inl f_3)), (ao, .inl (cI, 100, .inl f_4)), (ak, .inl (cI, 8, .inl f_12)), (att, .inl (cI, 8, .inl fat)), (ass, .inl (cI, 8, .inl fas)), (q1, .inr (1, [.int (nI (Pb)), .ref be, .ref bl, .ref bu, .ref bo, .ref br, .ref bk, .ref bw, .ref btt, .ref bss])), (be, .inl (cI, 10, .inl fbe)), (bl, .inl (cI, 100, .inl fbl)), (bu, .inl (cI, 100, .inl fbu)), (bo, .inl (cI, 100, .inl fbo)), (bk, .inl (cI, 8, .inl fbk)), (btt, .inl (cI, 8, .inl fbt)), (bss, .inl (cI, 8, .inl fbs)), (ar, .inr (3, [.int (nI (Rb)), .ref aRn, .ref aRp])), (aRn, .inl (cI, 8, .inl l2_6)), (aRp, .inl (cI, 48, .inl s2_7)), (br, .inr (3, [.int (nI (Rb)), .ref bRn, .ref bRp])), (bRn, .inl (cI, 8, .inl fbrn)), (bRp, .inl (cI, 48, .inl fbrp)), (aw, .inr (3, [.int (nI (Wb)), .ref aWn, .ref aWp])), (aWn, .inl (cI, 8, .inl l2_14)), (aWp, .inl (cI, 48, .inl s2_15)), (bw, .inr (3, [.int (nI (Wb)), .ref bWn, .ref bWp])), (bWn, .inl (cI, 8, .inl fbwn)), (bWp, .inl (cI, 48, .inl fbwp))] H := hP
  have hD : va_D A [(h0, .inr (1, [.int (nI (Pb)), .ref ae, .ref al, .ref au, .ref ao, .ref ar, .ref ak, .ref aw, .ref att, .ref ass])), (ae, .inl (cI, 10, .inl f_1)), (al, .inl (cI, 100, .inl f_2)), (au, .inl (cI, 100, .inl f_3)), (ao, .inl (cI, 100, .inl f_4)), (ak, .inl (cI, 8, .inl f_12)), (att, .inl (cI, 8, .inl fat)), (ass, .inl (cI, 8, .inl fas)), (q1, .inr (1, [.int (nI (Pb)), .ref be, .ref bl, .ref bu, .ref bo, .ref br, .ref bk, .ref bw, .ref btt, .ref bss])), (be, .inl (cI, 10, .inl fbe)), (bl, .inl (cI, 100, .inl fbl)), (bu, .inl (cI, 100, .inl fbu)), (bo, .inl (cI, 100, .inl fbo)), (bk, .inl (cI, 8, .inl fbk)), (btt, .inl (cI, 8, .inl fbt)), (bss, .inl (cI, 8, .inl fbs)), (ar, .inr (3, [.int (nI (Rb)), .ref aRn, .ref aRp])), (aRn, .inl (cI, 8, .inl l2_6)), (aRp, .inl (cI, 48, .inl s2_7)), (br, .inr (3, [.int (nI (Rb)), .ref bRn, .ref bRp])), (bRn, .inl (cI, 8, .inl fbrn)), (bRp, .inl (cI, 48, .inl fbrp)), (aw, .inr (3, [.int (nI (Wb)), .ref aWn, .ref aWp])), (aWn, .inl (cI, 8, .inl l2_14)), (aWp, .inl (cI, 48, .inl s2_15)), (bw, .inr (3, [.int (nI (Wb)), .ref bWn, .ref bWp])), (bWn, .inl (cI, 8, .inl fbwn)), (bWp, .inl (cI, 48, .inl fbwp))] := hD
  refine lv_aload_n hx hb dX1_become_105 rfl (lv_at hl 1 rfl) ?_
  refine xg hF kf_X1_41 hK hP 8 rfl rfl dX1_become_106 ?_
  refine lv_iconst (v := 0) hx hb dX1_become_109 (by decide) ?_
  refine lv_aload_n hx hb dX1_become_110 rfl (lv_at hl 0 rfl) ?_
  refine xg hF kf_X1_41 hK hP 0 rfl rfl dX1_become_111 ?_
  refine lv_iconst (v := 0) hx hb dX1_become_114 (by decide) ?_
  refine lv_bipush (v := 8) hx hb dX1_become_115 (by decide) ?_
  refine va_copyi hx hb (hml.trans hl.1.symm) hown (hu _ uw380) (hu _ uw49) (hu _ uw50) (hu _ uw51) hK hP hD hS 14 6 0 0 rfl rfl rfl rfl rfl (by decide) (by decide) (by decide) (by decide) (by decide) (fun _ _ => rfl) (Nat.le_of_ble_eq_true rfl) (by decide) dX1_become_117 (fun H locs hP hD hS => ?_)
  obtain ⟨f_20, ef_20⟩ : ∃ g, g = va_cpy fbt fat (0 : Int32).toNatClampNeg (0 : Int32).toNatClampNeg (8 : Int32).toNatClampNeg := ⟨_, rfl⟩
  rw [← ef_20] at hP hD
  have hP : va_P D vwCl [(h0, .inr (1, [.int (nI (Pb)), .ref ae, .ref al, .ref au, .ref ao, .ref ar, .ref ak, .ref aw, .ref att, .ref ass])), (ae, .inl (cI, 10, .inl f_1)), (al, .inl (cI, 100, .inl f_2)), (au, .inl (cI, 100, .inl f_3)), (ao, .inl (cI, 100, .inl f_4)), (ak, .inl (cI, 8, .inl f_12)), (att, .inl (cI, 8, .inl f_20)), (ass, .inl (cI, 8, .inl fas)), (q1, .inr (1, [.int (nI (Pb)), .ref be, .ref bl, .ref bu, .ref bo, .ref br, .ref bk, .ref bw, .ref btt, .ref bss])), (be, .inl (cI, 10, .inl fbe)), (bl, .inl (cI, 100, .inl fbl)), (bu, .inl (cI, 100, .inl fbu)), (bo, .inl (cI, 100, .inl fbo)), (bk, .inl (cI, 8, .inl fbk)), (btt, .inl (cI, 8, .inl fbt)), (bss, .inl (cI, 8, .inl fbs)), (ar, .inr (3, [.int (nI (Rb)), .ref aRn, .ref aRp])), (aRn, .inl (cI, 8, .inl l2_6)), (aRp, .inl (cI, 48, .inl s2_7)), (br, .inr (3, [.int (nI (Rb)), .ref bRn, .ref bRp])), (bRn, .inl (cI, 8, .inl fbrn)), (bRp, .inl (cI, 48, .inl fbrp)), (aw, .inr (3, [.int (nI (Wb)), .ref aWn, .ref aWp])), (aWn, .inl (cI, 8, .inl l2_14)), (aWp, .inl (cI, 48, .inl s2_15)), (bw, .inr (3, [.int (nI (Wb)), .ref bWn, .ref bWp])), (bWn, .inl (cI, 8, .inl fbwn)), (bWp, .inl (cI, 48, .inl fbwp))] H := hP
  have hD : va_D A [(h0, .inr (1, [.int (nI (Pb)), .ref ae, .ref al, .ref au, .ref ao, .ref ar, .ref ak, .ref aw, .ref att, .ref ass])), (ae, .inl (cI, 10, .inl f_1)), (al, .inl (cI, 100, .inl f_2)), (au, .inl (cI, 100, .inl f_3)), (ao, .inl (cI, 100, .inl f_4)), (ak, .inl (cI, 8, .inl f_12)), (att, .inl (cI, 8, .inl f_20)), (ass, .inl (cI, 8, .inl fas)), (q1, .inr (1, [.int (nI (Pb)), .ref be, .ref bl, .ref bu, .ref bo, .ref br, .ref bk, .ref bw, .ref btt, .ref bss])), (be, .inl (cI, 10, .inl fbe)), (bl, .inl (cI, 100, .inl fbl)), (bu, .inl (cI, 100, .inl fbu)), (bo, .inl (cI, 100, .inl fbo)), (bk, .inl (cI, 8, .inl fbk)), (btt, .inl (cI, 8, .inl fbt)), (bss, .inl (cI, 8, .inl fbs)), (ar, .inr (3, [.int (nI (Rb)), .ref aRn, .ref aRp])), (aRn, .inl (cI, 8, .inl l2_6)), (aRp, .inl (cI, 48, .inl s2_7)), (br, .inr (3, [.int (nI (Rb)), .ref bRn, .ref bRp])), (bRn, .inl (cI, 8, .inl fbrn)), (bRp, .inl (cI, 48, .inl fbrp)), (aw, .inr (3, [.int (nI (Wb)), .ref aWn, .ref aWp])), (aWn, .inl (cI, 8, .inl l2_14)), (aWp, .inl (cI, 48, .inl s2_15)), (bw, .inr (3, [.int (nI (Wb)), .ref bWn, .ref bWp])), (bWn, .inl (cI, 8, .inl fbwn)), (bWp, .inl (cI, 48, .inl fbwp))] := hD
  refine lv_aload_n hx hb dX1_become_120 rfl (lv_at hl 1 rfl) ?_
  refine xg hF kf_X1_44 hK hP 8 rfl rfl dX1_become_121 ?_
  refine lv_iconst (v := 0) hx hb dX1_become_124 (by decide) ?_
  refine lv_aload_n hx hb dX1_become_125 rfl (lv_at hl 0 rfl) ?_
  refine xg hF kf_X1_44 hK hP 0 rfl rfl dX1_become_126 ?_
  refine lv_iconst (v := 0) hx hb dX1_become_129 (by decide) ?_
  refine lv_bipush (v := 8) hx hb dX1_become_130 (by decide) ?_
  refine va_copyi hx hb (hml.trans hl.1.symm) hown (hu _ uw380) (hu _ uw49) (hu _ uw50) (hu _ uw51) hK hP hD hS 15 7 0 0 rfl rfl rfl rfl rfl (by decide) (by decide) (by decide) (by decide) (by decide) (fun _ _ => rfl) (Nat.le_of_ble_eq_true rfl) (by decide) dX1_become_132 (fun H locs hP hD hS => ?_)
  obtain ⟨f_21, ef_21⟩ : ∃ g, g = va_cpy fbs fas (0 : Int32).toNatClampNeg (0 : Int32).toNatClampNeg (8 : Int32).toNatClampNeg := ⟨_, rfl⟩
  rw [← ef_21] at hP hD
  have hP : va_P D vwCl [(h0, .inr (1, [.int (nI (Pb)), .ref ae, .ref al, .ref au, .ref ao, .ref ar, .ref ak, .ref aw, .ref att, .ref ass])), (ae, .inl (cI, 10, .inl f_1)), (al, .inl (cI, 100, .inl f_2)), (au, .inl (cI, 100, .inl f_3)), (ao, .inl (cI, 100, .inl f_4)), (ak, .inl (cI, 8, .inl f_12)), (att, .inl (cI, 8, .inl f_20)), (ass, .inl (cI, 8, .inl f_21)), (q1, .inr (1, [.int (nI (Pb)), .ref be, .ref bl, .ref bu, .ref bo, .ref br, .ref bk, .ref bw, .ref btt, .ref bss])), (be, .inl (cI, 10, .inl fbe)), (bl, .inl (cI, 100, .inl fbl)), (bu, .inl (cI, 100, .inl fbu)), (bo, .inl (cI, 100, .inl fbo)), (bk, .inl (cI, 8, .inl fbk)), (btt, .inl (cI, 8, .inl fbt)), (bss, .inl (cI, 8, .inl fbs)), (ar, .inr (3, [.int (nI (Rb)), .ref aRn, .ref aRp])), (aRn, .inl (cI, 8, .inl l2_6)), (aRp, .inl (cI, 48, .inl s2_7)), (br, .inr (3, [.int (nI (Rb)), .ref bRn, .ref bRp])), (bRn, .inl (cI, 8, .inl fbrn)), (bRp, .inl (cI, 48, .inl fbrp)), (aw, .inr (3, [.int (nI (Wb)), .ref aWn, .ref aWp])), (aWn, .inl (cI, 8, .inl l2_14)), (aWp, .inl (cI, 48, .inl s2_15)), (bw, .inr (3, [.int (nI (Wb)), .ref bWn, .ref bWp])), (bWn, .inl (cI, 8, .inl fbwn)), (bWp, .inl (cI, 48, .inl fbwp))] H := hP
  have hD : va_D A [(h0, .inr (1, [.int (nI (Pb)), .ref ae, .ref al, .ref au, .ref ao, .ref ar, .ref ak, .ref aw, .ref att, .ref ass])), (ae, .inl (cI, 10, .inl f_1)), (al, .inl (cI, 100, .inl f_2)), (au, .inl (cI, 100, .inl f_3)), (ao, .inl (cI, 100, .inl f_4)), (ak, .inl (cI, 8, .inl f_12)), (att, .inl (cI, 8, .inl f_20)), (ass, .inl (cI, 8, .inl f_21)), (q1, .inr (1, [.int (nI (Pb)), .ref be, .ref bl, .ref bu, .ref bo, .ref br, .ref bk, .ref bw, .ref btt, .ref bss])), (be, .inl (cI, 10, .inl fbe)), (bl, .inl (cI, 100, .inl fbl)), (bu, .inl (cI, 100, .inl fbu)), (bo, .inl (cI, 100, .inl fbo)), (bk, .inl (cI, 8, .inl fbk)), (btt, .inl (cI, 8, .inl fbt)), (bss, .inl (cI, 8, .inl fbs)), (ar, .inr (3, [.int (nI (Rb)), .ref aRn, .ref aRp])), (aRn, .inl (cI, 8, .inl l2_6)), (aRp, .inl (cI, 48, .inl s2_7)), (br, .inr (3, [.int (nI (Rb)), .ref bRn, .ref bRp])), (bRn, .inl (cI, 8, .inl fbrn)), (bRp, .inl (cI, 48, .inl fbrp)), (aw, .inr (3, [.int (nI (Wb)), .ref aWn, .ref aWp])), (aWn, .inl (cI, 8, .inl l2_14)), (aWp, .inl (cI, 48, .inl s2_15)), (bw, .inr (3, [.int (nI (Wb)), .ref bWn, .ref bWp])), (bWn, .inl (cI, 8, .inl fbwn)), (bWp, .inl (cI, 48, .inl fbwp))] := hD
  exact W.vret hx hb hr (fun t ht hW => ⟨⟨(f_1, f_2, f_3, f_4, l2_6, s2_7, f_12, l2_14, s2_15, f_20, f_21), rfl, ⟨i_8, i_9, i_16, i_17, (fun j hj => by rw [ef_1]; exact sb_cpy0 (n := 10) hj), (fun j hj => by rw [ef_2]; exact sb_cpy0 (n := 100) hj), (fun j hj => by rw [ef_3]; exact sb_cpy0 (n := 100) hj), (fun j hj => by rw [ef_4]; exact sb_cpy0 (n := 100) hj), i_10, i_11, (fun j hj => by rw [ef_12]; exact sb_cpy0 (n := 8) hj), i_18, i_19, (fun j hj => by rw [ef_20]; exact sb_cpy0 (n := 8) hj), (fun j hj => by rw [ef_21]; exact sb_cpy0 (n := 8) hj)⟩, by rw [ht]; exact hP.sub [0, 1, 2, 3, 4, 16, 17, 18, 5, 22, 23, 24, 6, 7, 8, 9, 10, 11, 12, 19, 20, 21, 13, 25, 26, 27, 14, 15] rfl, hD.sub [0, 1, 2, 3, 4, 16, 17, 18, 5, 22, 23, 24, 6, 7, 8, 9, 10, 11, 12, 19, 20, 21, 13, 25, 26, 27, 14, 15] (by decide +kernel) rfl⟩, hS.F ht⟩) hS.2.2 dX1_become_135 hlk
set_option maxHeartbeats 4000000 in
set_option maxRecDepth 100000 in
theorem c_X4_isMissing (l : Launch) (D : va_G) (cI cJ cZ cS : ClassId) (ta : Nat) (sa sv : Nat → Nat) (sz : Nat) (h0 : Nat) (an : Nat) (z : Nat) (b0 : Int32) : Met l yX4_isMissing (Cond.code yX4_isMissing cX4_isMissing 1 (some .boolean) :: wsU) ({ frames := 0, cells := 0, slots := 0, locals := 0 }) (va_Pc [.ref h0] (XW D (xT cI cJ cZ cS) ta sa sv [(h0, .inr (4, [.int b0, .int (nI (z)), .ref an]))] sz)) (vp_Si (fun r : Int32 => (r = 1 ∧ (b0 = 0)) ∨ (r = 0 ∧ (¬ b0 = 0)))) 0 0 (fun _ => False) := by
  refine xh (QA := fun _ => vp_Si (fun r : Int32 => (r = 1 ∧ (b0 = 0)) ∨ (r = 0 ∧ (¬ b0 = 0)))) (fr := fun _ _ => False) (by decide) (Nat.le_of_ble_eq_true rfl) ?_
  intro p e s m below meth c ls A hF hr hlk hin hsz hP hK hD hN hZ hA hS hl
  have hF : CallFix p m c cX4_isMissing 1 s _ _ RX4 := hF
  have hx := hF.1
  have hb := hF.2.1
  have hml := hF.2.2.1
  have hown := hF.2.2.2.1
  have hu : ∀ w ∈ wsU, w.before _ s = true := fun w h => hF.2.2.2.2 w (List.mem_cons_of_mem _ h)
  have hl : lv_has ls 1 [(0, .ref h0)] := hl
  refine lv_aload_n hx hb dX4_isMissing_0 rfl (lv_at hl 0 rfl) ?_
  refine xg hF kf_X4_9 hK hP 0 rfl rfl dX4_isMissing_1 ?_
  refine lv_if_ne (tgt := 11) hx hb dX4_isMissing_4 (by decide) (fun c_1 => ?_) (fun c_1 => ?_)
  · skip
    refine lv_iconst (v := 0) hx hb dX4_isMissing_11 (by decide) ?_
    exact W.zret (v := 0) hx hb hr rfl (fun t ht hW => ⟨0, rfl, (by first | exact Or.inr (⟨rfl, (by first | assumption | omega | exact Or.inl (by first | assumption | omega) | exact Or.inr (by first | assumption | omega))⟩)), ht⟩) (fun q h => by cases h) dX4_isMissing_12 hlk
  · skip
    refine lv_iconst (v := 1) hx hb dX4_isMissing_7 (by decide) ?_
    refine lv_goto (tgt := 12) hx hb dX4_isMissing_8 (by decide) ?_
    exact W.zret (v := 1) hx hb hr rfl (fun t ht hW => ⟨1, rfl, (by first | exact Or.inl ⟨rfl, (by first | assumption | omega | exact Or.inl (by first | assumption | omega) | exact Or.inr (by first | assumption | omega))⟩), ht⟩) (fun q h => by cases h) dX4_isMissing_12 hlk
set_option maxHeartbeats 4000000 in
set_option maxRecDepth 100000 in
theorem c_X4_begin (l : Launch) (D : va_G) (cI cJ cZ cS : ClassId) (ta : Nat) (sa sv : Nat → Nat) (sz : Nat) (h0 : Nat) (an : Nat) (z : Nat) (w : Nat) (b0 : Int32) (p0 : Int32) (g9 : Nat → Int64) : Met l yX4_begin (Cond.code yX4_begin cX4_begin 4 none :: wsU) ({ frames := 0, cells := 0, slots := 0, locals := 0 }) (va_Pc [.ref h0, .int p0, .int (nI (w))] (XW D (xT cI cJ cZ cS) ta sa sv [(h0, .inr (4, [.int b0, .int (nI (z)), .ref an])), (an, .inl (cJ, 40, .inr (.inl g9)))] sz)) (XQv (fun (g2 : (Nat → Int64)) => (∀ j, j < 40 → g2 j = 0)) D (fun (g2 : Nat → Int64) => [(h0, .inr (4, [.int p0, .int (nI (w)), .ref an])), (an, .inl (cJ, 40, .inr (.inl g2)))]) (va_A [(h0, .inr (4, [.int b0, .int (nI (z)), .ref an])), (an, .inl (cJ, 40, .inr (.inl g9)))] sz)) 0 0 (va_A [(h0, .inr (4, [.int b0, .int (nI (z)), .ref an])), (an, .inl (cJ, 40, .inr (.inl g9)))] sz) := by
  refine xh (QA := fun A => XQv (fun (g2 : (Nat → Int64)) => (∀ j, j < 40 → g2 j = 0)) D (fun (g2 : Nat → Int64) => [(h0, .inr (4, [.int p0, .int (nI (w)), .ref an])), (an, .inl (cJ, 40, .inr (.inl g2)))]) A) (fr := fun A => A) (by decide) (Nat.le_of_ble_eq_true rfl) ?_
  intro p e s m below meth c ls A hF hr hlk hin hsz hP hK hD hN hZ hA hS hl
  have hF : CallFix p m c cX4_begin 4 s _ _ RX4 := hF
  have hx := hF.1
  have hb := hF.2.1
  have hml := hF.2.2.1
  have hown := hF.2.2.2.1
  have hu : ∀ w ∈ wsU, w.before _ s = true := fun w h => hF.2.2.2.2 w (List.mem_cons_of_mem _ h)
  have hl : lv_has ls 4 [(0, .ref h0), (1, .int p0), (2, .int (nI (w)))] := hl
  refine lv_aload_n hx hb dX4_begin_0 rfl (lv_at hl 0 rfl) ?_
  refine lv_iload_n hx hb dX4_begin_1 rfl (lv_at hl 1 rfl) ?_
  refine xp hF kf_X4_9 tyX4_ok nmX4 hK hP hD hS 0 rfl rfl rfl rfl (Nat.le_of_ble_eq_true rfl) dX4_begin_2 (fun H locs hP hD hS => ?_)
  have hP : va_P D vwCl [(h0, .inr (4, [.int p0, .int (nI (z)), .ref an])), (an, .inl (cJ, 40, .inr (.inl g9)))] H := hP
  have hD : va_D A [(h0, .inr (4, [.int p0, .int (nI (z)), .ref an])), (an, .inl (cJ, 40, .inr (.inl g9)))] := hD
  refine lv_aload_n hx hb dX4_begin_5 rfl (lv_at hl 0 rfl) ?_
  refine lv_iload_n hx hb dX4_begin_6 rfl (lv_at hl 2 rfl) ?_
  refine xp hF kf_X4_15 tyX4_ok nmX4 hK hP hD hS 0 rfl rfl rfl rfl (Nat.le_of_ble_eq_true rfl) dX4_begin_7 (fun H locs hP hD hS => ?_)
  have hP : va_P D vwCl [(h0, .inr (4, [.int p0, .int (nI (w)), .ref an])), (an, .inl (cJ, 40, .inr (.inl g9)))] H := hP
  have hD : va_D A [(h0, .inr (4, [.int p0, .int (nI (w)), .ref an])), (an, .inl (cJ, 40, .inr (.inl g9)))] := hD
  refine lv_iconst (v := 0) hx hb dX4_begin_10 (by decide) ?_
  refine lv_istore_n (lv' := [(3, .int 0), (0, .ref h0), (1, .int p0), (2, .int (nI (w)))]) hx hb dX4_begin_11 rfl hl (by decide) rfl (fun ls hl => ?_)
  suffices loop_12 : ∀ (n_12 : Nat) (i : Nat) (g8 : Nat → Int64) (H : Heap) (locs : List Loc) (ls : Array Slot), 40 - i < n_12 → (i ≤ 40) → (∀ j, j < i → g8 j = 0) → va_P D vwCl [(h0, .inr (4, [.int p0, .int (nI (w)), .ref an])), (an, .inl (cJ, 40, .inr (.inl g8)))] H → va_D A [(h0, .inr (4, [.int p0, .int (nI (w)), .ref an])), (an, .inl (cJ, 40, .inr (.inl g8)))] → va_S A s.heap H locs → lv_has ls 4 [(3, .int (nI (i))), (0, .ref h0), (1, .int p0), (2, .int (nI (w)))] → W p l e ({ frames := 0, cells := 0, slots := 0, locals := 0 }) s m ([.ref h0, .int p0, .int (nI (w))] : List Value).toArray below meth c H locs 0 0 (MQ below (XQv (fun (g2 : (Nat → Int64)) => (∀ j, j < 40 → g2 j = 0)) D (fun (g2 : Nat → Int64) => [(h0, .inr (4, [.int p0, .int (nI (w)), .ref an])), (an, .inl (cJ, 40, .inr (.inl g2)))]) A) ([.ref h0, .int p0, .int (nI (w))] : List Value).toArray s 0 0 A) (F0 m 12 ls []) by
    exact loop_12 _ 0 g9 _ _ _ (Nat.lt_succ_self _) (by omega) (fun j hj => absurd hj (Nat.not_lt_zero _)) hP hD hS (lv_sub hl [0, 1, 2, 3] rfl)
  intro n_12
  induction n_12 with
  | zero =>
    intro i g8 H locs ls hm_12
    exact absurd hm_12 (Nat.not_lt_zero _)
  | succ n_12 ih_12 =>
    intro i g8 H locs ls hm_12 hi hg8 hP hD hS hl
    refine lv_iload_n hx hb dX4_begin_12 rfl (lv_at hl 0 rfl) ?_
    refine lv_bipush (v := 40) hx hb dX4_begin_13 (by decide) ?_
    refine lv_icmp_ge (tgt := 31) hx hb dX4_begin_15 (by decide) (fun c_1 => ?_) (fun c_1 => ?_)
    · skip
      have nc_1 : 40 ≤ i := xn_le (a := 40) (b := i) (by omega) (by omega) c_1
      exact W.vret hx hb hr (fun t ht hW => ⟨⟨g8, rfl, (fun j hj => hg8 j (by omega)), by rw [ht]; exact hP.sub [0, 1] rfl, hD.sub [0, 1] (by decide) rfl⟩, hS.F ht⟩) hS.2.2 dX4_begin_31 hlk
    · skip
      have nc_1 : i < 40 := xn_nle (a := 40) (b := i) (by omega) (by omega) c_1
      refine lv_aload_n hx hb dX4_begin_18 rfl (lv_at hl 1 rfl) ?_
      refine xg hF kf_X4_18 hK hP 0 rfl rfl dX4_begin_19 ?_
      refine lv_iload_n hx hb dX4_begin_22 rfl (lv_at hl 0 rfl) ?_
      refine lv_lconst (v := 0) hx hb dX4_begin_23 (by decide) ?_
      refine va_last hx hb hK hP hD hS 1 1 rfl rfl (vp_in_nI (show i < 40 by omega) (by decide)) dX4_begin_24 (fun H locs hP hD hS => ?_)
      rw [nI_clamp (show i < 2 ^ 31 by omega)] at hP hD
      obtain ⟨f_2, ef_2⟩ : ∃ g, g = vp_updL g8 i 0 := ⟨_, rfl⟩
      rw [← ef_2] at hP hD
      have hP : va_P D vwCl [(h0, .inr (4, [.int p0, .int (nI (w)), .ref an])), (an, .inl (cJ, 40, .inr (.inl f_2)))] H := hP
      have hD : va_D A [(h0, .inr (4, [.int p0, .int (nI (w)), .ref an])), (an, .inl (cJ, 40, .inr (.inl f_2)))] := hD
      refine lv_iinc (v := nI (i + 1)) (lv' := [(3, .int (nI (i + 1))), (0, .ref h0), (1, .int p0), (2, .int (nI (w)))]) hx hb dX4_begin_25 hl (k := 0) rfl (nI_1 (i)) (by decide) rfl (fun ls hl => ?_)
      refine lv_goto (tgt := 12) hx hb dX4_begin_28 (by decide) ?_
      exact ih_12 (i + 1) f_2 _ _ _ (by omega) (by omega) (x_fill ef_2 hg8) (hP.sub [0, 1] rfl) (hD.sub [0, 1] (by decide) rfl) hS (lv_sub hl [0, 1, 2, 3] rfl)
set_option maxHeartbeats 4000000 in
set_option maxRecDepth 100000 in
theorem c_X4_lowestBits (l : Launch) (D : va_G) (cI cJ cZ cS : ClassId) (ta : Nat) (sa sv : Nat → Nat) (sz : Nat) (h0 : Nat) (an : Nat) (z : Nat) (b0 : Int32) (p0 : Int64) : Met l yX4_lowestBits (Cond.code yX4_lowestBits cX4_lowestBits 3 (some .long) :: wsU) ({ frames := 0, cells := 0, slots := 0, locals := 0 }) (va_Pc [.ref h0, .long p0] (XW D (xT cI cJ cZ cS) ta sa sv [(h0, .inr (4, [.int b0, .int (nI (z)), .ref an]))] sz)) (XQl (fun (r : Int64) (_ : Unit) => (True)) D (fun _ : Unit => [(h0, .inr (4, [.int b0, .int (nI (z)), .ref an]))]) (va_A [(h0, .inr (4, [.int b0, .int (nI (z)), .ref an]))] sz)) 0 0 (va_A [(h0, .inr (4, [.int b0, .int (nI (z)), .ref an]))] sz) := by
  refine xh (QA := fun A => XQl (fun (r : Int64) (_ : Unit) => (True)) D (fun _ : Unit => [(h0, .inr (4, [.int b0, .int (nI (z)), .ref an]))]) A) (fr := fun A => A) (by decide) (Nat.le_of_ble_eq_true rfl) ?_
  intro p e s m below meth c ls A hF hr hlk hin hsz hP hK hD hN hZ hA hS hl
  have hF : CallFix p m c cX4_lowestBits 3 s _ _ RX4 := hF
  have hx := hF.1
  have hb := hF.2.1
  have hml := hF.2.2.1
  have hown := hF.2.2.2.1
  have hu : ∀ w ∈ wsU, w.before _ s = true := fun w h => hF.2.2.2.2 w (List.mem_cons_of_mem _ h)
  have hl : lv_has ls 3 [(0, .ref h0), (1, .long p0)] := hl
  refine lv_aload_n hx hb dX4_lowestBits_0 rfl (lv_at hl 0 rfl) ?_
  refine xg hF kf_X4_9 hK hP 0 rfl rfl dX4_lowestBits_1 ?_
  refine lv_bipush (v := 8) hx hb dX4_lowestBits_4 (by decide) ?_
  refine lv_icmp_ne (tgt := 14) hx hb dX4_lowestBits_6 (by decide) (fun c_1 => ?_) (fun c_1 => ?_)
  · skip
    refine lv_aload_n hx hb dX4_lowestBits_14 rfl (lv_at hl 0 rfl) ?_
    refine xg hF kf_X4_9 hK hP 0 rfl rfl dX4_lowestBits_15 ?_
    refine lv_bipush (v := 16) hx hb dX4_lowestBits_18 (by decide) ?_
    refine lv_icmp_ne (tgt := 30) hx hb dX4_lowestBits_20 (by decide) (fun c_2 => ?_) (fun c_2 => ?_)
    · skip
      refine lv_lload_n hx hb dX4_lowestBits_30 rfl (lv_at hl 1 rfl) ?_
      exact W.lret (v := p0) hx hb hr (fun t ht hW => ⟨⟨p0, (), rfl, trivial, by rw [ht]; exact hP.sub [0] rfl, hD.sub [0] (by decide) rfl⟩, hS.F ht⟩) hS.2.2 dX4_lowestBits_31 hlk
    · skip
      refine lv_lload_n hx hb dX4_lowestBits_23 rfl (lv_at hl 1 rfl) ?_
      refine lv_l2i (v := p0.toInt32) hx hb dX4_lowestBits_24 rfl ?_
      refine lv_i2s hx hb dX4_lowestBits_25 rfl ?_
      refine lv_topi (fun x_3 ex_3 => ?_)
      refine lv_i2l (v := x_3.toInt64) hx hb dX4_lowestBits_26 rfl ?_
      refine lv_goto (tgt := 31) hx hb dX4_lowestBits_27 (by decide) ?_
      exact W.lret (v := x_3.toInt64) hx hb hr (fun t ht hW => ⟨⟨x_3.toInt64, (), rfl, trivial, by rw [ht]; exact hP.sub [0] rfl, hD.sub [0] (by decide) rfl⟩, hS.F ht⟩) hS.2.2 dX4_lowestBits_31 hlk
  · skip
    refine lv_lload_n hx hb dX4_lowestBits_9 rfl (lv_at hl 1 rfl) ?_
    refine lv_l2i (v := p0.toInt32) hx hb dX4_lowestBits_10 rfl ?_
    refine lv_i2b hx hb dX4_lowestBits_11 rfl ?_
    refine lv_topi (fun x_4 ex_4 => ?_)
    refine lv_i2l (v := x_4.toInt64) hx hb dX4_lowestBits_12 rfl ?_
    exact W.lret (v := x_4.toInt64) hx hb hr (fun t ht hW => ⟨⟨x_4.toInt64, (), rfl, trivial, by rw [ht]; exact hP.sub [0] rfl, hD.sub [0] (by decide) rfl⟩, hS.F ht⟩) hS.2.2 dX4_lowestBits_13 hlk
set_option maxHeartbeats 4000000 in
set_option maxRecDepth 100000 in
theorem c_X4_hasSpan (l : Launch) (D : va_G) (cI cJ cZ cS : ClassId) (ta : Nat) (sa sv : Nat → Nat) (sz : Nat) (h0 : Nat) (an : Nat) (z : Nat) (b0 : Int32) (p0 : Int32) (p1 : Int32) (hz : z ≤ 40) : Met l yX4_hasSpan (Cond.code yX4_hasSpan cX4_hasSpan 3 (some .boolean) :: wsU) ({ frames := 0, cells := 0, slots := 0, locals := 0 }) (va_Pc [.ref h0, .int p0, .int p1] (XW D (xT cI cJ cZ cS) ta sa sv [(h0, .inr (4, [.int b0, .int (nI (z)), .ref an]))] sz)) (vp_Si (fun r : Int32 => (∃ (j : Nat) (k : Nat), r = 1 ∧ (p0 = nI j) ∧ (p1 = nI k) ∧ (j + k ≤ z)) ∨ (r = 0))) 0 0 (fun _ => False) := by
  refine xh (QA := fun _ => vp_Si (fun r : Int32 => (∃ (j : Nat) (k : Nat), r = 1 ∧ (p0 = nI j) ∧ (p1 = nI k) ∧ (j + k ≤ z)) ∨ (r = 0))) (fr := fun _ _ => False) (by decide) (Nat.le_of_ble_eq_true rfl) ?_
  intro p e s m below meth c ls A hF hr hlk hin hsz hP hK hD hN hZ hA hS hl
  have hF : CallFix p m c cX4_hasSpan 3 s _ _ RX4 := hF
  have hx := hF.1
  have hb := hF.2.1
  have hml := hF.2.2.1
  have hown := hF.2.2.2.1
  have hu : ∀ w ∈ wsU, w.before _ s = true := fun w h => hF.2.2.2.2 w (List.mem_cons_of_mem _ h)
  have hl : lv_has ls 3 [(0, .ref h0), (1, .int p0), (2, .int p1)] := hl
  refine lv_iload_n hx hb dX4_hasSpan_0 rfl (lv_at hl 1 rfl) ?_
  refine lv_if_lt (tgt := 30) hx hb dX4_hasSpan_1 (by decide) (fun c_1 => ?_) (fun c_1 => ?_)
  · skip
    refine lv_iconst (v := 0) hx hb dX4_hasSpan_30 (by decide) ?_
    exact W.zret (v := 0) hx hb hr rfl (fun t ht hW => ⟨0, rfl, Or.inr rfl, ht⟩) (fun q h => by cases h) dX4_hasSpan_31 hlk
  · skip
    refine lv_iload_n hx hb dX4_hasSpan_4 rfl (lv_at hl 2 rfl) ?_
    refine lv_if_lt (tgt := 30) hx hb dX4_hasSpan_5 (by decide) (fun c_2 => ?_) (fun c_2 => ?_)
    · skip
      refine lv_iconst (v := 0) hx hb dX4_hasSpan_30 (by decide) ?_
      exact W.zret (v := 0) hx hb hr rfl (fun t ht hW => ⟨0, rfl, Or.inr rfl, ht⟩) (fun q h => by cases h) dX4_hasSpan_31 hlk
    · skip
      refine lv_iload_n hx hb dX4_hasSpan_8 rfl (lv_at hl 2 rfl) ?_
      refine lv_aload_n hx hb dX4_hasSpan_9 rfl (lv_at hl 0 rfl) ?_
      refine xg hF kf_X4_15 hK hP 0 rfl rfl dX4_hasSpan_10 ?_
      refine lv_icmp_gt (tgt := 30) hx hb dX4_hasSpan_13 (by decide) (fun c_3 => ?_) (fun c_3 => ?_)
      · skip
        refine lv_iconst (v := 0) hx hb dX4_hasSpan_30 (by decide) ?_
        exact W.zret (v := 0) hx hb hr rfl (fun t ht hW => ⟨0, rfl, Or.inr rfl, ht⟩) (fun q h => by cases h) dX4_hasSpan_31 hlk
      · skip
        refine lv_iload_n hx hb dX4_hasSpan_16 rfl (lv_at hl 1 rfl) ?_
        refine lv_aload_n hx hb dX4_hasSpan_17 rfl (lv_at hl 0 rfl) ?_
        refine xg hF kf_X4_15 hK hP 0 rfl rfl dX4_hasSpan_18 ?_
        refine lv_iload_n hx hb dX4_hasSpan_21 rfl (lv_at hl 2 rfl) ?_
        refine lv_isub hx hb dX4_hasSpan_22 ?_
        refine lv_icmp_gt (tgt := 30) hx hb dX4_hasSpan_23 (by decide) (fun c_4 => ?_) (fun c_4 => ?_)
        · skip
          refine lv_iconst (v := 0) hx hb dX4_hasSpan_30 (by decide) ?_
          exact W.zret (v := 0) hx hb hr rfl (fun t ht hW => ⟨0, rfl, Or.inr rfl, ht⟩) (fun q h => by cases h) dX4_hasSpan_31 hlk
        · skip
          refine lv_iconst (v := 1) hx hb dX4_hasSpan_26 (by decide) ?_
          refine lv_goto (tgt := 31) hx hb dX4_hasSpan_27 (by decide) ?_
          exact W.zret (v := 1) hx hb hr rfl (fun t ht hW => ⟨1, rfl, Or.inl (x_span hz c_1 c_2 c_3 c_4), ht⟩) (fun q h => by cases h) dX4_hasSpan_31 hlk
set_option maxHeartbeats 4000000 in
set_option maxRecDepth 100000 in
theorem c_X8_isUnder (l : Launch) (D : va_G) (cI cJ cZ cS : ClassId) (ta : Nat) (sa sv : Nat → Nat) (sz : Nat) (p0 : Int32) (p1 : Int32) : Met l yX8_isUnder (Cond.code yX8_isUnder cX8_isUnder 4 (some .boolean) :: wsU) ({ frames := 2, cells := 0, slots := 0, locals := 42 }) (va_Pc [.int p0, .int p1] (XW D (xT cI cJ cZ cS) ta sa sv [] sz)) (vp_Si (fun r : Int32 => (r = 1) ∨ (r = 0))) 0 0 (fun _ => False) := by
  refine xh (QA := fun _ => vp_Si (fun r : Int32 => (r = 1) ∨ (r = 0))) (fr := fun _ _ => False) (by decide) (Nat.le_of_ble_eq_true rfl) ?_
  intro p e s m below meth c ls A hF hr hlk hin hsz hP hK hD hN hZ hA hS hl
  have hF : CallFix p m c cX8_isUnder 4 s _ _ RX8 := hF
  have hx := hF.1
  have hb := hF.2.1
  have hml := hF.2.2.1
  have hown := hF.2.2.2.1
  have hu : ∀ w ∈ wsU, w.before _ s = true := fun w h => hF.2.2.2.2 w (List.mem_cons_of_mem _ h)
  have hl : lv_has ls 4 [(0, .int p0), (1, .int p1)] := hl
  refine lv_iload_n hx hb dX8_isUnder_0 rfl (lv_at hl 0 rfl) ?_
  refine lv_istore_n (lv' := [(2, .int p0), (0, .int p0), (1, .int p1)]) hx hb dX8_isUnder_1 rfl hl (by decide) rfl (fun ls hl => ?_)
  refine lv_iconst (v := 0) hx hb dX8_isUnder_2 (by decide) ?_
  refine lv_istore_n (lv' := [(3, .int 0), (2, .int p0), (0, .int p0), (1, .int p1)]) hx hb dX8_isUnder_3 rfl hl (by decide) rfl (fun ls hl => ?_)
  suffices loop_4 : ∀ (n_4 : Nat) (i : Nat) (x : Int32) (ls : Array Slot), 7 - i < n_4 → (i ≤ 7) → lv_has ls 4 [(3, .int (nI (i))), (2, .int x), (0, .int p0), (1, .int p1)] → W p l e ({ frames := 2, cells := 0, slots := 0, locals := 42 }) s m ([.int p0, .int p1] : List Value).toArray below meth c s.heap [] 0 0 (MQ below (vp_Si (fun r : Int32 => (r = 1) ∨ (r = 0))) ([.int p0, .int p1] : List Value).toArray s 0 0 (fun _ => False)) (F0 m 4 ls []) by
    exact loop_4 _ 0 p0 _ (Nat.lt_succ_self _) (by omega) (lv_sub hl [0, 1, 2, 3] rfl)
  intro n_4
  induction n_4 with
  | zero =>
    intro i x ls hm_4
    exact absurd hm_4 (Nat.not_lt_zero _)
  | succ n_4 ih_4 =>
    intro i x ls hm_4 hi hl
    refine lv_iload_n hx hb dX8_isUnder_4 rfl (lv_at hl 0 rfl) ?_
    refine lv_bipush (v := 7) hx hb dX8_isUnder_5 (by decide) ?_
    refine lv_icmp_ge (tgt := 36) hx hb dX8_isUnder_7 (by decide) (fun c_1 => ?_) (fun c_1 => ?_)
    · skip
      have nc_1 : 7 ≤ i := xn_le (a := 7) (b := i) (by omega) (by omega) c_1
      refine lv_iconst (v := 0) hx hb dX8_isUnder_36 (by decide) ?_
      exact W.zret (v := 0) hx hb hr rfl (fun t ht hW => ⟨0, rfl, (by first | exact Or.inr (rfl)), ht⟩) (fun q h => by cases h) dX8_isUnder_37 hlk
    · skip
      have nc_1 : i < 7 := xn_nle (a := 7) (b := i) (by omega) (by omega) c_1
      refine lv_iload_n hx hb dX8_isUnder_10 rfl (lv_at hl 1 rfl) ?_
      refine xc_Sr hF (c_X8_isKind l D cI cJ cZ cS ta sa sv s.heap.size x ) ks_X8_155 ⟨rfl, rfl, Nat.le_of_ble_eq_true rfl, Nat.le_of_ble_eq_true rfl⟩ ⟨Nat.le_of_ble_eq_true rfl, Nat.le_of_ble_eq_true rfl⟩ hK hN hZ hP hD hS hA [] rfl rfl rfl hl.1 rfl (Nat.le_of_ble_eq_true rfl) dX8_isUnder_11 (fun r_2 hw_r_2 => ?_)
      rcases hw_r_2 with ⟨rfl, h_3, h_4⟩ | ⟨rfl, h_5⟩
      · skip
        refine lv_if_eq (tgt := 36) hx hb dX8_isUnder_14 (by decide) (fun c_6 => absurd c_6 (by decide)) (fun c_6 => ?_)
        refine lv_iload_n hx hb dX8_isUnder_17 rfl (lv_at hl 1 rfl) ?_
        refine lv_iload_n hx hb dX8_isUnder_18 rfl (lv_at hl 3 rfl) ?_
        refine lv_icmp_ne (tgt := 24) hx hb dX8_isUnder_19 (by decide) (fun c_7 => ?_) (fun c_7 => ?_)
        · skip
          refine va_gets (C := RX8) (n := "ABOVE") (d := "[I") (v := .ref ta) hx hb hZ.1.1 hS hown (hu _ uw395) (fun _ h => h) dX8_isUnder_24 ?_
          refine lv_iload_n hx hb dX8_isUnder_27 rfl (lv_at hl 1 rfl) ?_
          refine va_ti hx hb hZ.1.2 hS (x_in7 h_3 h_4) rfl dX8_isUnder_28 ?_
          refine lv_topi (fun x_8 ex_8 => ?_)
          refine lv_istore_n (lv' := [(2, .int x_8), (3, .int (nI (i))), (0, .int p0), (1, .int p1)]) hx hb dX8_isUnder_29 rfl hl (by decide) rfl (fun ls hl => ?_)
          refine lv_iinc (v := nI (i + 1)) (lv' := [(3, .int (nI (i + 1))), (2, .int x_8), (0, .int p0), (1, .int p1)]) hx hb dX8_isUnder_30 hl (k := 1) rfl (nI_1 (i)) (by decide) rfl (fun ls hl => ?_)
          refine lv_goto (tgt := 4) hx hb dX8_isUnder_33 (by decide) ?_
          exact ih_4 (i + 1) x_8 _ (by omega) (by omega) (lv_sub hl [0, 1, 2, 3] rfl)
        · skip
          refine lv_iconst (v := 1) hx hb dX8_isUnder_22 (by decide) ?_
          exact W.zret (v := 1) hx hb hr rfl (fun t ht hW => ⟨1, rfl, (by first | exact Or.inl rfl), ht⟩) (fun q h => by cases h) dX8_isUnder_23 hlk
      · skip
        refine lv_if_eq (tgt := 36) hx hb dX8_isUnder_14 (by decide) (fun c_9 => ?_) (fun c_9 => absurd (by decide) c_9)
        refine lv_iconst (v := 0) hx hb dX8_isUnder_36 (by decide) ?_
        exact W.zret (v := 0) hx hb hr rfl (fun t ht hW => ⟨0, rfl, (by first | exact Or.inr (rfl)), ht⟩) (fun q h => by cases h) dX8_isUnder_37 hlk
