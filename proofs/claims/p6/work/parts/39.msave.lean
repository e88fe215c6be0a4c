def LRX9_tripOfHome_2 : List UInt8 := []
def LBX9_tripOfHome_1 : List UInt8 := [0xb6, 0x00, 0xa8, 0xac]
def LRX9_tripOfHome_1 : List UInt8 := LBX9_tripOfHome_1 ++ LRX9_tripOfHome_2
def LBX9_tripOfHome_0 : List UInt8 := [0x2a, 0xb6, 0x00, 0xab, 0x3c, 0x1b, 0x9c, 0x00, 0x08, 0x12, 0x68, 0xa7, 0x00, 0x08, 0x2a, 0x1b]
def LRX9_tripOfHome_0 : List UInt8 := LBX9_tripOfHome_0 ++ LRX9_tripOfHome_1
set_option maxRecDepth 100000 in
theorem LBX9_tripOfHome_eq : cX9_tripOfHome.data.toList = LRX9_tripOfHome_0 := by decide +kernel
theorem LBX9_tripOfHomer_0 (k : Nat) : cX9_tripOfHome.data.toList[0 + k]? = LRX9_tripOfHome_0[k]? := by rw [LBX9_tripOfHome_eq, Nat.zero_add]
theorem LBX9_tripOfHomer_1 (k : Nat) : cX9_tripOfHome.data.toList[16 + k]? = LRX9_tripOfHome_1[k]? := by
  have h := LBX9_tripOfHomer_0 (16 + k)
  rw [show 0 + (16 + k) = 16 + k by omega] at h
  rw [h]
  exact (List.getElem?_append_right (l₁ := LBX9_tripOfHome_0) (l₂ := LRX9_tripOfHome_1) (show 16 ≤ 16 + k by omega)).trans (congrArg (fun i => LRX9_tripOfHome_1[i]?) (show 16 + k - 16 = k by omega))
theorem dX9_tripOfHome_0 : decode cX9_tripOfHome 0 = .ok (.aload_n 0, 1) := dk_42_ (show cX9_tripOfHome.data.toList[0]? = some 0x2a from (LBX9_tripOfHomer_0 0).trans (by decide +kernel))
theorem dX9_tripOfHome_1 : decode cX9_tripOfHome 1 = .ok (.invokevirtual 171, 3) := dk_182_ (show cX9_tripOfHome.data.toList[1]? = some 0xb6 from (LBX9_tripOfHomer_0 1).trans (by decide +kernel)) (show cX9_tripOfHome.data.toList[2]? = some 0x00 from (LBX9_tripOfHomer_0 2).trans (by decide +kernel)) (show cX9_tripOfHome.data.toList[3]? = some 0xab from (LBX9_tripOfHomer_0 3).trans (by decide +kernel)) (by decide)
theorem dX9_tripOfHome_4 : decode cX9_tripOfHome 4 = .ok (.istore_n 1, 1) := dk_60_ (show cX9_tripOfHome.data.toList[4]? = some 0x3c from (LBX9_tripOfHomer_0 4).trans (by decide +kernel))
theorem dX9_tripOfHome_5 : decode cX9_tripOfHome 5 = .ok (.iload_n 1, 1) := dk_27_ (show cX9_tripOfHome.data.toList[5]? = some 0x1b from (LBX9_tripOfHomer_0 5).trans (by decide +kernel))
theorem dX9_tripOfHome_6 : decode cX9_tripOfHome 6 = .ok (.ifCond .ge 8, 3) := dk_156_ (show cX9_tripOfHome.data.toList[6]? = some 0x9c from (LBX9_tripOfHomer_0 6).trans (by decide +kernel)) (show cX9_tripOfHome.data.toList[7]? = some 0x00 from (LBX9_tripOfHomer_0 7).trans (by decide +kernel)) (show cX9_tripOfHome.data.toList[8]? = some 0x08 from (LBX9_tripOfHomer_0 8).trans (by decide +kernel)) (by decide)
theorem dX9_tripOfHome_9 : decode cX9_tripOfHome 9 = .ok (.ldc 104, 2) := dk_18_ (show cX9_tripOfHome.data.toList[9]? = some 0x12 from (LBX9_tripOfHomer_0 9).trans (by decide +kernel)) (show cX9_tripOfHome.data.toList[10]? = some 0x68 from (LBX9_tripOfHomer_0 10).trans (by decide +kernel)) (by decide)
theorem dX9_tripOfHome_11 : decode cX9_tripOfHome 11 = .ok (.goto 8, 3) := dk_167_ (show cX9_tripOfHome.data.toList[11]? = some 0xa7 from (LBX9_tripOfHomer_0 11).trans (by decide +kernel)) (show cX9_tripOfHome.data.toList[12]? = some 0x00 from (LBX9_tripOfHomer_0 12).trans (by decide +kernel)) (show cX9_tripOfHome.data.toList[13]? = some 0x08 from (LBX9_tripOfHomer_0 13).trans (by decide +kernel)) (by decide)
theorem dX9_tripOfHome_14 : decode cX9_tripOfHome 14 = .ok (.aload_n 0, 1) := dk_42_ (show cX9_tripOfHome.data.toList[14]? = some 0x2a from (LBX9_tripOfHomer_0 14).trans (by decide +kernel))
theorem dX9_tripOfHome_15 : decode cX9_tripOfHome 15 = .ok (.iload_n 1, 1) := dk_27_ (show cX9_tripOfHome.data.toList[15]? = some 0x1b from (LBX9_tripOfHomer_0 15).trans (by decide +kernel))
theorem dX9_tripOfHome_16 : decode cX9_tripOfHome 16 = .ok (.invokevirtual 168, 3) := dk_182_ (show cX9_tripOfHome.data.toList[16]? = some 0xb6 from (LBX9_tripOfHomer_1 0).trans (by decide +kernel)) (show cX9_tripOfHome.data.toList[17]? = some 0x00 from (LBX9_tripOfHomer_1 1).trans (by decide +kernel)) (show cX9_tripOfHome.data.toList[18]? = some 0xa8 from (LBX9_tripOfHomer_1 2).trans (by decide +kernel)) (by decide)
theorem dX9_tripOfHome_19 : decode cX9_tripOfHome 19 = .ok (.ireturn, 1) := dk_172_ (show cX9_tripOfHome.data.toList[19]? = some 0xac from (LBX9_tripOfHomer_1 3).trans (by decide +kernel))
def LRX9_saving_9 : List UInt8 := []
def LBX9_saving_8 : List UInt8 := [0x1c, 0x68, 0x60, 0x1b, 0x60, 0x15, 0x05, 0x4f, 0x15, 0x07, 0xac]
def LRX9_saving_8 : List UInt8 := LBX9_saving_8 ++ LRX9_saving_9
def LBX9_saving_7 : List UInt8 := [0x1b, 0x68, 0x60, 0x1c, 0x60, 0x15, 0x04, 0x4f, 0x2a, 0xb4, 0x00, 0x07, 0x10, 0x0d, 0x10, 0x0a]
def LRX9_saving_7 : List UInt8 := LBX9_saving_7 ++ LRX9_saving_8
def LBX9_saving_6 : List UInt8 := [0x1d, 0x2a, 0xb6, 0x00, 0xe2, 0x64, 0x36, 0x07, 0x2a, 0xb4, 0x00, 0x07, 0x10, 0x0d, 0x10, 0x0a]
def LRX9_saving_6 : List UInt8 := LBX9_saving_6 ++ LRX9_saving_7
def LBX9_saving_5 : List UInt8 := [0x2a, 0xb6, 0x00, 0x71, 0x2a, 0xb4, 0x00, 0x6d, 0x99, 0x00, 0x08, 0x12, 0x68, 0xa7, 0x00, 0x09]
def LRX9_saving_5 : List UInt8 := LBX9_saving_5 ++ LRX9_saving_6
def LBX9_saving_4 : List UInt8 := [0x2a, 0xb4, 0x00, 0x07, 0x10, 0x0d, 0x10, 0x0a, 0x1c, 0x68, 0x60, 0x1b, 0x60, 0x15, 0x06, 0x4f]
def LRX9_saving_4 : List UInt8 := LBX9_saving_4 ++ LRX9_saving_5
def LBX9_saving_3 : List UInt8 := [0x2a, 0xb4, 0x00, 0x07, 0x10, 0x0d, 0x10, 0x0a, 0x1b, 0x68, 0x60, 0x1c, 0x60, 0x15, 0x06, 0x4f]
def LRX9_saving_3 : List UInt8 := LBX9_saving_3 ++ LRX9_saving_4
def LBX9_saving_2 : List UInt8 := [0x15, 0x04, 0x15, 0x05, 0xa2, 0x00, 0x08, 0x15, 0x04, 0xa7, 0x00, 0x05, 0x15, 0x05, 0x36, 0x06]
def LRX9_saving_2 : List UInt8 := LBX9_saving_2 ++ LRX9_saving_3
def LBX9_saving_1 : List UInt8 := [0x2a, 0xb4, 0x00, 0x07, 0x10, 0x0d, 0x10, 0x0a, 0x1c, 0x68, 0x60, 0x1b, 0x60, 0x2e, 0x36, 0x05]
def LRX9_saving_1 : List UInt8 := LBX9_saving_1 ++ LRX9_saving_2
def LBX9_saving_0 : List UInt8 := [0x2a, 0xb4, 0x00, 0x07, 0x10, 0x0d, 0x10, 0x0a, 0x1b, 0x68, 0x60, 0x1c, 0x60, 0x2e, 0x36, 0x04]
def LRX9_saving_0 : List UInt8 := LBX9_saving_0 ++ LRX9_saving_1
set_option maxRecDepth 100000 in
theorem LBX9_saving_eq : cX9_saving.data.toList = LRX9_saving_0 := by decide +kernel
theorem LBX9_savingr_0 (k : Nat) : cX9_saving.data.toList[0 + k]? = LRX9_saving_0[k]? := by rw [LBX9_saving_eq, Nat.zero_add]
theorem LBX9_savingr_1 (k : Nat) : cX9_saving.data.toList[16 + k]? = LRX9_saving_1[k]? := by
  have h := LBX9_savingr_0 (16 + k)
  rw [show 0 + (16 + k) = 16 + k by omega] at h
  rw [h]
  exact (List.getElem?_append_right (l₁ := LBX9_saving_0) (l₂ := LRX9_saving_1) (show 16 ≤ 16 + k by omega)).trans (congrArg (fun i => LRX9_saving_1[i]?) (show 16 + k - 16 = k by omega))
theorem LBX9_savingr_2 (k : Nat) : cX9_saving.data.toList[32 + k]? = LRX9_saving_2[k]? := by
  have h := LBX9_savingr_1 (16 + k)
  rw [show 16 + (16 + k) = 32 + k by omega] at h
  rw [h]
  exact (List.getElem?_append_right (l₁ := LBX9_saving_1) (l₂ := LRX9_saving_2) (show 16 ≤ 16 + k by omega)).trans (congrArg (fun i => LRX9_saving_2[i]?) (show 16 + k - 16 = k by omega))
theorem LBX9_savingr_3 (k : Nat) : cX9_saving.data.toList[48 + k]? = LRX9_saving_3[k]? := by
  have h := LBX9_savingr_2 (16 + k)
  rw [show 32 + (16 + k) = 48 + k by omega] at h
  rw [h]
  exact (List.getElem?_append_right (l₁ := LBX9_saving_2) (l₂ := LRX9_saving_3) (show 16 ≤ 16 + k by omega)).trans (congrArg (fun i => LRX9_saving_3[i]?) (show 16 + k - 16 = k by omega))
theorem LBX9_savingr_4 (k : Nat) : cX9_saving.data.toList[64 + k]? = LRX9_saving_4[k]? := by
  have h := LBX9_savingr_3 (16 + k)
  rw [show 48 + (16 + k) = 64 + k by omega] at h
  rw [h]
  exact (List.getElem?_append_right (l₁ := LBX9_saving_3) (l₂ := LRX9_saving_4) (show 16 ≤ 16 + k by omega)).trans (congrArg (fun i => LRX9_saving_4[i]?) (show 16 + k - 16 = k by omega))
theorem LBX9_savingr_5 (k : Nat) : cX9_saving.data.toList[80 + k]? = LRX9_saving_5[k]? := by
  have h := LBX9_savingr_4 (16 + k)
  rw [show 64 + (16 + k) = 80 + k by omega] at h
  rw [h]
  exact (List.getElem?_append_right (l₁ := LBX9_saving_4) (l₂ := LRX9_saving_5) (show 16 ≤ 16 + k by omega)).trans (congrArg (fun i => LRX9_saving_5[i]?) (show 16 + k - 16 = k by omega))
theorem LBX9_savingr_6 (k : Nat) : cX9_saving.data.toList[96 + k]? = LRX9_saving_6[k]? := by
  have h := LBX9_savingr_5 (16 + k)
  rw [show 80 + (16 + k) = 96 + k by omega] at h
  rw [h]
  exact (List.getElem?_append_right (l₁ := LBX9_saving_5) (l₂ := LRX9_saving_6) (show 16 ≤ 16 + k by omega)).trans (congrArg (fun i => LRX9_saving_6[i]?) (show 16 + k - 16 = k by omega))
theorem LBX9_savingr_7 (k : Nat) : cX9_saving.data.toList[112 + k]? = LRX9_saving_7[k]? := by
  have h := LBX9_savingr_6 (16 + k)
  rw [show 96 + (16 + k) = 112 + k by omega] at h
  rw [h]
  exact (List.getElem?_append_right (l₁ := LBX9_saving_6) (l₂ := LRX9_saving_7) (show 16 ≤ 16 + k by omega)).trans (congrArg (fun i => LRX9_saving_7[i]?) (show 16 + k - 16 = k by omega))
theorem LBX9_savingr_8 (k : Nat) : cX9_saving.data.toList[128 + k]? = LRX9_saving_8[k]? := by
  have h := LBX9_savingr_7 (16 + k)
  rw [show 112 + (16 + k) = 128 + k by omega] at h
  rw [h]
  exact (List.getElem?_append_right (l₁ := LBX9_saving_7) (l₂ := LRX9_saving_8) (show 16 ≤ 16 + k by omega)).trans (congrArg (fun i => LRX9_saving_8[i]?) (show 16 + k - 16 = k by omega))
theorem dX9_saving_0 : decode cX9_saving 0 = .ok (.aload_n 0, 1) := dk_42_ (show cX9_saving.data.toList[0]? = some 0x2a from (LBX9_savingr_0 0).trans (by decide +kernel))
theorem dX9_saving_1 : decode cX9_saving 1 = .ok (.getfield 7, 3) := dk_180_ (show cX9_saving.data.toList[1]? = some 0xb4 from (LBX9_savingr_0 1).trans (by decide +kernel)) (show cX9_saving.data.toList[2]? = some 0x00 from (LBX9_savingr_0 2).trans (by decide +kernel)) (show cX9_saving.data.toList[3]? = some 0x07 from (LBX9_savingr_0 3).trans (by decide +kernel)) (by decide)
theorem dX9_saving_4 : decode cX9_saving 4 = .ok (.bipush 13, 2) := dk_16_ (show cX9_saving.data.toList[4]? = some 0x10 from (LBX9_savingr_0 4).trans (by decide +kernel)) (show cX9_saving.data.toList[5]? = some 0x0d from (LBX9_savingr_0 5).trans (by decide +kernel)) (by decide)
theorem dX9_saving_6 : decode cX9_saving 6 = .ok (.bipush 10, 2) := dk_16_ (show cX9_saving.data.toList[6]? = some 0x10 from (LBX9_savingr_0 6).trans (by decide +kernel)) (show cX9_saving.data.toList[7]? = some 0x0a from (LBX9_savingr_0 7).trans (by decide +kernel)) (by decide)
theorem dX9_saving_8 : decode cX9_saving 8 = .ok (.iload_n 1, 1) := dk_27_ (show cX9_saving.data.toList[8]? = some 0x1b from (LBX9_savingr_0 8).trans (by decide +kernel))
theorem dX9_saving_9 : decode cX9_saving 9 = .ok (.imul, 1) := dk_104_ (show cX9_saving.data.toList[9]? = some 0x68 from (LBX9_savingr_0 9).trans (by decide +kernel))
theorem dX9_saving_10 : decode cX9_saving 10 = .ok (.iadd, 1) := dk_96_ (show cX9_saving.data.toList[10]? = some 0x60 from (LBX9_savingr_0 10).trans (by decide +kernel))
theorem dX9_saving_11 : decode cX9_saving 11 = .ok (.iload_n 2, 1) := dk_28_ (show cX9_saving.data.toList[11]? = some 0x1c from (LBX9_savingr_0 11).trans (by decide +kernel))
theorem dX9_saving_12 : decode cX9_saving 12 = .ok (.iadd, 1) := dk_96_ (show cX9_saving.data.toList[12]? = some 0x60 from (LBX9_savingr_0 12).trans (by decide +kernel))
theorem dX9_saving_13 : decode cX9_saving 13 = .ok (.iaload, 1) := dk_46_ (show cX9_saving.data.toList[13]? = some 0x2e from (LBX9_savingr_0 13).trans (by decide +kernel))
theorem dX9_saving_14 : decode cX9_saving 14 = .ok (.istore 4, 2) := dk_54_ (show cX9_saving.data.toList[14]? = some 0x36 from (LBX9_savingr_0 14).trans (by decide +kernel)) (show cX9_saving.data.toList[15]? = some 0x04 from (LBX9_savingr_0 15).trans (by decide +kernel)) (by decide)
theorem dX9_saving_16 : decode cX9_saving 16 = .ok (.aload_n 0, 1) := dk_42_ (show cX9_saving.data.toList[16]? = some 0x2a from (LBX9_savingr_1 0).trans (by decide +kernel))
theorem dX9_saving_17 : decode cX9_saving 17 = .ok (.getfield 7, 3) := dk_180_ (show cX9_saving.data.toList[17]? = some 0xb4 from (LBX9_savingr_1 1).trans (by decide +kernel)) (show cX9_saving.data.toList[18]? = some 0x00 from (LBX9_savingr_1 2).trans (by decide +kernel)) (show cX9_saving.data.toList[19]? = some 0x07 from (LBX9_savingr_1 3).trans (by decide +kernel)) (by decide)
theorem dX9_saving_20 : decode cX9_saving 20 = .ok (.bipush 13, 2) := dk_16_ (show cX9_saving.data.toList[20]? = some 0x10 from (LBX9_savingr_1 4).trans (by decide +kernel)) (show cX9_saving.data.toList[21]? = some 0x0d from (LBX9_savingr_1 5).trans (by decide +kernel)) (by decide)
theorem dX9_saving_22 : decode cX9_saving 22 = .ok (.bipush 10, 2) := dk_16_ (show cX9_saving.data.toList[22]? = some 0x10 from (LBX9_savingr_1 6).trans (by decide +kernel)) (show cX9_saving.data.toList[23]? = some 0x0a from (LBX9_savingr_1 7).trans (by decide +kernel)) (by decide)
theorem dX9_saving_24 : decode cX9_saving 24 = .ok (.iload_n 2, 1) := dk_28_ (show cX9_saving.data.toList[24]? = some 0x1c from (LBX9_savingr_1 8).trans (by decide +kernel))
theorem dX9_saving_25 : decode cX9_saving 25 = .ok (.imul, 1) := dk_104_ (show cX9_saving.data.toList[25]? = some 0x68 from (LBX9_savingr_1 9).trans (by decide +kernel))
theorem dX9_saving_26 : decode cX9_saving 26 = .ok (.iadd, 1) := dk_96_ (show cX9_saving.data.toList[26]? = some 0x60 from (LBX9_savingr_1 10).trans (by decide +kernel))
theorem dX9_saving_27 : decode cX9_saving 27 = .ok (.iload_n 1, 1) := dk_27_ (show cX9_saving.data.toList[27]? = some 0x1b from (LBX9_savingr_1 11).trans (by decide +kernel))
theorem dX9_saving_28 : decode cX9_saving 28 = .ok (.iadd, 1) := dk_96_ (show cX9_saving.data.toList[28]? = some 0x60 from (LBX9_savingr_1 12).trans (by decide +kernel))
theorem dX9_saving_29 : decode cX9_saving 29 = .ok (.iaload, 1) := dk_46_ (show cX9_saving.data.toList[29]? = some 0x2e from (LBX9_savingr_1 13).trans (by decide +kernel))
theorem dX9_saving_30 : decode cX9_saving 30 = .ok (.istore 5, 2) := dk_54_ (show cX9_saving.data.toList[30]? = some 0x36 from (LBX9_savingr_1 14).trans (by decide +kernel)) (show cX9_saving.data.toList[31]? = some 0x05 from (LBX9_savingr_1 15).trans (by decide +kernel)) (by decide)
theorem dX9_saving_32 : decode cX9_saving 32 = .ok (.iload 4, 2) := dk_21_ (show cX9_saving.data.toList[32]? = some 0x15 from (LBX9_savingr_2 0).trans (by decide +kernel)) (show cX9_saving.data.toList[33]? = some 0x04 from (LBX9_savingr_2 1).trans (by decide +kernel)) (by decide)
theorem dX9_saving_34 : decode cX9_saving 34 = .ok (.iload 5, 2) := dk_21_ (show cX9_saving.data.toList[34]? = some 0x15 from (LBX9_savingr_2 2).trans (by decide +kernel)) (show cX9_saving.data.toList[35]? = some 0x05 from (LBX9_savingr_2 3).trans (by decide +kernel)) (by decide)
theorem dX9_saving_36 : decode cX9_saving 36 = .ok (.if_icmp .ge 8, 3) := dk_162_ (show cX9_saving.data.toList[36]? = some 0xa2 from (LBX9_savingr_2 4).trans (by decide +kernel)) (show cX9_saving.data.toList[37]? = some 0x00 from (LBX9_savingr_2 5).trans (by decide +kernel)) (show cX9_saving.data.toList[38]? = some 0x08 from (LBX9_savingr_2 6).trans (by decide +kernel)) (by decide)
theorem dX9_saving_39 : decode cX9_saving 39 = .ok (.iload 4, 2) := dk_21_ (show cX9_saving.data.toList[39]? = some 0x15 from (LBX9_savingr_2 7).trans (by decide +kernel)) (show cX9_saving.data.toList[40]? = some 0x04 from (LBX9_savingr_2 8).trans (by decide +kernel)) (by decide)
theorem dX9_saving_41 : decode cX9_saving 41 = .ok (.goto 5, 3) := dk_167_ (show cX9_saving.data.toList[41]? = some 0xa7 from (LBX9_savingr_2 9).trans (by decide +kernel)) (show cX9_saving.data.toList[42]? = some 0x00 from (LBX9_savingr_2 10).trans (by decide +kernel)) (show cX9_saving.data.toList[43]? = some 0x05 from (LBX9_savingr_2 11).trans (by decide +kernel)) (by decide)
theorem dX9_saving_44 : decode cX9_saving 44 = .ok (.iload 5, 2) := dk_21_ (show cX9_saving.data.toList[44]? = some 0x15 from (LBX9_savingr_2 12).trans (by decide +kernel)) (show cX9_saving.data.toList[45]? = some 0x05 from (LBX9_savingr_2 13).trans (by decide +kernel)) (by decide)
theorem dX9_saving_46 : decode cX9_saving 46 = .ok (.istore 6, 2) := dk_54_ (show cX9_saving.data.toList[46]? = some 0x36 from (LBX9_savingr_2 14).trans (by decide +kernel)) (show cX9_saving.data.toList[47]? = some 0x06 from (LBX9_savingr_2 15).trans (by decide +kernel)) (by decide)
theorem dX9_saving_48 : decode cX9_saving 48 = .ok (.aload_n 0, 1) := dk_42_ (show cX9_saving.data.toList[48]? = some 0x2a from (LBX9_savingr_3 0).trans (by decide +kernel))
theorem dX9_saving_49 : decode cX9_saving 49 = .ok (.getfield 7, 3) := dk_180_ (show cX9_saving.data.toList[49]? = some 0xb4 from (LBX9_savingr_3 1).trans (by decide +kernel)) (show cX9_saving.data.toList[50]? = some 0x00 from (LBX9_savingr_3 2).trans (by decide +kernel)) (show cX9_saving.data.toList[51]? = some 0x07 from (LBX9_savingr_3 3).trans (by decide +kernel)) (by decide)
theorem dX9_saving_52 : decode cX9_saving 52 = .ok (.bipush 13, 2) := dk_16_ (show cX9_saving.data.toList[52]? = some 0x10 from (LBX9_savingr_3 4).trans (by decide +kernel)) (show cX9_saving.data.toList[53]? = some 0x0d from (LBX9_savingr_3 5).trans (by decide +kernel)) (by decide)
theorem dX9_saving_54 : decode cX9_saving 54 = .ok (.bipush 10, 2) := dk_16_ (show cX9_saving.data.toList[54]? = some 0x10 from (LBX9_savingr_3 6).trans (by decide +kernel)) (show cX9_saving.data.toList[55]? = some 0x0a from (LBX9_savingr_3 7).trans (by decide +kernel)) (by decide)
theorem dX9_saving_56 : decode cX9_saving 56 = .ok (.iload_n 1, 1) := dk_27_ (show cX9_saving.data.toList[56]? = some 0x1b from (LBX9_savingr_3 8).trans (by decide +kernel))
theorem dX9_saving_57 : decode cX9_saving 57 = .ok (.imul, 1) := dk_104_ (show cX9_saving.data.toList[57]? = some 0x68 from (LBX9_savingr_3 9).trans (by decide +kernel))
theorem dX9_saving_58 : decode cX9_saving 58 = .ok (.iadd, 1) := dk_96_ (show cX9_saving.data.toList[58]? = some 0x60 from (LBX9_savingr_3 10).trans (by decide +kernel))
theorem dX9_saving_59 : decode cX9_saving 59 = .ok (.iload_n 2, 1) := dk_28_ (show cX9_saving.data.toList[59]? = some 0x1c from (LBX9_savingr_3 11).trans (by decide +kernel))
theorem dX9_saving_60 : decode cX9_saving 60 = .ok (.iadd, 1) := dk_96_ (show cX9_saving.data.toList[60]? = some 0x60 from (LBX9_savingr_3 12).trans (by decide +kernel))
theorem dX9_saving_61 : decode cX9_saving 61 = .ok (.iload 6, 2) := dk_21_ (show cX9_saving.data.toList[61]? = some 0x15 from (LBX9_savingr_3 13).trans (by decide +kernel)) (show cX9_saving.data.toList[62]? = some 0x06 from (LBX9_savingr_3 14).trans (by decide +kernel)) (by decide)
theorem dX9_saving_63 : decode cX9_saving 63 = .ok (.iastore, 1) := dk_79_ (show cX9_saving.data.toList[63]? = some 0x4f from (LBX9_savingr_3 15).trans (by decide +kernel))
theorem dX9_saving_64 : decode cX9_saving 64 = .ok (.aload_n 0, 1) := dk_42_ (show cX9_saving.data.toList[64]? = some 0x2a from (LBX9_savingr_4 0).trans (by decide +kernel))
theorem dX9_saving_65 : decode cX9_saving 65 = .ok (.getfield 7, 3) := dk_180_ (show cX9_saving.data.toList[65]? = some 0xb4 from (LBX9_savingr_4 1).trans (by decide +kernel)) (show cX9_saving.data.toList[66]? = some 0x00 from (LBX9_savingr_4 2).trans (by decide +kernel)) (show cX9_saving.data.toList[67]? = some 0x07 from (LBX9_savingr_4 3).trans (by decide +kernel)) (by decide)
theorem dX9_saving_68 : decode cX9_saving 68 = .ok (.bipush 13, 2) := dk_16_ (show cX9_saving.data.toList[68]? = some 0x10 from (LBX9_savingr_4 4).trans (by decide +kernel)) (show cX9_saving.data.toList[69]? = some 0x0d from (LBX9_savingr_4 5).trans (by decide +kernel)) (by decide)
theorem dX9_saving_70 : decode cX9_saving 70 = .ok (.bipush 10, 2) := dk_16_ (show cX9_saving.data.toList[70]? = some 0x10 from (LBX9_savingr_4 6).trans (by decide +kernel)) (show cX9_saving.data.toList[71]? = some 0x0a from (LBX9_savingr_4 7).trans (by decide +kernel)) (by decide)
theorem dX9_saving_72 : decode cX9_saving 72 = .ok (.iload_n 2, 1) := dk_28_ (show cX9_saving.data.toList[72]? = some 0x1c from (LBX9_savingr_4 8).trans (by decide +kernel))
theorem dX9_saving_73 : decode cX9_saving 73 = .ok (.imul, 1) := dk_104_ (show cX9_saving.data.toList[73]? = some 0x68 from (LBX9_savingr_4 9).trans (by decide +kernel))
theorem dX9_saving_74 : decode cX9_saving 74 = .ok (.iadd, 1) := dk_96_ (show cX9_saving.data.toList[74]? = some 0x60 from (LBX9_savingr_4 10).trans (by decide +kernel))
theorem dX9_saving_75 : decode cX9_saving 75 = .ok (.iload_n 1, 1) := dk_27_ (show cX9_saving.data.toList[75]? = some 0x1b from (LBX9_savingr_4 11).trans (by decide +kernel))
theorem dX9_saving_76 : decode cX9_saving 76 = .ok (.iadd, 1) := dk_96_ (show cX9_saving.data.toList[76]? = some 0x60 from (LBX9_savingr_4 12).trans (by decide +kernel))
theorem dX9_saving_77 : decode cX9_saving 77 = .ok (.iload 6, 2) := dk_21_ (show cX9_saving.data.toList[77]? = some 0x15 from (LBX9_savingr_4 13).trans (by decide +kernel)) (show cX9_saving.data.toList[78]? = some 0x06 from (LBX9_savingr_4 14).trans (by decide +kernel)) (by decide)
theorem dX9_saving_79 : decode cX9_saving 79 = .ok (.iastore, 1) := dk_79_ (show cX9_saving.data.toList[79]? = some 0x4f from (LBX9_savingr_4 15).trans (by decide +kernel))
theorem dX9_saving_80 : decode cX9_saving 80 = .ok (.aload_n 0, 1) := dk_42_ (show cX9_saving.data.toList[80]? = some 0x2a from (LBX9_savingr_5 0).trans (by decide +kernel))
theorem dX9_saving_81 : decode cX9_saving 81 = .ok (.invokevirtual 113, 3) := dk_182_ (show cX9_saving.data.toList[81]? = some 0xb6 from (LBX9_savingr_5 1).trans (by decide +kernel)) (show cX9_saving.data.toList[82]? = some 0x00 from (LBX9_savingr_5 2).trans (by decide +kernel)) (show cX9_saving.data.toList[83]? = some 0x71 from (LBX9_savingr_5 3).trans (by decide +kernel)) (by decide)
theorem dX9_saving_84 : decode cX9_saving 84 = .ok (.aload_n 0, 1) := dk_42_ (show cX9_saving.data.toList[84]? = some 0x2a from (LBX9_savingr_5 4).trans (by decide +kernel))
theorem dX9_saving_85 : decode cX9_saving 85 = .ok (.getfield 109, 3) := dk_180_ (show cX9_saving.data.toList[85]? = some 0xb4 from (LBX9_savingr_5 5).trans (by decide +kernel)) (show cX9_saving.data.toList[86]? = some 0x00 from (LBX9_savingr_5 6).trans (by decide +kernel)) (show cX9_saving.data.toList[87]? = some 0x6d from (LBX9_savingr_5 7).trans (by decide +kernel)) (by decide)
theorem dX9_saving_88 : decode cX9_saving 88 = .ok (.ifCond .eq 8, 3) := dk_153_ (show cX9_saving.data.toList[88]? = some 0x99 from (LBX9_savingr_5 8).trans (by decide +kernel)) (show cX9_saving.data.toList[89]? = some 0x00 from (LBX9_savingr_5 9).trans (by decide +kernel)) (show cX9_saving.data.toList[90]? = some 0x08 from (LBX9_savingr_5 10).trans (by decide +kernel)) (by decide)
theorem dX9_saving_91 : decode cX9_saving 91 = .ok (.ldc 104, 2) := dk_18_ (show cX9_saving.data.toList[91]? = some 0x12 from (LBX9_savingr_5 11).trans (by decide +kernel)) (show cX9_saving.data.toList[92]? = some 0x68 from (LBX9_savingr_5 12).trans (by decide +kernel)) (by decide)
theorem dX9_saving_93 : decode cX9_saving 93 = .ok (.goto 9, 3) := dk_167_ (show cX9_saving.data.toList[93]? = some 0xa7 from (LBX9_savingr_5 13).trans (by decide +kernel)) (show cX9_saving.data.toList[94]? = some 0x00 from (LBX9_savingr_5 14).trans (by decide +kernel)) (show cX9_saving.data.toList[95]? = some 0x09 from (LBX9_savingr_5 15).trans (by decide +kernel)) (by decide)
theorem dX9_saving_96 : decode cX9_saving 96 = .ok (.iload_n 3, 1) := dk_29_ (show cX9_saving.data.toList[96]? = some 0x1d from (LBX9_savingr_6 0).trans (by decide +kernel))
theorem dX9_saving_97 : decode cX9_saving 97 = .ok (.aload_n 0, 1) := dk_42_ (show cX9_saving.data.toList[97]? = some 0x2a from (LBX9_savingr_6 1).trans (by decide +kernel))
theorem dX9_saving_98 : decode cX9_saving 98 = .ok (.invokevirtual 226, 3) := dk_182_ (show cX9_saving.data.toList[98]? = some 0xb6 from (LBX9_savingr_6 2).trans (by decide +kernel)) (show cX9_saving.data.toList[99]? = some 0x00 from (LBX9_savingr_6 3).trans (by decide +kernel)) (show cX9_saving.data.toList[100]? = some 0xe2 from (LBX9_savingr_6 4).trans (by decide +kernel)) (by decide)
theorem dX9_saving_101 : decode cX9_saving 101 = .ok (.isub, 1) := dk_100_ (show cX9_saving.data.toList[101]? = some 0x64 from (LBX9_savingr_6 5).trans (by decide +kernel))
theorem dX9_saving_102 : decode cX9_saving 102 = .ok (.istore 7, 2) := dk_54_ (show cX9_saving.data.toList[102]? = some 0x36 from (LBX9_savingr_6 6).trans (by decide +kernel)) (show cX9_saving.data.toList[103]? = some 0x07 from (LBX9_savingr_6 7).trans (by decide +kernel)) (by decide)
theorem dX9_saving_104 : decode cX9_saving 104 = .ok (.aload_n 0, 1) := dk_42_ (show cX9_saving.data.toList[104]? = some 0x2a from (LBX9_savingr_6 8).trans (by decide +kernel))
theorem dX9_saving_105 : decode cX9_saving 105 = .ok (.getfield 7, 3) := dk_180_ (show cX9_saving.data.toList[105]? = some 0xb4 from (LBX9_savingr_6 9).trans (by decide +kernel)) (show cX9_saving.data.toList[106]? = some 0x00 from (LBX9_savingr_6 10).trans (by decide +kernel)) (show cX9_saving.data.toList[107]? = some 0x07 from (LBX9_savingr_6 11).trans (by decide +kernel)) (by decide)
theorem dX9_saving_108 : decode cX9_saving 108 = .ok (.bipush 13, 2) := dk_16_ (show cX9_saving.data.toList[108]? = some 0x10 from (LBX9_savingr_6 12).trans (by decide +kernel)) (show cX9_saving.data.toList[109]? = some 0x0d from (LBX9_savingr_6 13).trans (by decide +kernel)) (by decide)
theorem dX9_saving_110 : decode cX9_saving 110 = .ok (.bipush 10, 2) := dk_16_ (show cX9_saving.data.toList[110]? = some 0x10 from (LBX9_savingr_6 14).trans (by decide +kernel)) (show cX9_saving.data.toList[111]? = some 0x0a from (LBX9_savingr_6 15).trans (by decide +kernel)) (by decide)
theorem dX9_saving_112 : decode cX9_saving 112 = .ok (.iload_n 1, 1) := dk_27_ (show cX9_saving.data.toList[112]? = some 0x1b from (LBX9_savingr_7 0).trans (by decide +kernel))
theorem dX9_saving_113 : decode cX9_saving 113 = .ok (.imul, 1) := dk_104_ (show cX9_saving.data.toList[113]? = some 0x68 from (LBX9_savingr_7 1).trans (by decide +kernel))
theorem dX9_saving_114 : decode cX9_saving 114 = .ok (.iadd, 1) := dk_96_ (show cX9_saving.data.toList[114]? = some 0x60 from (LBX9_savingr_7 2).trans (by decide +kernel))
theorem dX9_saving_115 : decode cX9_saving 115 = .ok (.iload_n 2, 1) := dk_28_ (show cX9_saving.data.toList[115]? = some 0x1c from (LBX9_savingr_7 3).trans (by decide +kernel))
theorem dX9_saving_116 : decode cX9_saving 116 = .ok (.iadd, 1) := dk_96_ (show cX9_saving.data.toList[116]? = some 0x60 from (LBX9_savingr_7 4).trans (by decide +kernel))
theorem dX9_saving_117 : decode cX9_saving 117 = .ok (.iload 4, 2) := dk_21_ (show cX9_saving.data.toList[117]? = some 0x15 from (LBX9_savingr_7 5).trans (by decide +kernel)) (show cX9_saving.data.toList[118]? = some 0x04 from (LBX9_savingr_7 6).trans (by decide +kernel)) (by decide)
theorem dX9_saving_119 : decode cX9_saving 119 = .ok (.iastore, 1) := dk_79_ (show cX9_saving.data.toList[119]? = some 0x4f from (LBX9_savingr_7 7).trans (by decide +kernel))
theorem dX9_saving_120 : decode cX9_saving 120 = .ok (.aload_n 0, 1) := dk_42_ (show cX9_saving.data.toList[120]? = some 0x2a from (LBX9_savingr_7 8).trans (by decide +kernel))
theorem dX9_saving_121 : decode cX9_saving 121 = .ok (.getfield 7, 3) := dk_180_ (show cX9_saving.data.toList[121]? = some 0xb4 from (LBX9_savingr_7 9).trans (by decide +kernel)) (show cX9_saving.data.toList[122]? = some 0x00 from (LBX9_savingr_7 10).trans (by decide +kernel)) (show cX9_saving.data.toList[123]? = some 0x07 from (LBX9_savingr_7 11).trans (by decide +kernel)) (by decide)
theorem dX9_saving_124 : decode cX9_saving 124 = .ok (.bipush 13, 2) := dk_16_ (show cX9_saving.data.toList[124]? = some 0x10 from (LBX9_savingr_7 12).trans (by decide +kernel)) (show cX9_saving.data.toList[125]? = some 0x0d from (LBX9_savingr_7 13).trans (by decide +kernel)) (by decide)
theorem dX9_saving_126 : decode cX9_saving 126 = .ok (.bipush 10, 2) := dk_16_ (show cX9_saving.data.toList[126]? = some 0x10 from (LBX9_savingr_7 14).trans (by decide +kernel)) (show cX9_saving.data.toList[127]? = some 0x0a from (LBX9_savingr_7 15).trans (by decide +kernel)) (by decide)
theorem dX9_saving_128 : decode cX9_saving 128 = .ok (.iload_n 2, 1) := dk_28_ (show cX9_saving.data.toList[128]? = some 0x1c from (LBX9_savingr_8 0).trans (by decide +kernel))
theorem dX9_saving_129 : decode cX9_saving 129 = .ok (.imul, 1) := dk_104_ (show cX9_saving.data.toList[129]? = some 0x68 from (LBX9_savingr_8 1).trans (by decide +kernel))
theorem dX9_saving_130 : decode cX9_saving 130 = .ok (.iadd, 1) := dk_96_ (show cX9_saving.data.toList[130]? = some 0x60 from (LBX9_savingr_8 2).trans (by decide +kernel))
theorem dX9_saving_131 : decode cX9_saving 131 = .ok (.iload_n 1, 1) := dk_27_ (show cX9_saving.data.toList[131]? = some 0x1b from (LBX9_savingr_8 3).trans (by decide +kernel))
theorem dX9_saving_132 : decode cX9_saving 132 = .ok (.iadd, 1) := dk_96_ (show cX9_saving.data.toList[132]? = some 0x60 from (LBX9_savingr_8 4).trans (by decide +kernel))
theorem dX9_saving_133 : decode cX9_saving 133 = .ok (.iload 5, 2) := dk_21_ (show cX9_saving.data.toList[133]? = some 0x15 from (LBX9_savingr_8 5).trans (by decide +kernel)) (show cX9_saving.data.toList[134]? = some 0x05 from (LBX9_savingr_8 6).trans (by decide +kernel)) (by decide)
theorem dX9_saving_135 : decode cX9_saving 135 = .ok (.iastore, 1) := dk_79_ (show cX9_saving.data.toList[135]? = some 0x4f from (LBX9_savingr_8 7).trans (by decide +kernel))
theorem dX9_saving_136 : decode cX9_saving 136 = .ok (.iload 7, 2) := dk_21_ (show cX9_saving.data.toList[136]? = some 0x15 from (LBX9_savingr_8 8).trans (by decide +kernel)) (show cX9_saving.data.toList[137]? = some 0x07 from (LBX9_savingr_8 9).trans (by decide +kernel)) (by decide)
theorem dX9_saving_138 : decode cX9_saving 138 = .ok (.ireturn, 1) := dk_172_ (show cX9_saving.data.toList[138]? = some 0xac from (LBX9_savingr_8 10).trans (by decide +kernel))
def LRX9_saves_7 : List UInt8 := []
def LBX9_saves_6 : List UInt8 := [0x2a, 0x12, 0x60, 0xb6, 0x00, 0x46, 0xa7, 0x00, 0x05, 0x15, 0x04, 0xac]
def LRX9_saves_6 : List UInt8 := LBX9_saves_6 ++ LRX9_saves_7
def LBX9_saves_5 : List UInt8 := [0x0c, 0x2a, 0x12, 0x74, 0xb6, 0x00, 0x46, 0xa7, 0x00, 0x14, 0x1d, 0x12, 0x68, 0xa0, 0x00, 0x0c]
def LRX9_saves_5 : List UInt8 := LBX9_saves_5 ++ LRX9_saves_6
def LBX9_saves_4 : List UInt8 := [0x03, 0xa7, 0x00, 0x04, 0x1d, 0xb6, 0x00, 0xe5, 0x36, 0x04, 0x15, 0x04, 0x12, 0x68, 0xa0, 0x00]
def LRX9_saves_4 : List UInt8 := LBX9_saves_4 ++ LRX9_saves_5
def LBX9_saves_3 : List UInt8 := [0x46, 0xac, 0x2a, 0xb6, 0x00, 0xe2, 0x3e, 0x2a, 0x1b, 0x1c, 0x1d, 0x12, 0x68, 0xa0, 0x00, 0x07]
def LRX9_saves_3 : List UInt8 := LBX9_saves_3 ++ LRX9_saves_4
def LBX9_saves_2 : List UInt8 := [0x2a, 0xb6, 0x00, 0x71, 0x2a, 0xb4, 0x00, 0x6d, 0x99, 0x00, 0x0a, 0x2a, 0x12, 0x74, 0xb6, 0x00]
def LRX9_saves_2 : List UInt8 := LBX9_saves_2 ++ LRX9_saves_3
def LBX9_saves_1 : List UInt8 := [0x2a, 0x1b, 0x1c, 0xb6, 0x00, 0xb7, 0x9a, 0x00, 0x0a, 0x2a, 0x12, 0x60, 0xb6, 0x00, 0x46, 0xac]
def LRX9_saves_1 : List UInt8 := LBX9_saves_1 ++ LRX9_saves_2
def LBX9_saves_0 : List UInt8 := [0x2a, 0x1b, 0x1c, 0xb6, 0x00, 0x50, 0x9a, 0x00, 0x0a, 0x2a, 0x12, 0x38, 0xb6, 0x00, 0x46, 0xac]
def LRX9_saves_0 : List UInt8 := LBX9_saves_0 ++ LRX9_saves_1
set_option maxRecDepth 100000 in
theorem LBX9_saves_eq : cX9_saves.data.toList = LRX9_saves_0 := by decide +kernel
theorem LBX9_savesr_0 (k : Nat) : cX9_saves.data.toList[0 + k]? = LRX9_saves_0[k]? := by rw [LBX9_saves_eq, Nat.zero_add]
theorem LBX9_savesr_1 (k : Nat) : cX9_saves.data.toList[16 + k]? = LRX9_saves_1[k]? := by
  have h := LBX9_savesr_0 (16 + k)
  rw [show 0 + (16 + k) = 16 + k by omega] at h
  rw [h]
  exact (List.getElem?_append_right (l₁ := LBX9_saves_0) (l₂ := LRX9_saves_1) (show 16 ≤ 16 + k by omega)).trans (congrArg (fun i => LRX9_saves_1[i]?) (show 16 + k - 16 = k by omega))
theorem LBX9_savesr_2 (k : Nat) : cX9_saves.data.toList[32 + k]? = LRX9_saves_2[k]? := by
  have h := LBX9_savesr_1 (16 + k)
  rw [show 16 + (16 + k) = 32 + k by omega] at h
  rw [h]
  exact (List.getElem?_append_right (l₁ := LBX9_saves_1) (l₂ := LRX9_saves_2) (show 16 ≤ 16 + k by omega)).trans (congrArg (fun i => LRX9_saves_2[i]?) (show 16 + k - 16 = k by omega))
theorem LBX9_savesr_3 (k : Nat) : cX9_saves.data.toList[48 + k]? = LRX9_saves_3[k]? := by
  have h := LBX9_savesr_2 (16 + k)
  rw [show 32 + (16 + k) = 48 + k by omega] at h
  rw [h]
  exact (List.getElem?_append_right (l₁ := LBX9_saves_2) (l₂ := LRX9_saves_3) (show 16 ≤ 16 + k by omega)).trans (congrArg (fun i => LRX9_saves_3[i]?) (show 16 + k - 16 = k by omega))
theorem LBX9_savesr_4 (k : Nat) : cX9_saves.data.toList[64 + k]? = LRX9_saves_4[k]? := by
  have h := LBX9_savesr_3 (16 + k)
  rw [show 48 + (16 + k) = 64 + k by omega] at h
  rw [h]
  exact (List.getElem?_append_right (l₁ := LBX9_saves_3) (l₂ := LRX9_saves_4) (show 16 ≤ 16 + k by omega)).trans (congrArg (fun i => LRX9_saves_4[i]?) (show 16 + k - 16 = k by omega))
theorem LBX9_savesr_5 (k : Nat) : cX9_saves.data.toList[80 + k]? = LRX9_saves_5[k]? := by
  have h := LBX9_savesr_4 (16 + k)
  rw [show 64 + (16 + k) = 80 + k by omega] at h
  rw [h]
  exact (List.getElem?_append_right (l₁ := LBX9_saves_4) (l₂ := LRX9_saves_5) (show 16 ≤ 16 + k by omega)).trans (congrArg (fun i => LRX9_saves_5[i]?) (show 16 + k - 16 = k by omega))
theorem LBX9_savesr_6 (k : Nat) : cX9_saves.data.toList[96 + k]? = LRX9_saves_6[k]? := by
  have h := LBX9_savesr_5 (16 + k)
  rw [show 80 + (16 + k) = 96 + k by omega] at h
  rw [h]
  exact (List.getElem?_append_right (l₁ := LBX9_saves_5) (l₂ := LRX9_saves_6) (show 16 ≤ 16 + k by omega)).trans (congrArg (fun i => LRX9_saves_6[i]?) (show 16 + k - 16 = k by omega))
theorem dX9_saves_0 : decode cX9_saves 0 = .ok (.aload_n 0, 1) := dk_42_ (show cX9_saves.data.toList[0]? = some 0x2a from (LBX9_savesr_0 0).trans (by decide +kernel))
theorem dX9_saves_1 : decode cX9_saves 1 = .ok (.iload_n 1, 1) := dk_27_ (show cX9_saves.data.toList[1]? = some 0x1b from (LBX9_savesr_0 1).trans (by decide +kernel))
theorem dX9_saves_2 : decode cX9_saves 2 = .ok (.iload_n 2, 1) := dk_28_ (show cX9_saves.data.toList[2]? = some 0x1c from (LBX9_savesr_0 2).trans (by decide +kernel))
theorem dX9_saves_3 : decode cX9_saves 3 = .ok (.invokevirtual 80, 3) := dk_182_ (show cX9_saves.data.toList[3]? = some 0xb6 from (LBX9_savesr_0 3).trans (by decide +kernel)) (show cX9_saves.data.toList[4]? = some 0x00 from (LBX9_savesr_0 4).trans (by decide +kernel)) (show cX9_saves.data.toList[5]? = some 0x50 from (LBX9_savesr_0 5).trans (by decide +kernel)) (by decide)
theorem dX9_saves_6 : decode cX9_saves 6 = .ok (.ifCond .ne 10, 3) := dk_154_ (show cX9_saves.data.toList[6]? = some 0x9a from (LBX9_savesr_0 6).trans (by decide +kernel)) (show cX9_saves.data.toList[7]? = some 0x00 from (LBX9_savesr_0 7).trans (by decide +kernel)) (show cX9_saves.data.toList[8]? = some 0x0a from (LBX9_savesr_0 8).trans (by decide +kernel)) (by decide)
theorem dX9_saves_9 : decode cX9_saves 9 = .ok (.aload_n 0, 1) := dk_42_ (show cX9_saves.data.toList[9]? = some 0x2a from (LBX9_savesr_0 9).trans (by decide +kernel))
theorem dX9_saves_10 : decode cX9_saves 10 = .ok (.ldc 56, 2) := dk_18_ (show cX9_saves.data.toList[10]? = some 0x12 from (LBX9_savesr_0 10).trans (by decide +kernel)) (show cX9_saves.data.toList[11]? = some 0x38 from (LBX9_savesr_0 11).trans (by decide +kernel)) (by decide)
theorem dX9_saves_12 : decode cX9_saves 12 = .ok (.invokevirtual 70, 3) := dk_182_ (show cX9_saves.data.toList[12]? = some 0xb6 from (LBX9_savesr_0 12).trans (by decide +kernel)) (show cX9_saves.data.toList[13]? = some 0x00 from (LBX9_savesr_0 13).trans (by decide +kernel)) (show cX9_saves.data.toList[14]? = some 0x46 from (LBX9_savesr_0 14).trans (by decide +kernel)) (by decide)
theorem dX9_saves_15 : decode cX9_saves 15 = .ok (.ireturn, 1) := dk_172_ (show cX9_saves.data.toList[15]? = some 0xac from (LBX9_savesr_0 15).trans (by decide +kernel))
theorem dX9_saves_16 : decode cX9_saves 16 = .ok (.aload_n 0, 1) := dk_42_ (show cX9_saves.data.toList[16]? = some 0x2a from (LBX9_savesr_1 0).trans (by decide +kernel))
theorem dX9_saves_17 : decode cX9_saves 17 = .ok (.iload_n 1, 1) := dk_27_ (show cX9_saves.data.toList[17]? = some 0x1b from (LBX9_savesr_1 1).trans (by decide +kernel))
theorem dX9_saves_18 : decode cX9_saves 18 = .ok (.iload_n 2, 1) := dk_28_ (show cX9_saves.data.toList[18]? = some 0x1c from (LBX9_savesr_1 2).trans (by decide +kernel))
theorem dX9_saves_19 : decode cX9_saves 19 = .ok (.invokevirtual 183, 3) := dk_182_ (show cX9_saves.data.toList[19]? = some 0xb6 from (LBX9_savesr_1 3).trans (by decide +kernel)) (show cX9_saves.data.toList[20]? = some 0x00 from (LBX9_savesr_1 4).trans (by decide +kernel)) (show cX9_saves.data.toList[21]? = some 0xb7 from (LBX9_savesr_1 5).trans (by decide +kernel)) (by decide)
theorem dX9_saves_22 : decode cX9_saves 22 = .ok (.ifCond .ne 10, 3) := dk_154_ (show cX9_saves.data.toList[22]? = some 0x9a from (LBX9_savesr_1 6).trans (by decide +kernel)) (show cX9_saves.data.toList[23]? = some 0x00 from (LBX9_savesr_1 7).trans (by decide +kernel)) (show cX9_saves.data.toList[24]? = some 0x0a from (LBX9_savesr_1 8).trans (by decide +kernel)) (by decide)
theorem dX9_saves_25 : decode cX9_saves 25 = .ok (.aload_n 0, 1) := dk_42_ (show cX9_saves.data.toList[25]? = some 0x2a from (LBX9_savesr_1 9).trans (by decide +kernel))
theorem dX9_saves_26 : decode cX9_saves 26 = .ok (.ldc 96, 2) := dk_18_ (show cX9_saves.data.toList[26]? = some 0x12 from (LBX9_savesr_1 10).trans (by decide +kernel)) (show cX9_saves.data.toList[27]? = some 0x60 from (LBX9_savesr_1 11).trans (by decide +kernel)) (by decide)
theorem dX9_saves_28 : decode cX9_saves 28 = .ok (.invokevirtual 70, 3) := dk_182_ (show cX9_saves.data.toList[28]? = some 0xb6 from (LBX9_savesr_1 12).trans (by decide +kernel)) (show cX9_saves.data.toList[29]? = some 0x00 from (LBX9_savesr_1 13).trans (by decide +kernel)) (show cX9_saves.data.toList[30]? = some 0x46 from (LBX9_savesr_1 14).trans (by decide +kernel)) (by decide)
theorem dX9_saves_31 : decode cX9_saves 31 = .ok (.ireturn, 1) := dk_172_ (show cX9_saves.data.toList[31]? = some 0xac from (LBX9_savesr_1 15).trans (by decide +kernel))
theorem dX9_saves_32 : decode cX9_saves 32 = .ok (.aload_n 0, 1) := dk_42_ (show cX9_saves.data.toList[32]? = some 0x2a from (LBX9_savesr_2 0).trans (by decide +kernel))
theorem dX9_saves_33 : decode cX9_saves 33 = .ok (.invokevirtual 113, 3) := dk_182_ (show cX9_saves.data.toList[33]? = some 0xb6 from (LBX9_savesr_2 1).trans (by decide +kernel)) (show cX9_saves.data.toList[34]? = some 0x00 from (LBX9_savesr_2 2).trans (by decide +kernel)) (show cX9_saves.data.toList[35]? = some 0x71 from (LBX9_savesr_2 3).trans (by decide +kernel)) (by decide)
theorem dX9_saves_36 : decode cX9_saves 36 = .ok (.aload_n 0, 1) := dk_42_ (show cX9_saves.data.toList[36]? = some 0x2a from (LBX9_savesr_2 4).trans (by decide +kernel))
theorem dX9_saves_37 : decode cX9_saves 37 = .ok (.getfield 109, 3) := dk_180_ (show cX9_saves.data.toList[37]? = some 0xb4 from (LBX9_savesr_2 5).trans (by decide +kernel)) (show cX9_saves.data.toList[38]? = some 0x00 from (LBX9_savesr_2 6).trans (by decide +kernel)) (show cX9_saves.data.toList[39]? = some 0x6d from (LBX9_savesr_2 7).trans (by decide +kernel)) (by decide)
theorem dX9_saves_40 : decode cX9_saves 40 = .ok (.ifCond .eq 10, 3) := dk_153_ (show cX9_saves.data.toList[40]? = some 0x99 from (LBX9_savesr_2 8).trans (by decide +kernel)) (show cX9_saves.data.toList[41]? = some 0x00 from (LBX9_savesr_2 9).trans (by decide +kernel)) (show cX9_saves.data.toList[42]? = some 0x0a from (LBX9_savesr_2 10).trans (by decide +kernel)) (by decide)
theorem dX9_saves_43 : decode cX9_saves 43 = .ok (.aload_n 0, 1) := dk_42_ (show cX9_saves.data.toList[43]? = some 0x2a from (LBX9_savesr_2 11).trans (by decide +kernel))
theorem dX9_saves_44 : decode cX9_saves 44 = .ok (.ldc 116, 2) := dk_18_ (show cX9_saves.data.toList[44]? = some 0x12 from (LBX9_savesr_2 12).trans (by decide +kernel)) (show cX9_saves.data.toList[45]? = some 0x74 from (LBX9_savesr_2 13).trans (by decide +kernel)) (by decide)
theorem dX9_saves_46 : decode cX9_saves 46 = .ok (.invokevirtual 70, 3) := dk_182_ (show cX9_saves.data.toList[46]? = some 0xb6 from (LBX9_savesr_2 14).trans (by decide +kernel)) (show cX9_saves.data.toList[47]? = some 0x00 from (LBX9_savesr_2 15).trans (by decide +kernel)) (show cX9_saves.data.toList[48]? = some 0x46 from (LBX9_savesr_3 0).trans (by decide +kernel)) (by decide)
theorem dX9_saves_49 : decode cX9_saves 49 = .ok (.ireturn, 1) := dk_172_ (show cX9_saves.data.toList[49]? = some 0xac from (LBX9_savesr_3 1).trans (by decide +kernel))
theorem dX9_saves_50 : decode cX9_saves 50 = .ok (.aload_n 0, 1) := dk_42_ (show cX9_saves.data.toList[50]? = some 0x2a from (LBX9_savesr_3 2).trans (by decide +kernel))
theorem dX9_saves_51 : decode cX9_saves 51 = .ok (.invokevirtual 226, 3) := dk_182_ (show cX9_saves.data.toList[51]? = some 0xb6 from (LBX9_savesr_3 3).trans (by decide +kernel)) (show cX9_saves.data.toList[52]? = some 0x00 from (LBX9_savesr_3 4).trans (by decide +kernel)) (show cX9_saves.data.toList[53]? = some 0xe2 from (LBX9_savesr_3 5).trans (by decide +kernel)) (by decide)
theorem dX9_saves_54 : decode cX9_saves 54 = .ok (.istore_n 3, 1) := dk_62_ (show cX9_saves.data.toList[54]? = some 0x3e from (LBX9_savesr_3 6).trans (by decide +kernel))
theorem dX9_saves_55 : decode cX9_saves 55 = .ok (.aload_n 0, 1) := dk_42_ (show cX9_saves.data.toList[55]? = some 0x2a from (LBX9_savesr_3 7).trans (by decide +kernel))
theorem dX9_saves_56 : decode cX9_saves 56 = .ok (.iload_n 1, 1) := dk_27_ (show cX9_saves.data.toList[56]? = some 0x1b from (LBX9_savesr_3 8).trans (by decide +kernel))
theorem dX9_saves_57 : decode cX9_saves 57 = .ok (.iload_n 2, 1) := dk_28_ (show cX9_saves.data.toList[57]? = some 0x1c from (LBX9_savesr_3 9).trans (by decide +kernel))
theorem dX9_saves_58 : decode cX9_saves 58 = .ok (.iload_n 3, 1) := dk_29_ (show cX9_saves.data.toList[58]? = some 0x1d from (LBX9_savesr_3 10).trans (by decide +kernel))
theorem dX9_saves_59 : decode cX9_saves 59 = .ok (.ldc 104, 2) := dk_18_ (show cX9_saves.data.toList[59]? = some 0x12 from (LBX9_savesr_3 11).trans (by decide +kernel)) (show cX9_saves.data.toList[60]? = some 0x68 from (LBX9_savesr_3 12).trans (by decide +kernel)) (by decide)
theorem dX9_saves_61 : decode cX9_saves 61 = .ok (.if_icmp .ne 7, 3) := dk_160_ (show cX9_saves.data.toList[61]? = some 0xa0 from (LBX9_savesr_3 13).trans (by decide +kernel)) (show cX9_saves.data.toList[62]? = some 0x00 from (LBX9_savesr_3 14).trans (by decide +kernel)) (show cX9_saves.data.toList[63]? = some 0x07 from (LBX9_savesr_3 15).trans (by decide +kernel)) (by decide)
theorem dX9_saves_64 : decode cX9_saves 64 = .ok (.iconst 0, 1) := dk_3_ (show cX9_saves.data.toList[64]? = some 0x03 from (LBX9_savesr_4 0).trans (by decide +kernel))
theorem dX9_saves_65 : decode cX9_saves 65 = .ok (.goto 4, 3) := dk_167_ (show cX9_saves.data.toList[65]? = some 0xa7 from (LBX9_savesr_4 1).trans (by decide +kernel)) (show cX9_saves.data.toList[66]? = some 0x00 from (LBX9_savesr_4 2).trans (by decide +kernel)) (show cX9_saves.data.toList[67]? = some 0x04 from (LBX9_savesr_4 3).trans (by decide +kernel)) (by decide)
theorem dX9_saves_68 : decode cX9_saves 68 = .ok (.iload_n 3, 1) := dk_29_ (show cX9_saves.data.toList[68]? = some 0x1d from (LBX9_savesr_4 4).trans (by decide +kernel))
theorem dX9_saves_69 : decode cX9_saves 69 = .ok (.invokevirtual 229, 3) := dk_182_ (show cX9_saves.data.toList[69]? = some 0xb6 from (LBX9_savesr_4 5).trans (by decide +kernel)) (show cX9_saves.data.toList[70]? = some 0x00 from (LBX9_savesr_4 6).trans (by decide +kernel)) (show cX9_saves.data.toList[71]? = some 0xe5 from (LBX9_savesr_4 7).trans (by decide +kernel)) (by decide)
theorem dX9_saves_72 : decode cX9_saves 72 = .ok (.istore 4, 2) := dk_54_ (show cX9_saves.data.toList[72]? = some 0x36 from (LBX9_savesr_4 8).trans (by decide +kernel)) (show cX9_saves.data.toList[73]? = some 0x04 from (LBX9_savesr_4 9).trans (by decide +kernel)) (by decide)
theorem dX9_saves_74 : decode cX9_saves 74 = .ok (.iload 4, 2) := dk_21_ (show cX9_saves.data.toList[74]? = some 0x15 from (LBX9_savesr_4 10).trans (by decide +kernel)) (show cX9_saves.data.toList[75]? = some 0x04 from (LBX9_savesr_4 11).trans (by decide +kernel)) (by decide)
theorem dX9_saves_76 : decode cX9_saves 76 = .ok (.ldc 104, 2) := dk_18_ (show cX9_saves.data.toList[76]? = some 0x12 from (LBX9_savesr_4 12).trans (by decide +kernel)) (show cX9_saves.data.toList[77]? = some 0x68 from (LBX9_savesr_4 13).trans (by decide +kernel)) (by decide)
theorem dX9_saves_78 : decode cX9_saves 78 = .ok (.if_icmp .ne 12, 3) := dk_160_ (show cX9_saves.data.toList[78]? = some 0xa0 from (LBX9_savesr_4 14).trans (by decide +kernel)) (show cX9_saves.data.toList[79]? = some 0x00 from (LBX9_savesr_4 15).trans (by decide +kernel)) (show cX9_saves.data.toList[80]? = some 0x0c from (LBX9_savesr_5 0).trans (by decide +kernel)) (by decide)
theorem dX9_saves_81 : decode cX9_saves 81 = .ok (.aload_n 0, 1) := dk_42_ (show cX9_saves.data.toList[81]? = some 0x2a from (LBX9_savesr_5 1).trans (by decide +kernel))
theorem dX9_saves_82 : decode cX9_saves 82 = .ok (.ldc 116, 2) := dk_18_ (show cX9_saves.data.toList[82]? = some 0x12 from (LBX9_savesr_5 2).trans (by decide +kernel)) (show cX9_saves.data.toList[83]? = some 0x74 from (LBX9_savesr_5 3).trans (by decide +kernel)) (by decide)
theorem dX9_saves_84 : decode cX9_saves 84 = .ok (.invokevirtual 70, 3) := dk_182_ (show cX9_saves.data.toList[84]? = some 0xb6 from (LBX9_savesr_5 4).trans (by decide +kernel)) (show cX9_saves.data.toList[85]? = some 0x00 from (LBX9_savesr_5 5).trans (by decide +kernel)) (show cX9_saves.data.toList[86]? = some 0x46 from (LBX9_savesr_5 6).trans (by decide +kernel)) (by decide)
theorem dX9_saves_87 : decode cX9_saves 87 = .ok (.goto 20, 3) := dk_167_ (show cX9_saves.data.toList[87]? = some 0xa7 from (LBX9_savesr_5 7).trans (by decide +kernel)) (show cX9_saves.data.toList[88]? = some 0x00 from (LBX9_savesr_5 8).trans (by decide +kernel)) (show cX9_saves.data.toList[89]? = some 0x14 from (LBX9_savesr_5 9).trans (by decide +kernel)) (by decide)
theorem dX9_saves_90 : decode cX9_saves 90 = .ok (.iload_n 3, 1) := dk_29_ (show cX9_saves.data.toList[90]? = some 0x1d from (LBX9_savesr_5 10).trans (by decide +kernel))
theorem dX9_saves_91 : decode cX9_saves 91 = .ok (.ldc 104, 2) := dk_18_ (show cX9_saves.data.toList[91]? = some 0x12 from (LBX9_savesr_5 11).trans (by decide +kernel)) (show cX9_saves.data.toList[92]? = some 0x68 from (LBX9_savesr_5 12).trans (by decide +kernel)) (by decide)
theorem dX9_saves_93 : decode cX9_saves 93 = .ok (.if_icmp .ne 12, 3) := dk_160_ (show cX9_saves.data.toList[93]? = some 0xa0 from (LBX9_savesr_5 13).trans (by decide +kernel)) (show cX9_saves.data.toList[94]? = some 0x00 from (LBX9_savesr_5 14).trans (by decide +kernel)) (show cX9_saves.data.toList[95]? = some 0x0c from (LBX9_savesr_5 15).trans (by decide +kernel)) (by decide)
theorem dX9_saves_96 : decode cX9_saves 96 = .ok (.aload_n 0, 1) := dk_42_ (show cX9_saves.data.toList[96]? = some 0x2a from (LBX9_savesr_6 0).trans (by decide +kernel))
theorem dX9_saves_97 : decode cX9_saves 97 = .ok (.ldc 96, 2) := dk_18_ (show cX9_saves.data.toList[97]? = some 0x12 from (LBX9_savesr_6 1).trans (by decide +kernel)) (show cX9_saves.data.toList[98]? = some 0x60 from (LBX9_savesr_6 2).trans (by decide +kernel)) (by decide)
theorem dX9_saves_99 : decode cX9_saves 99 = .ok (.invokevirtual 70, 3) := dk_182_ (show cX9_saves.data.toList[99]? = some 0xb6 from (LBX9_savesr_6 3).trans (by decide +kernel)) (show cX9_saves.data.toList[100]? = some 0x00 from (LBX9_savesr_6 4).trans (by decide +kernel)) (show cX9_saves.data.toList[101]? = some 0x46 from (LBX9_savesr_6 5).trans (by decide +kernel)) (by decide)
theorem dX9_saves_102 : decode cX9_saves 102 = .ok (.goto 5, 3) := dk_167_ (show cX9_saves.data.toList[102]? = some 0xa7 from (LBX9_savesr_6 6).trans (by decide +kernel)) (show cX9_saves.data.toList[103]? = some 0x00 from (LBX9_savesr_6 7).trans (by decide +kernel)) (show cX9_saves.data.toList[104]? = some 0x05 from (LBX9_savesr_6 8).trans (by decide +kernel)) (by decide)
theorem dX9_saves_105 : decode cX9_saves 105 = .ok (.iload 4, 2) := dk_21_ (show cX9_saves.data.toList[105]? = some 0x15 from (LBX9_savesr_6 9).trans (by decide +kernel)) (show cX9_saves.data.toList[106]? = some 0x04 from (LBX9_savesr_6 10).trans (by decide +kernel)) (by decide)
theorem dX9_saves_107 : decode cX9_saves 107 = .ok (.ireturn, 1) := dk_172_ (show cX9_saves.data.toList[107]? = some 0xac from (LBX9_savesr_6 11).trans (by decide +kernel))
def LRX9_mend_10 : List UInt8 := []
def LBX9_mend_9 : List UInt8 := [0x04, 0x1c, 0xac]
def LRX9_mend_9 : List UInt8 := LBX9_mend_9 ++ LRX9_mend_10
def LBX9_mend_8 : List UInt8 := [0x01, 0xa7, 0xff, 0x9d, 0x1c, 0x9c, 0x00, 0x0c, 0x2a, 0x12, 0x60, 0xb6, 0x00, 0x46, 0xa7, 0x00]
def LRX9_mend_8 : List UInt8 := LBX9_mend_8 ++ LRX9_mend_9
def LBX9_mend_7 : List UInt8 := [0x68, 0x15, 0x05, 0x60, 0x3d, 0x15, 0x06, 0x3e, 0x84, 0x05, 0x01, 0xa7, 0xff, 0xba, 0x84, 0x04]
def LRX9_mend_7 : List UInt8 := LBX9_mend_7 ++ LRX9_mend_8
def LBX9_mend_6 : List UInt8 := [0x00, 0x19, 0x1c, 0x9b, 0x00, 0x09, 0x15, 0x06, 0x1d, 0xa4, 0x00, 0x0f, 0x10, 0x0a, 0x15, 0x04]
def LRX9_mend_6 : List UInt8 := LBX9_mend_6 ++ LRX9_mend_7
def LBX9_mend_5 : List UInt8 := [0x1b, 0xb6, 0x00, 0xe5, 0xa7, 0x00, 0x05, 0x12, 0x68, 0x36, 0x06, 0x15, 0x06, 0x12, 0x68, 0x9f]
def LRX9_mend_5 : List UInt8 := LBX9_mend_5 ++ LRX9_mend_6
def LBX9_mend_4 : List UInt8 := [0x2a, 0x15, 0x04, 0x15, 0x05, 0xb6, 0x00, 0xb7, 0x99, 0x00, 0x0f, 0x2a, 0x15, 0x04, 0x15, 0x05]
def LRX9_mend_4 : List UInt8 := LBX9_mend_4 ++ LRX9_mend_5
def LBX9_mend_3 : List UInt8 := [0x04, 0x04, 0x60, 0x36, 0x05, 0x15, 0x05, 0x2a, 0xb4, 0x00, 0x07, 0x03, 0x2e, 0xa2, 0x00, 0x41]
def LRX9_mend_3 : List UInt8 := LBX9_mend_3 ++ LRX9_mend_4
def LBX9_mend_2 : List UInt8 := [0x2a, 0xb4, 0x00, 0x07, 0x03, 0x2e, 0xa2, 0x00, 0x5e, 0x1b, 0x12, 0x68, 0x9f, 0x00, 0x58, 0x15]
def LRX9_mend_2 : List UInt8 := LBX9_mend_2 ++ LRX9_mend_3
def LBX9_mend_1 : List UInt8 := [0x46, 0xac, 0x2a, 0xb6, 0x00, 0xe2, 0x3c, 0x02, 0x3d, 0x03, 0x3e, 0x03, 0x36, 0x04, 0x15, 0x04]
def LRX9_mend_1 : List UInt8 := LBX9_mend_1 ++ LRX9_mend_2
def LBX9_mend_0 : List UInt8 := [0x2a, 0xb6, 0x00, 0x71, 0x2a, 0xb4, 0x00, 0x6d, 0x99, 0x00, 0x0a, 0x2a, 0x12, 0x74, 0xb6, 0x00]
def LRX9_mend_0 : List UInt8 := LBX9_mend_0 ++ LRX9_mend_1
set_option maxRecDepth 100000 in
theorem LBX9_mend_eq : cX9_mend.data.toList = LRX9_mend_0 := by decide +kernel
theorem LBX9_mendr_0 (k : Nat) : cX9_mend.data.toList[0 + k]? = LRX9_mend_0[k]? := by rw [LBX9_mend_eq, Nat.zero_add]
theorem LBX9_mendr_1 (k : Nat) : cX9_mend.data.toList[16 + k]? = LRX9_mend_1[k]? := by
  have h := LBX9_mendr_0 (16 + k)
  rw [show 0 + (16 + k) = 16 + k by omega] at h
  rw [h]
  exact (List.getElem?_append_right (l₁ := LBX9_mend_0) (l₂ := LRX9_mend_1) (show 16 ≤ 16 + k by omega)).trans (congrArg (fun i => LRX9_mend_1[i]?) (show 16 + k - 16 = k by omega))
theorem LBX9_mendr_2 (k : Nat) : cX9_mend.data.toList[32 + k]? = LRX9_mend_2[k]? := by
  have h := LBX9_mendr_1 (16 + k)
  rw [show 16 + (16 + k) = 32 + k by omega] at h
  rw [h]
  exact (List.getElem?_append_right (l₁ := LBX9_mend_1) (l₂ := LRX9_mend_2) (show 16 ≤ 16 + k by omega)).trans (congrArg (fun i => LRX9_mend_2[i]?) (show 16 + k - 16 = k by omega))
theorem LBX9_mendr_3 (k : Nat) : cX9_mend.data.toList[48 + k]? = LRX9_mend_3[k]? := by
  have h := LBX9_mendr_2 (16 + k)
  rw [show 32 + (16 + k) = 48 + k by omega] at h
  rw [h]
  exact (List.getElem?_append_right (l₁ := LBX9_mend_2) (l₂ := LRX9_mend_3) (show 16 ≤ 16 + k by omega)).trans (congrArg (fun i => LRX9_mend_3[i]?) (show 16 + k - 16 = k by omega))
theorem LBX9_mendr_4 (k : Nat) : cX9_mend.data.toList[64 + k]? = LRX9_mend_4[k]? := by
  have h := LBX9_mendr_3 (16 + k)
  rw [show 48 + (16 + k) = 64 + k by omega] at h
  rw [h]
  exact (List.getElem?_append_right (l₁ := LBX9_mend_3) (l₂ := LRX9_mend_4) (show 16 ≤ 16 + k by omega)).trans (congrArg (fun i => LRX9_mend_4[i]?) (show 16 + k - 16 = k by omega))
theorem LBX9_mendr_5 (k : Nat) : cX9_mend.data.toList[80 + k]? = LRX9_mend_5[k]? := by
  have h := LBX9_mendr_4 (16 + k)
  rw [show 64 + (16 + k) = 80 + k by omega] at h
  rw [h]
  exact (List.getElem?_append_right (l₁ := LBX9_mend_4) (l₂ := LRX9_mend_5) (show 16 ≤ 16 + k by omega)).trans (congrArg (fun i => LRX9_mend_5[i]?) (show 16 + k - 16 = k by omega))
theorem LBX9_mendr_6 (k : Nat) : cX9_mend.data.toList[96 + k]? = LRX9_mend_6[k]? := by
  have h := LBX9_mendr_5 (16 + k)
  rw [show 80 + (16 + k) = 96 + k by omega] at h
  rw [h]
  exact (List.getElem?_append_right (l₁ := LBX9_mend_5) (l₂ := LRX9_mend_6) (show 16 ≤ 16 + k by omega)).trans (congrArg (fun i => LRX9_mend_6[i]?) (show 16 + k - 16 = k by omega))
theorem LBX9_mendr_7 (k : Nat) : cX9_mend.data.toList[112 + k]? = LRX9_mend_7[k]? := by
  have h := LBX9_mendr_6 (16 + k)
  rw [show 96 + (16 + k) = 112 + k by omega] at h
  rw [h]
  exact (List.getElem?_append_right (l₁ := LBX9_mend_6) (l₂ := LRX9_mend_7) (show 16 ≤ 16 + k by omega)).trans (congrArg (fun i => LRX9_mend_7[i]?) (show 16 + k - 16 = k by omega))
theorem LBX9_mendr_8 (k : Nat) : cX9_mend.data.toList[128 + k]? = LRX9_mend_8[k]? := by
  have h := LBX9_mendr_7 (16 + k)
  rw [show 112 + (16 + k) = 128 + k by omega] at h
  rw [h]
  exact (List.getElem?_append_right (l₁ := LBX9_mend_7) (l₂ := LRX9_mend_8) (show 16 ≤ 16 + k by omega)).trans (congrArg (fun i => LRX9_mend_8[i]?) (show 16 + k - 16 = k by omega))
theorem LBX9_mendr_9 (k : Nat) : cX9_mend.data.toList[144 + k]? = LRX9_mend_9[k]? := by
  have h := LBX9_mendr_8 (16 + k)
  rw [show 128 + (16 + k) = 144 + k by omega] at h
  rw [h]
  exact (List.getElem?_append_right (l₁ := LBX9_mend_8) (l₂ := LRX9_mend_9) (show 16 ≤ 16 + k by omega)).trans (congrArg (fun i => LRX9_mend_9[i]?) (show 16 + k - 16 = k by omega))
theorem dX9_mend_0 : decode cX9_mend 0 = .ok (.aload_n 0, 1) := dk_42_ (show cX9_mend.data.toList[0]? = some 0x2a from (LBX9_mendr_0 0).trans (by decide +kernel))
theorem dX9_mend_1 : decode cX9_mend 1 = .ok (.invokevirtual 113, 3) := dk_182_ (show cX9_mend.data.toList[1]? = some 0xb6 from (LBX9_mendr_0 1).trans (by decide +kernel)) (show cX9_mend.data.toList[2]? = some 0x00 from (LBX9_mendr_0 2).trans (by decide +kernel)) (show cX9_mend.data.toList[3]? = some 0x71 from (LBX9_mendr_0 3).trans (by decide +kernel)) (by decide)
theorem dX9_mend_4 : decode cX9_mend 4 = .ok (.aload_n 0, 1) := dk_42_ (show cX9_mend.data.toList[4]? = some 0x2a from (LBX9_mendr_0 4).trans (by decide +kernel))
theorem dX9_mend_5 : decode cX9_mend 5 = .ok (.getfield 109, 3) := dk_180_ (show cX9_mend.data.toList[5]? = some 0xb4 from (LBX9_mendr_0 5).trans (by decide +kernel)) (show cX9_mend.data.toList[6]? = some 0x00 from (LBX9_mendr_0 6).trans (by decide +kernel)) (show cX9_mend.data.toList[7]? = some 0x6d from (LBX9_mendr_0 7).trans (by decide +kernel)) (by decide)
theorem dX9_mend_8 : decode cX9_mend 8 = .ok (.ifCond .eq 10, 3) := dk_153_ (show cX9_mend.data.toList[8]? = some 0x99 from (LBX9_mendr_0 8).trans (by decide +kernel)) (show cX9_mend.data.toList[9]? = some 0x00 from (LBX9_mendr_0 9).trans (by decide +kernel)) (show cX9_mend.data.toList[10]? = some 0x0a from (LBX9_mendr_0 10).trans (by decide +kernel)) (by decide)
theorem dX9_mend_11 : decode cX9_mend 11 = .ok (.aload_n 0, 1) := dk_42_ (show cX9_mend.data.toList[11]? = some 0x2a from (LBX9_mendr_0 11).trans (by decide +kernel))
theorem dX9_mend_12 : decode cX9_mend 12 = .ok (.ldc 116, 2) := dk_18_ (show cX9_mend.data.toList[12]? = some 0x12 from (LBX9_mendr_0 12).trans (by decide +kernel)) (show cX9_mend.data.toList[13]? = some 0x74 from (LBX9_mendr_0 13).trans (by decide +kernel)) (by decide)
theorem dX9_mend_14 : decode cX9_mend 14 = .ok (.invokevirtual 70, 3) := dk_182_ (show cX9_mend.data.toList[14]? = some 0xb6 from (LBX9_mendr_0 14).trans (by decide +kernel)) (show cX9_mend.data.toList[15]? = some 0x00 from (LBX9_mendr_0 15).trans (by decide +kernel)) (show cX9_mend.data.toList[16]? = some 0x46 from (LBX9_mendr_1 0).trans (by decide +kernel)) (by decide)
theorem dX9_mend_17 : decode cX9_mend 17 = .ok (.ireturn, 1) := dk_172_ (show cX9_mend.data.toList[17]? = some 0xac from (LBX9_mendr_1 1).trans (by decide +kernel))
theorem dX9_mend_18 : decode cX9_mend 18 = .ok (.aload_n 0, 1) := dk_42_ (show cX9_mend.data.toList[18]? = some 0x2a from (LBX9_mendr_1 2).trans (by decide +kernel))
theorem dX9_mend_19 : decode cX9_mend 19 = .ok (.invokevirtual 226, 3) := dk_182_ (show cX9_mend.data.toList[19]? = some 0xb6 from (LBX9_mendr_1 3).trans (by decide +kernel)) (show cX9_mend.data.toList[20]? = some 0x00 from (LBX9_mendr_1 4).trans (by decide +kernel)) (show cX9_mend.data.toList[21]? = some 0xe2 from (LBX9_mendr_1 5).trans (by decide +kernel)) (by decide)
theorem dX9_mend_22 : decode cX9_mend 22 = .ok (.istore_n 1, 1) := dk_60_ (show cX9_mend.data.toList[22]? = some 0x3c from (LBX9_mendr_1 6).trans (by decide +kernel))
theorem dX9_mend_23 : decode cX9_mend 23 = .ok (.iconst (-1), 1) := dk_2_ (show cX9_mend.data.toList[23]? = some 0x02 from (LBX9_mendr_1 7).trans (by decide +kernel))
theorem dX9_mend_24 : decode cX9_mend 24 = .ok (.istore_n 2, 1) := dk_61_ (show cX9_mend.data.toList[24]? = some 0x3d from (LBX9_mendr_1 8).trans (by decide +kernel))
theorem dX9_mend_25 : decode cX9_mend 25 = .ok (.iconst 0, 1) := dk_3_ (show cX9_mend.data.toList[25]? = some 0x03 from (LBX9_mendr_1 9).trans (by decide +kernel))
theorem dX9_mend_26 : decode cX9_mend 26 = .ok (.istore_n 3, 1) := dk_62_ (show cX9_mend.data.toList[26]? = some 0x3e from (LBX9_mendr_1 10).trans (by decide +kernel))
theorem dX9_mend_27 : decode cX9_mend 27 = .ok (.iconst 0, 1) := dk_3_ (show cX9_mend.data.toList[27]? = some 0x03 from (LBX9_mendr_1 11).trans (by decide +kernel))
theorem dX9_mend_28 : decode cX9_mend 28 = .ok (.istore 4, 2) := dk_54_ (show cX9_mend.data.toList[28]? = some 0x36 from (LBX9_mendr_1 12).trans (by decide +kernel)) (show cX9_mend.data.toList[29]? = some 0x04 from (LBX9_mendr_1 13).trans (by decide +kernel)) (by decide)
theorem dX9_mend_30 : decode cX9_mend 30 = .ok (.iload 4, 2) := dk_21_ (show cX9_mend.data.toList[30]? = some 0x15 from (LBX9_mendr_1 14).trans (by decide +kernel)) (show cX9_mend.data.toList[31]? = some 0x04 from (LBX9_mendr_1 15).trans (by decide +kernel)) (by decide)
theorem dX9_mend_32 : decode cX9_mend 32 = .ok (.aload_n 0, 1) := dk_42_ (show cX9_mend.data.toList[32]? = some 0x2a from (LBX9_mendr_2 0).trans (by decide +kernel))
theorem dX9_mend_33 : decode cX9_mend 33 = .ok (.getfield 7, 3) := dk_180_ (show cX9_mend.data.toList[33]? = some 0xb4 from (LBX9_mendr_2 1).trans (by decide +kernel)) (show cX9_mend.data.toList[34]? = some 0x00 from (LBX9_mendr_2 2).trans (by decide +kernel)) (show cX9_mend.data.toList[35]? = some 0x07 from (LBX9_mendr_2 3).trans (by decide +kernel)) (by decide)
theorem dX9_mend_36 : decode cX9_mend 36 = .ok (.iconst 0, 1) := dk_3_ (show cX9_mend.data.toList[36]? = some 0x03 from (LBX9_mendr_2 4).trans (by decide +kernel))
theorem dX9_mend_37 : decode cX9_mend 37 = .ok (.iaload, 1) := dk_46_ (show cX9_mend.data.toList[37]? = some 0x2e from (LBX9_mendr_2 5).trans (by decide +kernel))
theorem dX9_mend_38 : decode cX9_mend 38 = .ok (.if_icmp .ge 94, 3) := dk_162_ (show cX9_mend.data.toList[38]? = some 0xa2 from (LBX9_mendr_2 6).trans (by decide +kernel)) (show cX9_mend.data.toList[39]? = some 0x00 from (LBX9_mendr_2 7).trans (by decide +kernel)) (show cX9_mend.data.toList[40]? = some 0x5e from (LBX9_mendr_2 8).trans (by decide +kernel)) (by decide)
theorem dX9_mend_41 : decode cX9_mend 41 = .ok (.iload_n 1, 1) := dk_27_ (show cX9_mend.data.toList[41]? = some 0x1b from (LBX9_mendr_2 9).trans (by decide +kernel))
theorem dX9_mend_42 : decode cX9_mend 42 = .ok (.ldc 104, 2) := dk_18_ (show cX9_mend.data.toList[42]? = some 0x12 from (LBX9_mendr_2 10).trans (by decide +kernel)) (show cX9_mend.data.toList[43]? = some 0x68 from (LBX9_mendr_2 11).trans (by decide +kernel)) (by decide)
theorem dX9_mend_44 : decode cX9_mend 44 = .ok (.if_icmp .eq 88, 3) := dk_159_ (show cX9_mend.data.toList[44]? = some 0x9f from (LBX9_mendr_2 12).trans (by decide +kernel)) (show cX9_mend.data.toList[45]? = some 0x00 from (LBX9_mendr_2 13).trans (by decide +kernel)) (show cX9_mend.data.toList[46]? = some 0x58 from (LBX9_mendr_2 14).trans (by decide +kernel)) (by decide)
theorem dX9_mend_47 : decode cX9_mend 47 = .ok (.iload 4, 2) := dk_21_ (show cX9_mend.data.toList[47]? = some 0x15 from (LBX9_mendr_2 15).trans (by decide +kernel)) (show cX9_mend.data.toList[48]? = some 0x04 from (LBX9_mendr_3 0).trans (by decide +kernel)) (by decide)
theorem dX9_mend_49 : decode cX9_mend 49 = .ok (.iconst 1, 1) := dk_4_ (show cX9_mend.data.toList[49]? = some 0x04 from (LBX9_mendr_3 1).trans (by decide +kernel))
theorem dX9_mend_50 : decode cX9_mend 50 = .ok (.iadd, 1) := dk_96_ (show cX9_mend.data.toList[50]? = some 0x60 from (LBX9_mendr_3 2).trans (by decide +kernel))
theorem dX9_mend_51 : decode cX9_mend 51 = .ok (.istore 5, 2) := dk_54_ (show cX9_mend.data.toList[51]? = some 0x36 from (LBX9_mendr_3 3).trans (by decide +kernel)) (show cX9_mend.data.toList[52]? = some 0x05 from (LBX9_mendr_3 4).trans (by decide +kernel)) (by decide)
theorem dX9_mend_53 : decode cX9_mend 53 = .ok (.iload 5, 2) := dk_21_ (show cX9_mend.data.toList[53]? = some 0x15 from (LBX9_mendr_3 5).trans (by decide +kernel)) (show cX9_mend.data.toList[54]? = some 0x05 from (LBX9_mendr_3 6).trans (by decide +kernel)) (by decide)
theorem dX9_mend_55 : decode cX9_mend 55 = .ok (.aload_n 0, 1) := dk_42_ (show cX9_mend.data.toList[55]? = some 0x2a from (LBX9_mendr_3 7).trans (by decide +kernel))
theorem dX9_mend_56 : decode cX9_mend 56 = .ok (.getfield 7, 3) := dk_180_ (show cX9_mend.data.toList[56]? = some 0xb4 from (LBX9_mendr_3 8).trans (by decide +kernel)) (show cX9_mend.data.toList[57]? = some 0x00 from (LBX9_mendr_3 9).trans (by decide +kernel)) (show cX9_mend.data.toList[58]? = some 0x07 from (LBX9_mendr_3 10).trans (by decide +kernel)) (by decide)
theorem dX9_mend_59 : decode cX9_mend 59 = .ok (.iconst 0, 1) := dk_3_ (show cX9_mend.data.toList[59]? = some 0x03 from (LBX9_mendr_3 11).trans (by decide +kernel))
theorem dX9_mend_60 : decode cX9_mend 60 = .ok (.iaload, 1) := dk_46_ (show cX9_mend.data.toList[60]? = some 0x2e from (LBX9_mendr_3 12).trans (by decide +kernel))
theorem dX9_mend_61 : decode cX9_mend 61 = .ok (.if_icmp .ge 65, 3) := dk_162_ (show cX9_mend.data.toList[61]? = some 0xa2 from (LBX9_mendr_3 13).trans (by decide +kernel)) (show cX9_mend.data.toList[62]? = some 0x00 from (LBX9_mendr_3 14).trans (by decide +kernel)) (show cX9_mend.data.toList[63]? = some 0x41 from (LBX9_mendr_3 15).trans (by decide +kernel)) (by decide)
theorem dX9_mend_64 : decode cX9_mend 64 = .ok (.aload_n 0, 1) := dk_42_ (show cX9_mend.data.toList[64]? = some 0x2a from (LBX9_mendr_4 0).trans (by decide +kernel))
theorem dX9_mend_65 : decode cX9_mend 65 = .ok (.iload 4, 2) := dk_21_ (show cX9_mend.data.toList[65]? = some 0x15 from (LBX9_mendr_4 1).trans (by decide +kernel)) (show cX9_mend.data.toList[66]? = some 0x04 from (LBX9_mendr_4 2).trans (by decide +kernel)) (by decide)
theorem dX9_mend_67 : decode cX9_mend 67 = .ok (.iload 5, 2) := dk_21_ (show cX9_mend.data.toList[67]? = some 0x15 from (LBX9_mendr_4 3).trans (by decide +kernel)) (show cX9_mend.data.toList[68]? = some 0x05 from (LBX9_mendr_4 4).trans (by decide +kernel)) (by decide)
theorem dX9_mend_69 : decode cX9_mend 69 = .ok (.invokevirtual 183, 3) := dk_182_ (show cX9_mend.data.toList[69]? = some 0xb6 from (LBX9_mendr_4 5).trans (by decide +kernel)) (show cX9_mend.data.toList[70]? = some 0x00 from (LBX9_mendr_4 6).trans (by decide +kernel)) (show cX9_mend.data.toList[71]? = some 0xb7 from (LBX9_mendr_4 7).trans (by decide +kernel)) (by decide)
theorem dX9_mend_72 : decode cX9_mend 72 = .ok (.ifCond .eq 15, 3) := dk_153_ (show cX9_mend.data.toList[72]? = some 0x99 from (LBX9_mendr_4 8).trans (by decide +kernel)) (show cX9_mend.data.toList[73]? = some 0x00 from (LBX9_mendr_4 9).trans (by decide +kernel)) (show cX9_mend.data.toList[74]? = some 0x0f from (LBX9_mendr_4 10).trans (by decide +kernel)) (by decide)
theorem dX9_mend_75 : decode cX9_mend 75 = .ok (.aload_n 0, 1) := dk_42_ (show cX9_mend.data.toList[75]? = some 0x2a from (LBX9_mendr_4 11).trans (by decide +kernel))
theorem dX9_mend_76 : decode cX9_mend 76 = .ok (.iload 4, 2) := dk_21_ (show cX9_mend.data.toList[76]? = some 0x15 from (LBX9_mendr_4 12).trans (by decide +kernel)) (show cX9_mend.data.toList[77]? = some 0x04 from (LBX9_mendr_4 13).trans (by decide +kernel)) (by decide)
theorem dX9_mend_78 : decode cX9_mend 78 = .ok (.iload 5, 2) := dk_21_ (show cX9_mend.data.toList[78]? = some 0x15 from (LBX9_mendr_4 14).trans (by decide +kernel)) (show cX9_mend.data.toList[79]? = some 0x05 from (LBX9_mendr_4 15).trans (by decide +kernel)) (by decide)
theorem dX9_mend_80 : decode cX9_mend 80 = .ok (.iload_n 1, 1) := dk_27_ (show cX9_mend.data.toList[80]? = some 0x1b from (LBX9_mendr_5 0).trans (by decide +kernel))
theorem dX9_mend_81 : decode cX9_mend 81 = .ok (.invokevirtual 229, 3) := dk_182_ (show cX9_mend.data.toList[81]? = some 0xb6 from (LBX9_mendr_5 1).trans (by decide +kernel)) (show cX9_mend.data.toList[82]? = some 0x00 from (LBX9_mendr_5 2).trans (by decide +kernel)) (show cX9_mend.data.toList[83]? = some 0xe5 from (LBX9_mendr_5 3).trans (by decide +kernel)) (by decide)
theorem dX9_mend_84 : decode cX9_mend 84 = .ok (.goto 5, 3) := dk_167_ (show cX9_mend.data.toList[84]? = some 0xa7 from (LBX9_mendr_5 4).trans (by decide +kernel)) (show cX9_mend.data.toList[85]? = some 0x00 from (LBX9_mendr_5 5).trans (by decide +kernel)) (show cX9_mend.data.toList[86]? = some 0x05 from (LBX9_mendr_5 6).trans (by decide +kernel)) (by decide)
theorem dX9_mend_87 : decode cX9_mend 87 = .ok (.ldc 104, 2) := dk_18_ (show cX9_mend.data.toList[87]? = some 0x12 from (LBX9_mendr_5 7).trans (by decide +kernel)) (show cX9_mend.data.toList[88]? = some 0x68 from (LBX9_mendr_5 8).trans (by decide +kernel)) (by decide)
theorem dX9_mend_89 : decode cX9_mend 89 = .ok (.istore 6, 2) := dk_54_ (show cX9_mend.data.toList[89]? = some 0x36 from (LBX9_mendr_5 9).trans (by decide +kernel)) (show cX9_mend.data.toList[90]? = some 0x06 from (LBX9_mendr_5 10).trans (by decide +kernel)) (by decide)
theorem dX9_mend_91 : decode cX9_mend 91 = .ok (.iload 6, 2) := dk_21_ (show cX9_mend.data.toList[91]? = some 0x15 from (LBX9_mendr_5 11).trans (by decide +kernel)) (show cX9_mend.data.toList[92]? = some 0x06 from (LBX9_mendr_5 12).trans (by decide +kernel)) (by decide)
theorem dX9_mend_93 : decode cX9_mend 93 = .ok (.ldc 104, 2) := dk_18_ (show cX9_mend.data.toList[93]? = some 0x12 from (LBX9_mendr_5 13).trans (by decide +kernel)) (show cX9_mend.data.toList[94]? = some 0x68 from (LBX9_mendr_5 14).trans (by decide +kernel)) (by decide)
theorem dX9_mend_95 : decode cX9_mend 95 = .ok (.if_icmp .eq 25, 3) := dk_159_ (show cX9_mend.data.toList[95]? = some 0x9f from (LBX9_mendr_5 15).trans (by decide +kernel)) (show cX9_mend.data.toList[96]? = some 0x00 from (LBX9_mendr_6 0).trans (by decide +kernel)) (show cX9_mend.data.toList[97]? = some 0x19 from (LBX9_mendr_6 1).trans (by decide +kernel)) (by decide)
theorem dX9_mend_98 : decode cX9_mend 98 = .ok (.iload_n 2, 1) := dk_28_ (show cX9_mend.data.toList[98]? = some 0x1c from (LBX9_mendr_6 2).trans (by decide +kernel))
theorem dX9_mend_99 : decode cX9_mend 99 = .ok (.ifCond .lt 9, 3) := dk_155_ (show cX9_mend.data.toList[99]? = some 0x9b from (LBX9_mendr_6 3).trans (by decide +kernel)) (show cX9_mend.data.toList[100]? = some 0x00 from (LBX9_mendr_6 4).trans (by decide +kernel)) (show cX9_mend.data.toList[101]? = some 0x09 from (LBX9_mendr_6 5).trans (by decide +kernel)) (by decide)
theorem dX9_mend_102 : decode cX9_mend 102 = .ok (.iload 6, 2) := dk_21_ (show cX9_mend.data.toList[102]? = some 0x15 from (LBX9_mendr_6 6).trans (by decide +kernel)) (show cX9_mend.data.toList[103]? = some 0x06 from (LBX9_mendr_6 7).trans (by decide +kernel)) (by decide)
theorem dX9_mend_104 : decode cX9_mend 104 = .ok (.iload_n 3, 1) := dk_29_ (show cX9_mend.data.toList[104]? = some 0x1d from (LBX9_mendr_6 8).trans (by decide +kernel))
theorem dX9_mend_105 : decode cX9_mend 105 = .ok (.if_icmp .le 15, 3) := dk_164_ (show cX9_mend.data.toList[105]? = some 0xa4 from (LBX9_mendr_6 9).trans (by decide +kernel)) (show cX9_mend.data.toList[106]? = some 0x00 from (LBX9_mendr_6 10).trans (by decide +kernel)) (show cX9_mend.data.toList[107]? = some 0x0f from (LBX9_mendr_6 11).trans (by decide +kernel)) (by decide)
theorem dX9_mend_108 : decode cX9_mend 108 = .ok (.bipush 10, 2) := dk_16_ (show cX9_mend.data.toList[108]? = some 0x10 from (LBX9_mendr_6 12).trans (by decide +kernel)) (show cX9_mend.data.toList[109]? = some 0x0a from (LBX9_mendr_6 13).trans (by decide +kernel)) (by decide)
theorem dX9_mend_110 : decode cX9_mend 110 = .ok (.iload 4, 2) := dk_21_ (show cX9_mend.data.toList[110]? = some 0x15 from (LBX9_mendr_6 14).trans (by decide +kernel)) (show cX9_mend.data.toList[111]? = some 0x04 from (LBX9_mendr_6 15).trans (by decide +kernel)) (by decide)
theorem dX9_mend_112 : decode cX9_mend 112 = .ok (.imul, 1) := dk_104_ (show cX9_mend.data.toList[112]? = some 0x68 from (LBX9_mendr_7 0).trans (by decide +kernel))
theorem dX9_mend_113 : decode cX9_mend 113 = .ok (.iload 5, 2) := dk_21_ (show cX9_mend.data.toList[113]? = some 0x15 from (LBX9_mendr_7 1).trans (by decide +kernel)) (show cX9_mend.data.toList[114]? = some 0x05 from (LBX9_mendr_7 2).trans (by decide +kernel)) (by decide)
theorem dX9_mend_115 : decode cX9_mend 115 = .ok (.iadd, 1) := dk_96_ (show cX9_mend.data.toList[115]? = some 0x60 from (LBX9_mendr_7 3).trans (by decide +kernel))
theorem dX9_mend_116 : decode cX9_mend 116 = .ok (.istore_n 2, 1) := dk_61_ (show cX9_mend.data.toList[116]? = some 0x3d from (LBX9_mendr_7 4).trans (by decide +kernel))
theorem dX9_mend_117 : decode cX9_mend 117 = .ok (.iload 6, 2) := dk_21_ (show cX9_mend.data.toList[117]? = some 0x15 from (LBX9_mendr_7 5).trans (by decide +kernel)) (show cX9_mend.data.toList[118]? = some 0x06 from (LBX9_mendr_7 6).trans (by decide +kernel)) (by decide)
theorem dX9_mend_119 : decode cX9_mend 119 = .ok (.istore_n 3, 1) := dk_62_ (show cX9_mend.data.toList[119]? = some 0x3e from (LBX9_mendr_7 7).trans (by decide +kernel))
theorem dX9_mend_120 : decode cX9_mend 120 = .ok (.iinc 5 1, 3) := dk_132_ (show cX9_mend.data.toList[120]? = some 0x84 from (LBX9_mendr_7 8).trans (by decide +kernel)) (show cX9_mend.data.toList[121]? = some 0x05 from (LBX9_mendr_7 9).trans (by decide +kernel)) (show cX9_mend.data.toList[122]? = some 0x01 from (LBX9_mendr_7 10).trans (by decide +kernel)) (by decide) (by decide)
theorem dX9_mend_123 : decode cX9_mend 123 = .ok (.goto (-70), 3) := dk_167_ (show cX9_mend.data.toList[123]? = some 0xa7 from (LBX9_mendr_7 11).trans (by decide +kernel)) (show cX9_mend.data.toList[124]? = some 0xff from (LBX9_mendr_7 12).trans (by decide +kernel)) (show cX9_mend.data.toList[125]? = some 0xba from (LBX9_mendr_7 13).trans (by decide +kernel)) (by decide)
theorem dX9_mend_126 : decode cX9_mend 126 = .ok (.iinc 4 1, 3) := dk_132_ (show cX9_mend.data.toList[126]? = some 0x84 from (LBX9_mendr_7 14).trans (by decide +kernel)) (show cX9_mend.data.toList[127]? = some 0x04 from (LBX9_mendr_7 15).trans (by decide +kernel)) (show cX9_mend.data.toList[128]? = some 0x01 from (LBX9_mendr_8 0).trans (by decide +kernel)) (by decide) (by decide)
theorem dX9_mend_129 : decode cX9_mend 129 = .ok (.goto (-99), 3) := dk_167_ (show cX9_mend.data.toList[129]? = some 0xa7 from (LBX9_mendr_8 1).trans (by decide +kernel)) (show cX9_mend.data.toList[130]? = some 0xff from (LBX9_mendr_8 2).trans (by decide +kernel)) (show cX9_mend.data.toList[131]? = some 0x9d from (LBX9_mendr_8 3).trans (by decide +kernel)) (by decide)
theorem dX9_mend_132 : decode cX9_mend 132 = .ok (.iload_n 2, 1) := dk_28_ (show cX9_mend.data.toList[132]? = some 0x1c from (LBX9_mendr_8 4).trans (by decide +kernel))
theorem dX9_mend_133 : decode cX9_mend 133 = .ok (.ifCond .ge 12, 3) := dk_156_ (show cX9_mend.data.toList[133]? = some 0x9c from (LBX9_mendr_8 5).trans (by decide +kernel)) (show cX9_mend.data.toList[134]? = some 0x00 from (LBX9_mendr_8 6).trans (by decide +kernel)) (show cX9_mend.data.toList[135]? = some 0x0c from (LBX9_mendr_8 7).trans (by decide +kernel)) (by decide)
theorem dX9_mend_136 : decode cX9_mend 136 = .ok (.aload_n 0, 1) := dk_42_ (show cX9_mend.data.toList[136]? = some 0x2a from (LBX9_mendr_8 8).trans (by decide +kernel))
theorem dX9_mend_137 : decode cX9_mend 137 = .ok (.ldc 96, 2) := dk_18_ (show cX9_mend.data.toList[137]? = some 0x12 from (LBX9_mendr_8 9).trans (by decide +kernel)) (show cX9_mend.data.toList[138]? = some 0x60 from (LBX9_mendr_8 10).trans (by decide +kernel)) (by decide)
theorem dX9_mend_139 : decode cX9_mend 139 = .ok (.invokevirtual 70, 3) := dk_182_ (show cX9_mend.data.toList[139]? = some 0xb6 from (LBX9_mendr_8 11).trans (by decide +kernel)) (show cX9_mend.data.toList[140]? = some 0x00 from (LBX9_mendr_8 12).trans (by decide +kernel)) (show cX9_mend.data.toList[141]? = some 0x46 from (LBX9_mendr_8 13).trans (by decide +kernel)) (by decide)
theorem dX9_mend_142 : decode cX9_mend 142 = .ok (.goto 4, 3) := dk_167_ (show cX9_mend.data.toList[142]? = some 0xa7 from (LBX9_mendr_8 14).trans (by decide +kernel)) (show cX9_mend.data.toList[143]? = some 0x00 from (LBX9_mendr_8 15).trans (by decide +kernel)) (show cX9_mend.data.toList[144]? = some 0x04 from (LBX9_mendr_9 0).trans (by decide +kernel)) (by decide)
theorem dX9_mend_145 : decode cX9_mend 145 = .ok (.iload_n 2, 1) := dk_28_ (show cX9_mend.data.toList[145]? = some 0x1c from (LBX9_mendr_9 1).trans (by decide +kernel))
theorem dX9_mend_146 : decode cX9_mend 146 = .ok (.ireturn, 1) := dk_172_ (show cX9_mend.data.toList[146]? = some 0xac from (LBX9_mendr_9 2).trans (by decide +kernel))
def LRX9_nearest_5 : List UInt8 := []
def LBX9_nearest_4 : List UInt8 := [0x3d, 0x84, 0x03, 0x01, 0xa7, 0xff, 0xc0, 0x1c, 0xac]
def LRX9_nearest_4 : List UInt8 := LBX9_nearest_4 ++ LRX9_nearest_5
def LBX9_nearest_3 : List UInt8 := [0x00, 0x64, 0x2a, 0x1b, 0x1c, 0xb6, 0x00, 0x64, 0xa2, 0x00, 0x07, 0x1d, 0xa7, 0x00, 0x04, 0x1c]
def LRX9_nearest_3 : List UInt8 := LBX9_nearest_3 ++ LRX9_nearest_4
def LBX9_nearest_2 : List UInt8 := [0x03, 0x36, 0x04, 0x15, 0x04, 0x99, 0x00, 0x1a, 0x1c, 0x9b, 0x00, 0x12, 0x2a, 0x1b, 0x1d, 0xb6]
def LRX9_nearest_2 : List UInt8 := LBX9_nearest_2 ++ LRX9_nearest_3
def LBX9_nearest_1 : List UInt8 := [0x9f, 0x00, 0x10, 0x2a, 0x1b, 0x1d, 0xb6, 0x00, 0x61, 0x99, 0x00, 0x07, 0x04, 0xa7, 0x00, 0x04]
def LRX9_nearest_1 : List UInt8 := LBX9_nearest_1 ++ LRX9_nearest_2
def LBX9_nearest_0 : List UInt8 := [0x02, 0x3d, 0x03, 0x3e, 0x1d, 0x2a, 0xb4, 0x00, 0x07, 0x03, 0x2e, 0xa2, 0x00, 0x3c, 0x1d, 0x1b]
def LRX9_nearest_0 : List UInt8 := LBX9_nearest_0 ++ LRX9_nearest_1
set_option maxRecDepth 100000 in
theorem LBX9_nearest_eq : cX9_nearest.data.toList = LRX9_nearest_0 := by decide +kernel
theorem LBX9_nearestr_0 (k : Nat) : cX9_nearest.data.toList[0 + k]? = LRX9_nearest_0[k]? := by rw [LBX9_nearest_eq, Nat.zero_add]
theorem LBX9_nearestr_1 (k : Nat) : cX9_nearest.data.toList[16 + k]? = LRX9_nearest_1[k]? := by
  have h := LBX9_nearestr_0 (16 + k)
  rw [show 0 + (16 + k) = 16 + k by omega] at h
  rw [h]
  exact (List.getElem?_append_right (l₁ := LBX9_nearest_0) (l₂ := LRX9_nearest_1) (show 16 ≤ 16 + k by omega)).trans (congrArg (fun i => LRX9_nearest_1[i]?) (show 16 + k - 16 = k by omega))
theorem LBX9_nearestr_2 (k : Nat) : cX9_nearest.data.toList[32 + k]? = LRX9_nearest_2[k]? := by
  have h := LBX9_nearestr_1 (16 + k)
  rw [show 16 + (16 + k) = 32 + k by omega] at h
  rw [h]
  exact (List.getElem?_append_right (l₁ := LBX9_nearest_1) (l₂ := LRX9_nearest_2) (show 16 ≤ 16 + k by omega)).trans (congrArg (fun i => LRX9_nearest_2[i]?) (show 16 + k - 16 = k by omega))
theorem LBX9_nearestr_3 (k : Nat) : cX9_nearest.data.toList[48 + k]? = LRX9_nearest_3[k]? := by
  have h := LBX9_nearestr_2 (16 + k)
  rw [show 32 + (16 + k) = 48 + k by omega] at h
  rw [h]
  exact (List.getElem?_append_right (l₁ := LBX9_nearest_2) (l₂ := LRX9_nearest_3) (show 16 ≤ 16 + k by omega)).trans (congrArg (fun i => LRX9_nearest_3[i]?) (show 16 + k - 16 = k by omega))
theorem LBX9_nearestr_4 (k : Nat) : cX9_nearest.data.toList[64 + k]? = LRX9_nearest_4[k]? := by
  have h := LBX9_nearestr_3 (16 + k)
  rw [show 48 + (16 + k) = 64 + k by omega] at h
  rw [h]
  exact (List.getElem?_append_right (l₁ := LBX9_nearest_3) (l₂ := LRX9_nearest_4) (show 16 ≤ 16 + k by omega)).trans (congrArg (fun i => LRX9_nearest_4[i]?) (show 16 + k - 16 = k by omega))
theorem dX9_nearest_0 : decode cX9_nearest 0 = .ok (.iconst (-1), 1) := dk_2_ (show cX9_nearest.data.toList[0]? = some 0x02 from (LBX9_nearestr_0 0).trans (by decide +kernel))
theorem dX9_nearest_1 : decode cX9_nearest 1 = .ok (.istore_n 2, 1) := dk_61_ (show cX9_nearest.data.toList[1]? = some 0x3d from (LBX9_nearestr_0 1).trans (by decide +kernel))
theorem dX9_nearest_2 : decode cX9_nearest 2 = .ok (.iconst 0, 1) := dk_3_ (show cX9_nearest.data.toList[2]? = some 0x03 from (LBX9_nearestr_0 2).trans (by decide +kernel))
theorem dX9_nearest_3 : decode cX9_nearest 3 = .ok (.istore_n 3, 1) := dk_62_ (show cX9_nearest.data.toList[3]? = some 0x3e from (LBX9_nearestr_0 3).trans (by decide +kernel))
theorem dX9_nearest_4 : decode cX9_nearest 4 = .ok (.iload_n 3, 1) := dk_29_ (show cX9_nearest.data.toList[4]? = some 0x1d from (LBX9_nearestr_0 4).trans (by decide +kernel))
theorem dX9_nearest_5 : decode cX9_nearest 5 = .ok (.aload_n 0, 1) := dk_42_ (show cX9_nearest.data.toList[5]? = some 0x2a from (LBX9_nearestr_0 5).trans (by decide +kernel))
theorem dX9_nearest_6 : decode cX9_nearest 6 = .ok (.getfield 7, 3) := dk_180_ (show cX9_nearest.data.toList[6]? = some 0xb4 from (LBX9_nearestr_0 6).trans (by decide +kernel)) (show cX9_nearest.data.toList[7]? = some 0x00 from (LBX9_nearestr_0 7).trans (by decide +kernel)) (show cX9_nearest.data.toList[8]? = some 0x07 from (LBX9_nearestr_0 8).trans (by decide +kernel)) (by decide)
theorem dX9_nearest_9 : decode cX9_nearest 9 = .ok (.iconst 0, 1) := dk_3_ (show cX9_nearest.data.toList[9]? = some 0x03 from (LBX9_nearestr_0 9).trans (by decide +kernel))
theorem dX9_nearest_10 : decode cX9_nearest 10 = .ok (.iaload, 1) := dk_46_ (show cX9_nearest.data.toList[10]? = some 0x2e from (LBX9_nearestr_0 10).trans (by decide +kernel))
theorem dX9_nearest_11 : decode cX9_nearest 11 = .ok (.if_icmp .ge 60, 3) := dk_162_ (show cX9_nearest.data.toList[11]? = some 0xa2 from (LBX9_nearestr_0 11).trans (by decide +kernel)) (show cX9_nearest.data.toList[12]? = some 0x00 from (LBX9_nearestr_0 12).trans (by decide +kernel)) (show cX9_nearest.data.toList[13]? = some 0x3c from (LBX9_nearestr_0 13).trans (by decide +kernel)) (by decide)
theorem dX9_nearest_14 : decode cX9_nearest 14 = .ok (.iload_n 3, 1) := dk_29_ (show cX9_nearest.data.toList[14]? = some 0x1d from (LBX9_nearestr_0 14).trans (by decide +kernel))
theorem dX9_nearest_15 : decode cX9_nearest 15 = .ok (.iload_n 1, 1) := dk_27_ (show cX9_nearest.data.toList[15]? = some 0x1b from (LBX9_nearestr_0 15).trans (by decide +kernel))
theorem dX9_nearest_16 : decode cX9_nearest 16 = .ok (.if_icmp .eq 16, 3) := dk_159_ (show cX9_nearest.data.toList[16]? = some 0x9f from (LBX9_nearestr_1 0).trans (by decide +kernel)) (show cX9_nearest.data.toList[17]? = some 0x00 from (LBX9_nearestr_1 1).trans (by decide +kernel)) (show cX9_nearest.data.toList[18]? = some 0x10 from (LBX9_nearestr_1 2).trans (by decide +kernel)) (by decide)
theorem dX9_nearest_19 : decode cX9_nearest 19 = .ok (.aload_n 0, 1) := dk_42_ (show cX9_nearest.data.toList[19]? = some 0x2a from (LBX9_nearestr_1 3).trans (by decide +kernel))
theorem dX9_nearest_20 : decode cX9_nearest 20 = .ok (.iload_n 1, 1) := dk_27_ (show cX9_nearest.data.toList[20]? = some 0x1b from (LBX9_nearestr_1 4).trans (by decide +kernel))
theorem dX9_nearest_21 : decode cX9_nearest 21 = .ok (.iload_n 3, 1) := dk_29_ (show cX9_nearest.data.toList[21]? = some 0x1d from (LBX9_nearestr_1 5).trans (by decide +kernel))
theorem dX9_nearest_22 : decode cX9_nearest 22 = .ok (.invokevirtual 97, 3) := dk_182_ (show cX9_nearest.data.toList[22]? = some 0xb6 from (LBX9_nearestr_1 6).trans (by decide +kernel)) (show cX9_nearest.data.toList[23]? = some 0x00 from (LBX9_nearestr_1 7).trans (by decide +kernel)) (show cX9_nearest.data.toList[24]? = some 0x61 from (LBX9_nearestr_1 8).trans (by decide +kernel)) (by decide)
theorem dX9_nearest_25 : decode cX9_nearest 25 = .ok (.ifCond .eq 7, 3) := dk_153_ (show cX9_nearest.data.toList[25]? = some 0x99 from (LBX9_nearestr_1 9).trans (by decide +kernel)) (show cX9_nearest.data.toList[26]? = some 0x00 from (LBX9_nearestr_1 10).trans (by decide +kernel)) (show cX9_nearest.data.toList[27]? = some 0x07 from (LBX9_nearestr_1 11).trans (by decide +kernel)) (by decide)
theorem dX9_nearest_28 : decode cX9_nearest 28 = .ok (.iconst 1, 1) := dk_4_ (show cX9_nearest.data.toList[28]? = some 0x04 from (LBX9_nearestr_1 12).trans (by decide +kernel))
theorem dX9_nearest_29 : decode cX9_nearest 29 = .ok (.goto 4, 3) := dk_167_ (show cX9_nearest.data.toList[29]? = some 0xa7 from (LBX9_nearestr_1 13).trans (by decide +kernel)) (show cX9_nearest.data.toList[30]? = some 0x00 from (LBX9_nearestr_1 14).trans (by decide +kernel)) (show cX9_nearest.data.toList[31]? = some 0x04 from (LBX9_nearestr_1 15).trans (by decide +kernel)) (by decide)
theorem dX9_nearest_32 : decode cX9_nearest 32 = .ok (.iconst 0, 1) := dk_3_ (show cX9_nearest.data.toList[32]? = some 0x03 from (LBX9_nearestr_2 0).trans (by decide +kernel))
theorem dX9_nearest_33 : decode cX9_nearest 33 = .ok (.istore 4, 2) := dk_54_ (show cX9_nearest.data.toList[33]? = some 0x36 from (LBX9_nearestr_2 1).trans (by decide +kernel)) (show cX9_nearest.data.toList[34]? = some 0x04 from (LBX9_nearestr_2 2).trans (by decide +kernel)) (by decide)
theorem dX9_nearest_35 : decode cX9_nearest 35 = .ok (.iload 4, 2) := dk_21_ (show cX9_nearest.data.toList[35]? = some 0x15 from (LBX9_nearestr_2 3).trans (by decide +kernel)) (show cX9_nearest.data.toList[36]? = some 0x04 from (LBX9_nearestr_2 4).trans (by decide +kernel)) (by decide)
theorem dX9_nearest_37 : decode cX9_nearest 37 = .ok (.ifCond .eq 26, 3) := dk_153_ (show cX9_nearest.data.toList[37]? = some 0x99 from (LBX9_nearestr_2 5).trans (by decide +kernel)) (show cX9_nearest.data.toList[38]? = some 0x00 from (LBX9_nearestr_2 6).trans (by decide +kernel)) (show cX9_nearest.data.toList[39]? = some 0x1a from (LBX9_nearestr_2 7).trans (by decide +kernel)) (by decide)
theorem dX9_nearest_40 : decode cX9_nearest 40 = .ok (.iload_n 2, 1) := dk_28_ (show cX9_nearest.data.toList[40]? = some 0x1c from (LBX9_nearestr_2 8).trans (by decide +kernel))
theorem dX9_nearest_41 : decode cX9_nearest 41 = .ok (.ifCond .lt 18, 3) := dk_155_ (show cX9_nearest.data.toList[41]? = some 0x9b from (LBX9_nearestr_2 9).trans (by decide +kernel)) (show cX9_nearest.data.toList[42]? = some 0x00 from (LBX9_nearestr_2 10).trans (by decide +kernel)) (show cX9_nearest.data.toList[43]? = some 0x12 from (LBX9_nearestr_2 11).trans (by decide +kernel)) (by decide)
theorem dX9_nearest_44 : decode cX9_nearest 44 = .ok (.aload_n 0, 1) := dk_42_ (show cX9_nearest.data.toList[44]? = some 0x2a from (LBX9_nearestr_2 12).trans (by decide +kernel))
theorem dX9_nearest_45 : decode cX9_nearest 45 = .ok (.iload_n 1, 1) := dk_27_ (show cX9_nearest.data.toList[45]? = some 0x1b from (LBX9_nearestr_2 13).trans (by decide +kernel))
theorem dX9_nearest_46 : decode cX9_nearest 46 = .ok (.iload_n 3, 1) := dk_29_ (show cX9_nearest.data.toList[46]? = some 0x1d from (LBX9_nearestr_2 14).trans (by decide +kernel))
theorem dX9_nearest_47 : decode cX9_nearest 47 = .ok (.invokevirtual 100, 3) := dk_182_ (show cX9_nearest.data.toList[47]? = some 0xb6 from (LBX9_nearestr_2 15).trans (by decide +kernel)) (show cX9_nearest.data.toList[48]? = some 0x00 from (LBX9_nearestr_3 0).trans (by decide +kernel)) (show cX9_nearest.data.toList[49]? = some 0x64 from (LBX9_nearestr_3 1).trans (by decide +kernel)) (by decide)
theorem dX9_nearest_50 : decode cX9_nearest 50 = .ok (.aload_n 0, 1) := dk_42_ (show cX9_nearest.data.toList[50]? = some 0x2a from (LBX9_nearestr_3 2).trans (by decide +kernel))
theorem dX9_nearest_51 : decode cX9_nearest 51 = .ok (.iload_n 1, 1) := dk_27_ (show cX9_nearest.data.toList[51]? = some 0x1b from (LBX9_nearestr_3 3).trans (by decide +kernel))
theorem dX9_nearest_52 : decode cX9_nearest 52 = .ok (.iload_n 2, 1) := dk_28_ (show cX9_nearest.data.toList[52]? = some 0x1c from (LBX9_nearestr_3 4).trans (by decide +kernel))
theorem dX9_nearest_53 : decode cX9_nearest 53 = .ok (.invokevirtual 100, 3) := dk_182_ (show cX9_nearest.data.toList[53]? = some 0xb6 from (LBX9_nearestr_3 5).trans (by decide +kernel)) (show cX9_nearest.data.toList[54]? = some 0x00 from (LBX9_nearestr_3 6).trans (by decide +kernel)) (show cX9_nearest.data.toList[55]? = some 0x64 from (LBX9_nearestr_3 7).trans (by decide +kernel)) (by decide)
theorem dX9_nearest_56 : decode cX9_nearest 56 = .ok (.if_icmp .ge 7, 3) := dk_162_ (show cX9_nearest.data.toList[56]? = some 0xa2 from (LBX9_nearestr_3 8).trans (by decide +kernel)) (show cX9_nearest.data.toList[57]? = some 0x00 from (LBX9_nearestr_3 9).trans (by decide +kernel)) (show cX9_nearest.data.toList[58]? = some 0x07 from (LBX9_nearestr_3 10).trans (by decide +kernel)) (by decide)
theorem dX9_nearest_59 : decode cX9_nearest 59 = .ok (.iload_n 3, 1) := dk_29_ (show cX9_nearest.data.toList[59]? = some 0x1d from (LBX9_nearestr_3 11).trans (by decide +kernel))
theorem dX9_nearest_60 : decode cX9_nearest 60 = .ok (.goto 4, 3) := dk_167_ (show cX9_nearest.data.toList[60]? = some 0xa7 from (LBX9_nearestr_3 12).trans (by decide +kernel)) (show cX9_nearest.data.toList[61]? = some 0x00 from (LBX9_nearestr_3 13).trans (by decide +kernel)) (show cX9_nearest.data.toList[62]? = some 0x04 from (LBX9_nearestr_3 14).trans (by decide +kernel)) (by decide)
theorem dX9_nearest_63 : decode cX9_nearest 63 = .ok (.iload_n 2, 1) := dk_28_ (show cX9_nearest.data.toList[63]? = some 0x1c from (LBX9_nearestr_3 15).trans (by decide +kernel))
theorem dX9_nearest_64 : decode cX9_nearest 64 = .ok (.istore_n 2, 1) := dk_61_ (show cX9_nearest.data.toList[64]? = some 0x3d from (LBX9_nearestr_4 0).trans (by decide +kernel))
theorem dX9_nearest_65 : decode cX9_nearest 65 = .ok (.iinc 3 1, 3) := dk_132_ (show cX9_nearest.data.toList[65]? = some 0x84 from (LBX9_nearestr_4 1).trans (by decide +kernel)) (show cX9_nearest.data.toList[66]? = some 0x03 from (LBX9_nearestr_4 2).trans (by decide +kernel)) (show cX9_nearest.data.toList[67]? = some 0x01 from (LBX9_nearestr_4 3).trans (by decide +kernel)) (by decide) (by decide)
theorem dX9_nearest_68 : decode cX9_nearest 68 = .ok (.goto (-64), 3) := dk_167_ (show cX9_nearest.data.toList[68]? = some 0xa7 from (LBX9_nearestr_4 4).trans (by decide +kernel)) (show cX9_nearest.data.toList[69]? = some 0xff from (LBX9_nearestr_4 5).trans (by decide +kernel)) (show cX9_nearest.data.toList[70]? = some 0xc0 from (LBX9_nearestr_4 6).trans (by decide +kernel)) (by decide)
theorem dX9_nearest_71 : decode cX9_nearest 71 = .ok (.iload_n 2, 1) := dk_28_ (show cX9_nearest.data.toList[71]? = some 0x1c from (LBX9_nearestr_4 7).trans (by decide +kernel))
theorem dX9_nearest_72 : decode cX9_nearest 72 = .ok (.ireturn, 1) := dk_172_ (show cX9_nearest.data.toList[72]? = some 0xac from (LBX9_nearestr_4 8).trans (by decide +kernel))
def LRX9_goes_5 : List UInt8 := []
def LBX9_goes_4 : List UInt8 := [0xa7, 0x00, 0x04, 0x1d, 0xac]
def LRX9_goes_4 : List UInt8 := LBX9_goes_4 ++ LRX9_goes_5
def LBX9_goes_3 : List UInt8 := [0x84, 0x04, 0x01, 0xa7, 0xff, 0xed, 0x1d, 0x9c, 0x00, 0x0c, 0x2a, 0x12, 0x60, 0xb6, 0x00, 0x46]
def LRX9_goes_3 : List UInt8 := LBX9_goes_3 ++ LRX9_goes_4
def LBX9_goes_2 : List UInt8 := [0x15, 0x04, 0x1c, 0xa2, 0x00, 0x13, 0x1d, 0x9b, 0x00, 0x0f, 0x2a, 0x1d, 0xb6, 0x00, 0xeb, 0x3e]
def LRX9_goes_2 : List UInt8 := LBX9_goes_2 ++ LRX9_goes_3
def LBX9_goes_1 : List UInt8 := [0x39, 0x9a, 0x00, 0x0a, 0x2a, 0x12, 0x38, 0xb6, 0x00, 0x46, 0xac, 0x1b, 0x3e, 0x03, 0x36, 0x04]
def LRX9_goes_1 : List UInt8 := LBX9_goes_1 ++ LRX9_goes_2
def LBX9_goes_0 : List UInt8 := [0x2a, 0x1b, 0xb6, 0x00, 0x3d, 0x99, 0x00, 0x0f, 0x1c, 0x85, 0x09, 0x14, 0x00, 0xe9, 0xb8, 0x00]
def LRX9_goes_0 : List UInt8 := LBX9_goes_0 ++ LRX9_goes_1
set_option maxRecDepth 100000 in
theorem LBX9_goes_eq : cX9_goes.data.toList = LRX9_goes_0 := by decide +kernel
theorem LBX9_goesr_0 (k : Nat) : cX9_goes.data.toList[0 + k]? = LRX9_goes_0[k]? := by rw [LBX9_goes_eq, Nat.zero_add]
theorem LBX9_goesr_1 (k : Nat) : cX9_goes.data.toList[16 + k]? = LRX9_goes_1[k]? := by
  have h := LBX9_goesr_0 (16 + k)
  rw [show 0 + (16 + k) = 16 + k by omega] at h
  rw [h]
  exact (List.getElem?_append_right (l₁ := LBX9_goes_0) (l₂ := LRX9_goes_1) (show 16 ≤ 16 + k by omega)).trans (congrArg (fun i => LRX9_goes_1[i]?) (show 16 + k - 16 = k by omega))
theorem LBX9_goesr_2 (k : Nat) : cX9_goes.data.toList[32 + k]? = LRX9_goes_2[k]? := by
  have h := LBX9_goesr_1 (16 + k)
  rw [show 16 + (16 + k) = 32 + k by omega] at h
  rw [h]
  exact (List.getElem?_append_right (l₁ := LBX9_goes_1) (l₂ := LRX9_goes_2) (show 16 ≤ 16 + k by omega)).trans (congrArg (fun i => LRX9_goes_2[i]?) (show 16 + k - 16 = k by omega))
theorem LBX9_goesr_3 (k : Nat) : cX9_goes.data.toList[48 + k]? = LRX9_goes_3[k]? := by
  have h := LBX9_goesr_2 (16 + k)
  rw [show 32 + (16 + k) = 48 + k by omega] at h
  rw [h]
  exact (List.getElem?_append_right (l₁ := LBX9_goes_2) (l₂ := LRX9_goes_3) (show 16 ≤ 16 + k by omega)).trans (congrArg (fun i => LRX9_goes_3[i]?) (show 16 + k - 16 = k by omega))
theorem LBX9_goesr_4 (k : Nat) : cX9_goes.data.toList[64 + k]? = LRX9_goes_4[k]? := by
  have h := LBX9_goesr_3 (16 + k)
  rw [show 48 + (16 + k) = 64 + k by omega] at h
  rw [h]
  exact (List.getElem?_append_right (l₁ := LBX9_goes_3) (l₂ := LRX9_goes_4) (show 16 ≤ 16 + k by omega)).trans (congrArg (fun i => LRX9_goes_4[i]?) (show 16 + k - 16 = k by omega))
theorem dX9_goes_0 : decode cX9_goes 0 = .ok (.aload_n 0, 1) := dk_42_ (show cX9_goes.data.toList[0]? = some 0x2a from (LBX9_goesr_0 0).trans (by decide +kernel))
theorem dX9_goes_1 : decode cX9_goes 1 = .ok (.iload_n 1, 1) := dk_27_ (show cX9_goes.data.toList[1]? = some 0x1b from (LBX9_goesr_0 1).trans (by decide +kernel))
theorem dX9_goes_2 : decode cX9_goes 2 = .ok (.invokevirtual 61, 3) := dk_182_ (show cX9_goes.data.toList[2]? = some 0xb6 from (LBX9_goesr_0 2).trans (by decide +kernel)) (show cX9_goes.data.toList[3]? = some 0x00 from (LBX9_goesr_0 3).trans (by decide +kernel)) (show cX9_goes.data.toList[4]? = some 0x3d from (LBX9_goesr_0 4).trans (by decide +kernel)) (by decide)
theorem dX9_goes_5 : decode cX9_goes 5 = .ok (.ifCond .eq 15, 3) := dk_153_ (show cX9_goes.data.toList[5]? = some 0x99 from (LBX9_goesr_0 5).trans (by decide +kernel)) (show cX9_goes.data.toList[6]? = some 0x00 from (LBX9_goesr_0 6).trans (by decide +kernel)) (show cX9_goes.data.toList[7]? = some 0x0f from (LBX9_goesr_0 7).trans (by decide +kernel)) (by decide)
theorem dX9_goes_8 : decode cX9_goes 8 = .ok (.iload_n 2, 1) := dk_28_ (show cX9_goes.data.toList[8]? = some 0x1c from (LBX9_goesr_0 8).trans (by decide +kernel))
theorem dX9_goes_9 : decode cX9_goes 9 = .ok (.i2l, 1) := dk_133_ (show cX9_goes.data.toList[9]? = some 0x85 from (LBX9_goesr_0 9).trans (by decide +kernel))
theorem dX9_goes_10 : decode cX9_goes 10 = .ok (.lconst 0, 1) := dk_9_ (show cX9_goes.data.toList[10]? = some 0x09 from (LBX9_goesr_0 10).trans (by decide +kernel))
theorem dX9_goes_11 : decode cX9_goes 11 = .ok (.ldc2_w 233, 3) := dk_20_ (show cX9_goes.data.toList[11]? = some 0x14 from (LBX9_goesr_0 11).trans (by decide +kernel)) (show cX9_goes.data.toList[12]? = some 0x00 from (LBX9_goesr_0 12).trans (by decide +kernel)) (show cX9_goes.data.toList[13]? = some 0xe9 from (LBX9_goesr_0 13).trans (by decide +kernel)) (by decide)
theorem dX9_goes_14 : decode cX9_goes 14 = .ok (.invokestatic 57, 3) := dk_184_ (show cX9_goes.data.toList[14]? = some 0xb8 from (LBX9_goesr_0 14).trans (by decide +kernel)) (show cX9_goes.data.toList[15]? = some 0x00 from (LBX9_goesr_0 15).trans (by decide +kernel)) (show cX9_goes.data.toList[16]? = some 0x39 from (LBX9_goesr_1 0).trans (by decide +kernel)) (by decide)
theorem dX9_goes_17 : decode cX9_goes 17 = .ok (.ifCond .ne 10, 3) := dk_154_ (show cX9_goes.data.toList[17]? = some 0x9a from (LBX9_goesr_1 1).trans (by decide +kernel)) (show cX9_goes.data.toList[18]? = some 0x00 from (LBX9_goesr_1 2).trans (by decide +kernel)) (show cX9_goes.data.toList[19]? = some 0x0a from (LBX9_goesr_1 3).trans (by decide +kernel)) (by decide)
theorem dX9_goes_20 : decode cX9_goes 20 = .ok (.aload_n 0, 1) := dk_42_ (show cX9_goes.data.toList[20]? = some 0x2a from (LBX9_goesr_1 4).trans (by decide +kernel))
theorem dX9_goes_21 : decode cX9_goes 21 = .ok (.ldc 56, 2) := dk_18_ (show cX9_goes.data.toList[21]? = some 0x12 from (LBX9_goesr_1 5).trans (by decide +kernel)) (show cX9_goes.data.toList[22]? = some 0x38 from (LBX9_goesr_1 6).trans (by decide +kernel)) (by decide)
theorem dX9_goes_23 : decode cX9_goes 23 = .ok (.invokevirtual 70, 3) := dk_182_ (show cX9_goes.data.toList[23]? = some 0xb6 from (LBX9_goesr_1 7).trans (by decide +kernel)) (show cX9_goes.data.toList[24]? = some 0x00 from (LBX9_goesr_1 8).trans (by decide +kernel)) (show cX9_goes.data.toList[25]? = some 0x46 from (LBX9_goesr_1 9).trans (by decide +kernel)) (by decide)
theorem dX9_goes_26 : decode cX9_goes 26 = .ok (.ireturn, 1) := dk_172_ (show cX9_goes.data.toList[26]? = some 0xac from (LBX9_goesr_1 10).trans (by decide +kernel))
theorem dX9_goes_27 : decode cX9_goes 27 = .ok (.iload_n 1, 1) := dk_27_ (show cX9_goes.data.toList[27]? = some 0x1b from (LBX9_goesr_1 11).trans (by decide +kernel))
theorem dX9_goes_28 : decode cX9_goes 28 = .ok (.istore_n 3, 1) := dk_62_ (show cX9_goes.data.toList[28]? = some 0x3e from (LBX9_goesr_1 12).trans (by decide +kernel))
theorem dX9_goes_29 : decode cX9_goes 29 = .ok (.iconst 0, 1) := dk_3_ (show cX9_goes.data.toList[29]? = some 0x03 from (LBX9_goesr_1 13).trans (by decide +kernel))
theorem dX9_goes_30 : decode cX9_goes 30 = .ok (.istore 4, 2) := dk_54_ (show cX9_goes.data.toList[30]? = some 0x36 from (LBX9_goesr_1 14).trans (by decide +kernel)) (show cX9_goes.data.toList[31]? = some 0x04 from (LBX9_goesr_1 15).trans (by decide +kernel)) (by decide)
theorem dX9_goes_32 : decode cX9_goes 32 = .ok (.iload 4, 2) := dk_21_ (show cX9_goes.data.toList[32]? = some 0x15 from (LBX9_goesr_2 0).trans (by decide +kernel)) (show cX9_goes.data.toList[33]? = some 0x04 from (LBX9_goesr_2 1).trans (by decide +kernel)) (by decide)
theorem dX9_goes_34 : decode cX9_goes 34 = .ok (.iload_n 2, 1) := dk_28_ (show cX9_goes.data.toList[34]? = some 0x1c from (LBX9_goesr_2 2).trans (by decide +kernel))
theorem dX9_goes_35 : decode cX9_goes 35 = .ok (.if_icmp .ge 19, 3) := dk_162_ (show cX9_goes.data.toList[35]? = some 0xa2 from (LBX9_goesr_2 3).trans (by decide +kernel)) (show cX9_goes.data.toList[36]? = some 0x00 from (LBX9_goesr_2 4).trans (by decide +kernel)) (show cX9_goes.data.toList[37]? = some 0x13 from (LBX9_goesr_2 5).trans (by decide +kernel)) (by decide)
theorem dX9_goes_38 : decode cX9_goes 38 = .ok (.iload_n 3, 1) := dk_29_ (show cX9_goes.data.toList[38]? = some 0x1d from (LBX9_goesr_2 6).trans (by decide +kernel))
theorem dX9_goes_39 : decode cX9_goes 39 = .ok (.ifCond .lt 15, 3) := dk_155_ (show cX9_goes.data.toList[39]? = some 0x9b from (LBX9_goesr_2 7).trans (by decide +kernel)) (show cX9_goes.data.toList[40]? = some 0x00 from (LBX9_goesr_2 8).trans (by decide +kernel)) (show cX9_goes.data.toList[41]? = some 0x0f from (LBX9_goesr_2 9).trans (by decide +kernel)) (by decide)
theorem dX9_goes_42 : decode cX9_goes 42 = .ok (.aload_n 0, 1) := dk_42_ (show cX9_goes.data.toList[42]? = some 0x2a from (LBX9_goesr_2 10).trans (by decide +kernel))
theorem dX9_goes_43 : decode cX9_goes 43 = .ok (.iload_n 3, 1) := dk_29_ (show cX9_goes.data.toList[43]? = some 0x1d from (LBX9_goesr_2 11).trans (by decide +kernel))
theorem dX9_goes_44 : decode cX9_goes 44 = .ok (.invokevirtual 235, 3) := dk_182_ (show cX9_goes.data.toList[44]? = some 0xb6 from (LBX9_goesr_2 12).trans (by decide +kernel)) (show cX9_goes.data.toList[45]? = some 0x00 from (LBX9_goesr_2 13).trans (by decide +kernel)) (show cX9_goes.data.toList[46]? = some 0xeb from (LBX9_goesr_2 14).trans (by decide +kernel)) (by decide)
theorem dX9_goes_47 : decode cX9_goes 47 = .ok (.istore_n 3, 1) := dk_62_ (show cX9_goes.data.toList[47]? = some 0x3e from (LBX9_goesr_2 15).trans (by decide +kernel))
theorem dX9_goes_48 : decode cX9_goes 48 = .ok (.iinc 4 1, 3) := dk_132_ (show cX9_goes.data.toList[48]? = some 0x84 from (LBX9_goesr_3 0).trans (by decide +kernel)) (show cX9_goes.data.toList[49]? = some 0x04 from (LBX9_goesr_3 1).trans (by decide +kernel)) (show cX9_goes.data.toList[50]? = some 0x01 from (LBX9_goesr_3 2).trans (by decide +kernel)) (by decide) (by decide)
theorem dX9_goes_51 : decode cX9_goes 51 = .ok (.goto (-19), 3) := dk_167_ (show cX9_goes.data.toList[51]? = some 0xa7 from (LBX9_goesr_3 3).trans (by decide +kernel)) (show cX9_goes.data.toList[52]? = some 0xff from (LBX9_goesr_3 4).trans (by decide +kernel)) (show cX9_goes.data.toList[53]? = some 0xed from (LBX9_goesr_3 5).trans (by decide +kernel)) (by decide)
theorem dX9_goes_54 : decode cX9_goes 54 = .ok (.iload_n 3, 1) := dk_29_ (show cX9_goes.data.toList[54]? = some 0x1d from (LBX9_goesr_3 6).trans (by decide +kernel))
theorem dX9_goes_55 : decode cX9_goes 55 = .ok (.ifCond .ge 12, 3) := dk_156_ (show cX9_goes.data.toList[55]? = some 0x9c from (LBX9_goesr_3 7).trans (by decide +kernel)) (show cX9_goes.data.toList[56]? = some 0x00 from (LBX9_goesr_3 8).trans (by decide +kernel)) (show cX9_goes.data.toList[57]? = some 0x0c from (LBX9_goesr_3 9).trans (by decide +kernel)) (by decide)
theorem dX9_goes_58 : decode cX9_goes 58 = .ok (.aload_n 0, 1) := dk_42_ (show cX9_goes.data.toList[58]? = some 0x2a from (LBX9_goesr_3 10).trans (by decide +kernel))
theorem dX9_goes_59 : decode cX9_goes 59 = .ok (.ldc 96, 2) := dk_18_ (show cX9_goes.data.toList[59]? = some 0x12 from (LBX9_goesr_3 11).trans (by decide +kernel)) (show cX9_goes.data.toList[60]? = some 0x60 from (LBX9_goesr_3 12).trans (by decide +kernel)) (by decide)
theorem dX9_goes_61 : decode cX9_goes 61 = .ok (.invokevirtual 70, 3) := dk_182_ (show cX9_goes.data.toList[61]? = some 0xb6 from (LBX9_goesr_3 13).trans (by decide +kernel)) (show cX9_goes.data.toList[62]? = some 0x00 from (LBX9_goesr_3 14).trans (by decide +kernel)) (show cX9_goes.data.toList[63]? = some 0x46 from (LBX9_goesr_3 15).trans (by decide +kernel)) (by decide)
theorem dX9_goes_64 : decode cX9_goes 64 = .ok (.goto 4, 3) := dk_167_ (show cX9_goes.data.toList[64]? = some 0xa7 from (LBX9_goesr_4 0).trans (by decide +kernel)) (show cX9_goes.data.toList[65]? = some 0x00 from (LBX9_goesr_4 1).trans (by decide +kernel)) (show cX9_goes.data.toList[66]? = some 0x04 from (LBX9_goesr_4 2).trans (by decide +kernel)) (by decide)
theorem dX9_goes_67 : decode cX9_goes 67 = .ok (.iload_n 3, 1) := dk_29_ (show cX9_goes.data.toList[67]? = some 0x1d from (LBX9_goesr_4 3).trans (by decide +kernel))
theorem dX9_goes_68 : decode cX9_goes 68 = .ok (.ireturn, 1) := dk_172_ (show cX9_goes.data.toList[68]? = some 0xac from (LBX9_goesr_4 4).trans (by decide +kernel))
def LRX9_hollow_8 : List UInt8 := []
def LBX9_hollow_7 : List UInt8 := [0x01, 0xa7, 0xff, 0xdc, 0xa7, 0xff, 0xd0, 0x1b, 0xac]
def LRX9_hollow_7 : List UInt8 := LBX9_hollow_7 ++ LRX9_hollow_8
def LBX9_hollow_6 : List UInt8 := [0x0d, 0x04, 0x2a, 0x1d, 0xb6, 0x00, 0xeb, 0x78, 0xa7, 0x00, 0x04, 0x03, 0x80, 0x3c, 0x84, 0x03]
def LRX9_hollow_6 : List UInt8 := LBX9_hollow_6 ++ LRX9_hollow_7
def LBX9_hollow_5 : List UInt8 := [0x00, 0x07, 0x03, 0x2e, 0xa2, 0x00, 0x20, 0x1b, 0x1b, 0x1d, 0x7a, 0x04, 0x7e, 0x04, 0xa0, 0x00]
def LRX9_hollow_5 : List UInt8 := LBX9_hollow_5 ++ LRX9_hollow_6
def LBX9_hollow_4 : List UInt8 := [0xff, 0xc5, 0x02, 0x3d, 0x1c, 0x1b, 0x9f, 0x00, 0x31, 0x1b, 0x3d, 0x03, 0x3e, 0x1d, 0x2a, 0xb4]
def LRX9_hollow_4 : List UInt8 := LBX9_hollow_4 ++ LRX9_hollow_5
def LBX9_hollow_3 : List UInt8 := [0x9c, 0x00, 0x07, 0x03, 0xa7, 0x00, 0x06, 0x04, 0x1d, 0x78, 0x80, 0x3c, 0x84, 0x02, 0x01, 0xa7]
def LRX9_hollow_3 : List UInt8 := LBX9_hollow_3 ++ LRX9_hollow_4
def LBX9_hollow_2 : List UInt8 := [0x00, 0x0f, 0x2a, 0x1d, 0xb6, 0x00, 0xeb, 0x3e, 0x84, 0x04, 0x01, 0xa7, 0xff, 0xe8, 0x1b, 0x1d]
def LRX9_hollow_2 : List UInt8 := LBX9_hollow_2 ++ LRX9_hollow_3
def LBX9_hollow_1 : List UInt8 := [0x03, 0x36, 0x04, 0x15, 0x04, 0x2a, 0xb4, 0x00, 0x07, 0x03, 0x2e, 0xa2, 0x00, 0x13, 0x1d, 0x9b]
def LRX9_hollow_1 : List UInt8 := LBX9_hollow_1 ++ LRX9_hollow_2
def LBX9_hollow_0 : List UInt8 := [0x03, 0x3c, 0x03, 0x3d, 0x1c, 0x2a, 0xb4, 0x00, 0x07, 0x03, 0x2e, 0xa2, 0x00, 0x37, 0x1c, 0x3e]
def LRX9_hollow_0 : List UInt8 := LBX9_hollow_0 ++ LRX9_hollow_1
set_option maxRecDepth 100000 in
theorem LBX9_hollow_eq : cX9_hollow.data.toList = LRX9_hollow_0 := by decide +kernel
theorem LBX9_hollowr_0 (k : Nat) : cX9_hollow.data.toList[0 + k]? = LRX9_hollow_0[k]? := by rw [LBX9_hollow_eq, Nat.zero_add]
theorem LBX9_hollowr_1 (k : Nat) : cX9_hollow.data.toList[16 + k]? = LRX9_hollow_1[k]? := by
  have h := LBX9_hollowr_0 (16 + k)
  rw [show 0 + (16 + k) = 16 + k by omega] at h
  rw [h]
  exact (List.getElem?_append_right (l₁ := LBX9_hollow_0) (l₂ := LRX9_hollow_1) (show 16 ≤ 16 + k by omega)).trans (congrArg (fun i => LRX9_hollow_1[i]?) (show 16 + k - 16 = k by omega))
theorem LBX9_hollowr_2 (k : Nat) : cX9_hollow.data.toList[32 + k]? = LRX9_hollow_2[k]? := by
  have h := LBX9_hollowr_1 (16 + k)
  rw [show 16 + (16 + k) = 32 + k by omega] at h
  rw [h]
  exact (List.getElem?_append_right (l₁ := LBX9_hollow_1) (l₂ := LRX9_hollow_2) (show 16 ≤ 16 + k by omega)).trans (congrArg (fun i => LRX9_hollow_2[i]?) (show 16 + k - 16 = k by omega))
theorem LBX9_hollowr_3 (k : Nat) : cX9_hollow.data.toList[48 + k]? = LRX9_hollow_3[k]? := by
  have h := LBX9_hollowr_2 (16 + k)
  rw [show 32 + (16 + k) = 48 + k by omega] at h
  rw [h]
  exact (List.getElem?_append_right (l₁ := LBX9_hollow_2) (l₂ := LRX9_hollow_3) (show 16 ≤ 16 + k by omega)).trans (congrArg (fun i => LRX9_hollow_3[i]?) (show 16 + k - 16 = k by omega))
theorem LBX9_hollowr_4 (k : Nat) : cX9_hollow.data.toList[64 + k]? = LRX9_hollow_4[k]? := by
  have h := LBX9_hollowr_3 (16 + k)
  rw [show 48 + (16 + k) = 64 + k by omega] at h
  rw [h]
  exact (List.getElem?_append_right (l₁ := LBX9_hollow_3) (l₂ := LRX9_hollow_4) (show 16 ≤ 16 + k by omega)).trans (congrArg (fun i => LRX9_hollow_4[i]?) (show 16 + k - 16 = k by omega))
theorem LBX9_hollowr_5 (k : Nat) : cX9_hollow.data.toList[80 + k]? = LRX9_hollow_5[k]? := by
  have h := LBX9_hollowr_4 (16 + k)
  rw [show 64 + (16 + k) = 80 + k by omega] at h
  rw [h]
  exact (List.getElem?_append_right (l₁ := LBX9_hollow_4) (l₂ := LRX9_hollow_5) (show 16 ≤ 16 + k by omega)).trans (congrArg (fun i => LRX9_hollow_5[i]?) (show 16 + k - 16 = k by omega))
theorem LBX9_hollowr_6 (k : Nat) : cX9_hollow.data.toList[96 + k]? = LRX9_hollow_6[k]? := by
  have h := LBX9_hollowr_5 (16 + k)
  rw [show 80 + (16 + k) = 96 + k by omega] at h
  rw [h]
  exact (List.getElem?_append_right (l₁ := LBX9_hollow_5) (l₂ := LRX9_hollow_6) (show 16 ≤ 16 + k by omega)).trans (congrArg (fun i => LRX9_hollow_6[i]?) (show 16 + k - 16 = k by omega))
theorem LBX9_hollowr_7 (k : Nat) : cX9_hollow.data.toList[112 + k]? = LRX9_hollow_7[k]? := by
  have h := LBX9_hollowr_6 (16 + k)
  rw [show 96 + (16 + k) = 112 + k by omega] at h
  rw [h]
  exact (List.getElem?_append_right (l₁ := LBX9_hollow_6) (l₂ := LRX9_hollow_7) (show 16 ≤ 16 + k by omega)).trans (congrArg (fun i => LRX9_hollow_7[i]?) (show 16 + k - 16 = k by omega))
theorem dX9_hollow_0 : decode cX9_hollow 0 = .ok (.iconst 0, 1) := dk_3_ (show cX9_hollow.data.toList[0]? = some 0x03 from (LBX9_hollowr_0 0).trans (by decide +kernel))
theorem dX9_hollow_1 : decode cX9_hollow 1 = .ok (.istore_n 1, 1) := dk_60_ (show cX9_hollow.data.toList[1]? = some 0x3c from (LBX9_hollowr_0 1).trans (by decide +kernel))
theorem dX9_hollow_2 : decode cX9_hollow 2 = .ok (.iconst 0, 1) := dk_3_ (show cX9_hollow.data.toList[2]? = some 0x03 from (LBX9_hollowr_0 2).trans (by decide +kernel))
theorem dX9_hollow_3 : decode cX9_hollow 3 = .ok (.istore_n 2, 1) := dk_61_ (show cX9_hollow.data.toList[3]? = some 0x3d from (LBX9_hollowr_0 3).trans (by decide +kernel))
theorem dX9_hollow_4 : decode cX9_hollow 4 = .ok (.iload_n 2, 1) := dk_28_ (show cX9_hollow.data.toList[4]? = some 0x1c from (LBX9_hollowr_0 4).trans (by decide +kernel))
theorem dX9_hollow_5 : decode cX9_hollow 5 = .ok (.aload_n 0, 1) := dk_42_ (show cX9_hollow.data.toList[5]? = some 0x2a from (LBX9_hollowr_0 5).trans (by decide +kernel))
theorem dX9_hollow_6 : decode cX9_hollow 6 = .ok (.getfield 7, 3) := dk_180_ (show cX9_hollow.data.toList[6]? = some 0xb4 from (LBX9_hollowr_0 6).trans (by decide +kernel)) (show cX9_hollow.data.toList[7]? = some 0x00 from (LBX9_hollowr_0 7).trans (by decide +kernel)) (show cX9_hollow.data.toList[8]? = some 0x07 from (LBX9_hollowr_0 8).trans (by decide +kernel)) (by decide)
theorem dX9_hollow_9 : decode cX9_hollow 9 = .ok (.iconst 0, 1) := dk_3_ (show cX9_hollow.data.toList[9]? = some 0x03 from (LBX9_hollowr_0 9).trans (by decide +kernel))
theorem dX9_hollow_10 : decode cX9_hollow 10 = .ok (.iaload, 1) := dk_46_ (show cX9_hollow.data.toList[10]? = some 0x2e from (LBX9_hollowr_0 10).trans (by decide +kernel))
theorem dX9_hollow_11 : decode cX9_hollow 11 = .ok (.if_icmp .ge 55, 3) := dk_162_ (show cX9_hollow.data.toList[11]? = some 0xa2 from (LBX9_hollowr_0 11).trans (by decide +kernel)) (show cX9_hollow.data.toList[12]? = some 0x00 from (LBX9_hollowr_0 12).trans (by decide +kernel)) (show cX9_hollow.data.toList[13]? = some 0x37 from (LBX9_hollowr_0 13).trans (by decide +kernel)) (by decide)
theorem dX9_hollow_14 : decode cX9_hollow 14 = .ok (.iload_n 2, 1) := dk_28_ (show cX9_hollow.data.toList[14]? = some 0x1c from (LBX9_hollowr_0 14).trans (by decide +kernel))
theorem dX9_hollow_15 : decode cX9_hollow 15 = .ok (.istore_n 3, 1) := dk_62_ (show cX9_hollow.data.toList[15]? = some 0x3e from (LBX9_hollowr_0 15).trans (by decide +kernel))
theorem dX9_hollow_16 : decode cX9_hollow 16 = .ok (.iconst 0, 1) := dk_3_ (show cX9_hollow.data.toList[16]? = some 0x03 from (LBX9_hollowr_1 0).trans (by decide +kernel))
theorem dX9_hollow_17 : decode cX9_hollow 17 = .ok (.istore 4, 2) := dk_54_ (show cX9_hollow.data.toList[17]? = some 0x36 from (LBX9_hollowr_1 1).trans (by decide +kernel)) (show cX9_hollow.data.toList[18]? = some 0x04 from (LBX9_hollowr_1 2).trans (by decide +kernel)) (by decide)
theorem dX9_hollow_19 : decode cX9_hollow 19 = .ok (.iload 4, 2) := dk_21_ (show cX9_hollow.data.toList[19]? = some 0x15 from (LBX9_hollowr_1 3).trans (by decide +kernel)) (show cX9_hollow.data.toList[20]? = some 0x04 from (LBX9_hollowr_1 4).trans (by decide +kernel)) (by decide)
theorem dX9_hollow_21 : decode cX9_hollow 21 = .ok (.aload_n 0, 1) := dk_42_ (show cX9_hollow.data.toList[21]? = some 0x2a from (LBX9_hollowr_1 5).trans (by decide +kernel))
theorem dX9_hollow_22 : decode cX9_hollow 22 = .ok (.getfield 7, 3) := dk_180_ (show cX9_hollow.data.toList[22]? = some 0xb4 from (LBX9_hollowr_1 6).trans (by decide +kernel)) (show cX9_hollow.data.toList[23]? = some 0x00 from (LBX9_hollowr_1 7).trans (by decide +kernel)) (show cX9_hollow.data.toList[24]? = some 0x07 from (LBX9_hollowr_1 8).trans (by decide +kernel)) (by decide)
theorem dX9_hollow_25 : decode cX9_hollow 25 = .ok (.iconst 0, 1) := dk_3_ (show cX9_hollow.data.toList[25]? = some 0x03 from (LBX9_hollowr_1 9).trans (by decide +kernel))
theorem dX9_hollow_26 : decode cX9_hollow 26 = .ok (.iaload, 1) := dk_46_ (show cX9_hollow.data.toList[26]? = some 0x2e from (LBX9_hollowr_1 10).trans (by decide +kernel))
theorem dX9_hollow_27 : decode cX9_hollow 27 = .ok (.if_icmp .ge 19, 3) := dk_162_ (show cX9_hollow.data.toList[27]? = some 0xa2 from (LBX9_hollowr_1 11).trans (by decide +kernel)) (show cX9_hollow.data.toList[28]? = some 0x00 from (LBX9_hollowr_1 12).trans (by decide +kernel)) (show cX9_hollow.data.toList[29]? = some 0x13 from (LBX9_hollowr_1 13).trans (by decide +kernel)) (by decide)
theorem dX9_hollow_30 : decode cX9_hollow 30 = .ok (.iload_n 3, 1) := dk_29_ (show cX9_hollow.data.toList[30]? = some 0x1d from (LBX9_hollowr_1 14).trans (by decide +kernel))
theorem dX9_hollow_31 : decode cX9_hollow 31 = .ok (.ifCond .lt 15, 3) := dk_155_ (show cX9_hollow.data.toList[31]? = some 0x9b from (LBX9_hollowr_1 15).trans (by decide +kernel)) (show cX9_hollow.data.toList[32]? = some 0x00 from (LBX9_hollowr_2 0).trans (by decide +kernel)) (show cX9_hollow.data.toList[33]? = some 0x0f from (LBX9_hollowr_2 1).trans (by decide +kernel)) (by decide)
theorem dX9_hollow_34 : decode cX9_hollow 34 = .ok (.aload_n 0, 1) := dk_42_ (show cX9_hollow.data.toList[34]? = some 0x2a from (LBX9_hollowr_2 2).trans (by decide +kernel))
theorem dX9_hollow_35 : decode cX9_hollow 35 = .ok (.iload_n 3, 1) := dk_29_ (show cX9_hollow.data.toList[35]? = some 0x1d from (LBX9_hollowr_2 3).trans (by decide +kernel))
theorem dX9_hollow_36 : decode cX9_hollow 36 = .ok (.invokevirtual 235, 3) := dk_182_ (show cX9_hollow.data.toList[36]? = some 0xb6 from (LBX9_hollowr_2 4).trans (by decide +kernel)) (show cX9_hollow.data.toList[37]? = some 0x00 from (LBX9_hollowr_2 5).trans (by decide +kernel)) (show cX9_hollow.data.toList[38]? = some 0xeb from (LBX9_hollowr_2 6).trans (by decide +kernel)) (by decide)
theorem dX9_hollow_39 : decode cX9_hollow 39 = .ok (.istore_n 3, 1) := dk_62_ (show cX9_hollow.data.toList[39]? = some 0x3e from (LBX9_hollowr_2 7).trans (by decide +kernel))
theorem dX9_hollow_40 : decode cX9_hollow 40 = .ok (.iinc 4 1, 3) := dk_132_ (show cX9_hollow.data.toList[40]? = some 0x84 from (LBX9_hollowr_2 8).trans (by decide +kernel)) (show cX9_hollow.data.toList[41]? = some 0x04 from (LBX9_hollowr_2 9).trans (by decide +kernel)) (show cX9_hollow.data.toList[42]? = some 0x01 from (LBX9_hollowr_2 10).trans (by decide +kernel)) (by decide) (by decide)
theorem dX9_hollow_43 : decode cX9_hollow 43 = .ok (.goto (-24), 3) := dk_167_ (show cX9_hollow.data.toList[43]? = some 0xa7 from (LBX9_hollowr_2 11).trans (by decide +kernel)) (show cX9_hollow.data.toList[44]? = some 0xff from (LBX9_hollowr_2 12).trans (by decide +kernel)) (show cX9_hollow.data.toList[45]? = some 0xe8 from (LBX9_hollowr_2 13).trans (by decide +kernel)) (by decide)
theorem dX9_hollow_46 : decode cX9_hollow 46 = .ok (.iload_n 1, 1) := dk_27_ (show cX9_hollow.data.toList[46]? = some 0x1b from (LBX9_hollowr_2 14).trans (by decide +kernel))
theorem dX9_hollow_47 : decode cX9_hollow 47 = .ok (.iload_n 3, 1) := dk_29_ (show cX9_hollow.data.toList[47]? = some 0x1d from (LBX9_hollowr_2 15).trans (by decide +kernel))
theorem dX9_hollow_48 : decode cX9_hollow 48 = .ok (.ifCond .ge 7, 3) := dk_156_ (show cX9_hollow.data.toList[48]? = some 0x9c from (LBX9_hollowr_3 0).trans (by decide +kernel)) (show cX9_hollow.data.toList[49]? = some 0x00 from (LBX9_hollowr_3 1).trans (by decide +kernel)) (show cX9_hollow.data.toList[50]? = some 0x07 from (LBX9_hollowr_3 2).trans (by decide +kernel)) (by decide)
theorem dX9_hollow_51 : decode cX9_hollow 51 = .ok (.iconst 0, 1) := dk_3_ (show cX9_hollow.data.toList[51]? = some 0x03 from (LBX9_hollowr_3 3).trans (by decide +kernel))
theorem dX9_hollow_52 : decode cX9_hollow 52 = .ok (.goto 6, 3) := dk_167_ (show cX9_hollow.data.toList[52]? = some 0xa7 from (LBX9_hollowr_3 4).trans (by decide +kernel)) (show cX9_hollow.data.toList[53]? = some 0x00 from (LBX9_hollowr_3 5).trans (by decide +kernel)) (show cX9_hollow.data.toList[54]? = some 0x06 from (LBX9_hollowr_3 6).trans (by decide +kernel)) (by decide)
theorem dX9_hollow_55 : decode cX9_hollow 55 = .ok (.iconst 1, 1) := dk_4_ (show cX9_hollow.data.toList[55]? = some 0x04 from (LBX9_hollowr_3 7).trans (by decide +kernel))
theorem dX9_hollow_56 : decode cX9_hollow 56 = .ok (.iload_n 3, 1) := dk_29_ (show cX9_hollow.data.toList[56]? = some 0x1d from (LBX9_hollowr_3 8).trans (by decide +kernel))
theorem dX9_hollow_57 : decode cX9_hollow 57 = .ok (.ishl, 1) := dk_120_ (show cX9_hollow.data.toList[57]? = some 0x78 from (LBX9_hollowr_3 9).trans (by decide +kernel))
theorem dX9_hollow_58 : decode cX9_hollow 58 = .ok (.ior, 1) := dk_128_ (show cX9_hollow.data.toList[58]? = some 0x80 from (LBX9_hollowr_3 10).trans (by decide +kernel))
theorem dX9_hollow_59 : decode cX9_hollow 59 = .ok (.istore_n 1, 1) := dk_60_ (show cX9_hollow.data.toList[59]? = some 0x3c from (LBX9_hollowr_3 11).trans (by decide +kernel))
theorem dX9_hollow_60 : decode cX9_hollow 60 = .ok (.iinc 2 1, 3) := dk_132_ (show cX9_hollow.data.toList[60]? = some 0x84 from (LBX9_hollowr_3 12).trans (by decide +kernel)) (show cX9_hollow.data.toList[61]? = some 0x02 from (LBX9_hollowr_3 13).trans (by decide +kernel)) (show cX9_hollow.data.toList[62]? = some 0x01 from (LBX9_hollowr_3 14).trans (by decide +kernel)) (by decide) (by decide)
theorem dX9_hollow_63 : decode cX9_hollow 63 = .ok (.goto (-59), 3) := dk_167_ (show cX9_hollow.data.toList[63]? = some 0xa7 from (LBX9_hollowr_3 15).trans (by decide +kernel)) (show cX9_hollow.data.toList[64]? = some 0xff from (LBX9_hollowr_4 0).trans (by decide +kernel)) (show cX9_hollow.data.toList[65]? = some 0xc5 from (LBX9_hollowr_4 1).trans (by decide +kernel)) (by decide)
theorem dX9_hollow_66 : decode cX9_hollow 66 = .ok (.iconst (-1), 1) := dk_2_ (show cX9_hollow.data.toList[66]? = some 0x02 from (LBX9_hollowr_4 2).trans (by decide +kernel))
theorem dX9_hollow_67 : decode cX9_hollow 67 = .ok (.istore_n 2, 1) := dk_61_ (show cX9_hollow.data.toList[67]? = some 0x3d from (LBX9_hollowr_4 3).trans (by decide +kernel))
theorem dX9_hollow_68 : decode cX9_hollow 68 = .ok (.iload_n 2, 1) := dk_28_ (show cX9_hollow.data.toList[68]? = some 0x1c from (LBX9_hollowr_4 4).trans (by decide +kernel))
theorem dX9_hollow_69 : decode cX9_hollow 69 = .ok (.iload_n 1, 1) := dk_27_ (show cX9_hollow.data.toList[69]? = some 0x1b from (LBX9_hollowr_4 5).trans (by decide +kernel))
theorem dX9_hollow_70 : decode cX9_hollow 70 = .ok (.if_icmp .eq 49, 3) := dk_159_ (show cX9_hollow.data.toList[70]? = some 0x9f from (LBX9_hollowr_4 6).trans (by decide +kernel)) (show cX9_hollow.data.toList[71]? = some 0x00 from (LBX9_hollowr_4 7).trans (by decide +kernel)) (show cX9_hollow.data.toList[72]? = some 0x31 from (LBX9_hollowr_4 8).trans (by decide +kernel)) (by decide)
theorem dX9_hollow_73 : decode cX9_hollow 73 = .ok (.iload_n 1, 1) := dk_27_ (show cX9_hollow.data.toList[73]? = some 0x1b from (LBX9_hollowr_4 9).trans (by decide +kernel))
theorem dX9_hollow_74 : decode cX9_hollow 74 = .ok (.istore_n 2, 1) := dk_61_ (show cX9_hollow.data.toList[74]? = some 0x3d from (LBX9_hollowr_4 10).trans (by decide +kernel))
theorem dX9_hollow_75 : decode cX9_hollow 75 = .ok (.iconst 0, 1) := dk_3_ (show cX9_hollow.data.toList[75]? = some 0x03 from (LBX9_hollowr_4 11).trans (by decide +kernel))
theorem dX9_hollow_76 : decode cX9_hollow 76 = .ok (.istore_n 3, 1) := dk_62_ (show cX9_hollow.data.toList[76]? = some 0x3e from (LBX9_hollowr_4 12).trans (by decide +kernel))
theorem dX9_hollow_77 : decode cX9_hollow 77 = .ok (.iload_n 3, 1) := dk_29_ (show cX9_hollow.data.toList[77]? = some 0x1d from (LBX9_hollowr_4 13).trans (by decide +kernel))
theorem dX9_hollow_78 : decode cX9_hollow 78 = .ok (.aload_n 0, 1) := dk_42_ (show cX9_hollow.data.toList[78]? = some 0x2a from (LBX9_hollowr_4 14).trans (by decide +kernel))
theorem dX9_hollow_79 : decode cX9_hollow 79 = .ok (.getfield 7, 3) := dk_180_ (show cX9_hollow.data.toList[79]? = some 0xb4 from (LBX9_hollowr_4 15).trans (by decide +kernel)) (show cX9_hollow.data.toList[80]? = some 0x00 from (LBX9_hollowr_5 0).trans (by decide +kernel)) (show cX9_hollow.data.toList[81]? = some 0x07 from (LBX9_hollowr_5 1).trans (by decide +kernel)) (by decide)
theorem dX9_hollow_82 : decode cX9_hollow 82 = .ok (.iconst 0, 1) := dk_3_ (show cX9_hollow.data.toList[82]? = some 0x03 from (LBX9_hollowr_5 2).trans (by decide +kernel))
theorem dX9_hollow_83 : decode cX9_hollow 83 = .ok (.iaload, 1) := dk_46_ (show cX9_hollow.data.toList[83]? = some 0x2e from (LBX9_hollowr_5 3).trans (by decide +kernel))
theorem dX9_hollow_84 : decode cX9_hollow 84 = .ok (.if_icmp .ge 32, 3) := dk_162_ (show cX9_hollow.data.toList[84]? = some 0xa2 from (LBX9_hollowr_5 4).trans (by decide +kernel)) (show cX9_hollow.data.toList[85]? = some 0x00 from (LBX9_hollowr_5 5).trans (by decide +kernel)) (show cX9_hollow.data.toList[86]? = some 0x20 from (LBX9_hollowr_5 6).trans (by decide +kernel)) (by decide)
theorem dX9_hollow_87 : decode cX9_hollow 87 = .ok (.iload_n 1, 1) := dk_27_ (show cX9_hollow.data.toList[87]? = some 0x1b from (LBX9_hollowr_5 7).trans (by decide +kernel))
theorem dX9_hollow_88 : decode cX9_hollow 88 = .ok (.iload_n 1, 1) := dk_27_ (show cX9_hollow.data.toList[88]? = some 0x1b from (LBX9_hollowr_5 8).trans (by decide +kernel))
theorem dX9_hollow_89 : decode cX9_hollow 89 = .ok (.iload_n 3, 1) := dk_29_ (show cX9_hollow.data.toList[89]? = some 0x1d from (LBX9_hollowr_5 9).trans (by decide +kernel))
theorem dX9_hollow_90 : decode cX9_hollow 90 = .ok (.ishr, 1) := dk_122_ (show cX9_hollow.data.toList[90]? = some 0x7a from (LBX9_hollowr_5 10).trans (by decide +kernel))
theorem dX9_hollow_91 : decode cX9_hollow 91 = .ok (.iconst 1, 1) := dk_4_ (show cX9_hollow.data.toList[91]? = some 0x04 from (LBX9_hollowr_5 11).trans (by decide +kernel))
theorem dX9_hollow_92 : decode cX9_hollow 92 = .ok (.iand, 1) := dk_126_ (show cX9_hollow.data.toList[92]? = some 0x7e from (LBX9_hollowr_5 12).trans (by decide +kernel))
theorem dX9_hollow_93 : decode cX9_hollow 93 = .ok (.iconst 1, 1) := dk_4_ (show cX9_hollow.data.toList[93]? = some 0x04 from (LBX9_hollowr_5 13).trans (by decide +kernel))
theorem dX9_hollow_94 : decode cX9_hollow 94 = .ok (.if_icmp .ne 13, 3) := dk_160_ (show cX9_hollow.data.toList[94]? = some 0xa0 from (LBX9_hollowr_5 14).trans (by decide +kernel)) (show cX9_hollow.data.toList[95]? = some 0x00 from (LBX9_hollowr_5 15).trans (by decide +kernel)) (show cX9_hollow.data.toList[96]? = some 0x0d from (LBX9_hollowr_6 0).trans (by decide +kernel)) (by decide)
theorem dX9_hollow_97 : decode cX9_hollow 97 = .ok (.iconst 1, 1) := dk_4_ (show cX9_hollow.data.toList[97]? = some 0x04 from (LBX9_hollowr_6 1).trans (by decide +kernel))
theorem dX9_hollow_98 : decode cX9_hollow 98 = .ok (.aload_n 0, 1) := dk_42_ (show cX9_hollow.data.toList[98]? = some 0x2a from (LBX9_hollowr_6 2).trans (by decide +kernel))
theorem dX9_hollow_99 : decode cX9_hollow 99 = .ok (.iload_n 3, 1) := dk_29_ (show cX9_hollow.data.toList[99]? = some 0x1d from (LBX9_hollowr_6 3).trans (by decide +kernel))
theorem dX9_hollow_100 : decode cX9_hollow 100 = .ok (.invokevirtual 235, 3) := dk_182_ (show cX9_hollow.data.toList[100]? = some 0xb6 from (LBX9_hollowr_6 4).trans (by decide +kernel)) (show cX9_hollow.data.toList[101]? = some 0x00 from (LBX9_hollowr_6 5).trans (by decide +kernel)) (show cX9_hollow.data.toList[102]? = some 0xeb from (LBX9_hollowr_6 6).trans (by decide +kernel)) (by decide)
theorem dX9_hollow_103 : decode cX9_hollow 103 = .ok (.ishl, 1) := dk_120_ (show cX9_hollow.data.toList[103]? = some 0x78 from (LBX9_hollowr_6 7).trans (by decide +kernel))
theorem dX9_hollow_104 : decode cX9_hollow 104 = .ok (.goto 4, 3) := dk_167_ (show cX9_hollow.data.toList[104]? = some 0xa7 from (LBX9_hollowr_6 8).trans (by decide +kernel)) (show cX9_hollow.data.toList[105]? = some 0x00 from (LBX9_hollowr_6 9).trans (by decide +kernel)) (show cX9_hollow.data.toList[106]? = some 0x04 from (LBX9_hollowr_6 10).trans (by decide +kernel)) (by decide)
theorem dX9_hollow_107 : decode cX9_hollow 107 = .ok (.iconst 0, 1) := dk_3_ (show cX9_hollow.data.toList[107]? = some 0x03 from (LBX9_hollowr_6 11).trans (by decide +kernel))
theorem dX9_hollow_108 : decode cX9_hollow 108 = .ok (.ior, 1) := dk_128_ (show cX9_hollow.data.toList[108]? = some 0x80 from (LBX9_hollowr_6 12).trans (by decide +kernel))
theorem dX9_hollow_109 : decode cX9_hollow 109 = .ok (.istore_n 1, 1) := dk_60_ (show cX9_hollow.data.toList[109]? = some 0x3c from (LBX9_hollowr_6 13).trans (by decide +kernel))
theorem dX9_hollow_110 : decode cX9_hollow 110 = .ok (.iinc 3 1, 3) := dk_132_ (show cX9_hollow.data.toList[110]? = some 0x84 from (LBX9_hollowr_6 14).trans (by decide +kernel)) (show cX9_hollow.data.toList[111]? = some 0x03 from (LBX9_hollowr_6 15).trans (by decide +kernel)) (show cX9_hollow.data.toList[112]? = some 0x01 from (LBX9_hollowr_7 0).trans (by decide +kernel)) (by decide) (by decide)
theorem dX9_hollow_113 : decode cX9_hollow 113 = .ok (.goto (-36), 3) := dk_167_ (show cX9_hollow.data.toList[113]? = some 0xa7 from (LBX9_hollowr_7 1).trans (by decide +kernel)) (show cX9_hollow.data.toList[114]? = some 0xff from (LBX9_hollowr_7 2).trans (by decide +kernel)) (show cX9_hollow.data.toList[115]? = some 0xdc from (LBX9_hollowr_7 3).trans (by decide +kernel)) (by decide)
theorem dX9_hollow_116 : decode cX9_hollow 116 = .ok (.goto (-48), 3) := dk_167_ (show cX9_hollow.data.toList[116]? = some 0xa7 from (LBX9_hollowr_7 4).trans (by decide +kernel)) (show cX9_hollow.data.toList[117]? = some 0xff from (LBX9_hollowr_7 5).trans (by decide +kernel)) (show cX9_hollow.data.toList[118]? = some 0xd0 from (LBX9_hollowr_7 6).trans (by decide +kernel)) (by decide)
theorem dX9_hollow_119 : decode cX9_hollow 119 = .ok (.iload_n 1, 1) := dk_27_ (show cX9_hollow.data.toList[119]? = some 0x1b from (LBX9_hollowr_7 7).trans (by decide +kernel))
theorem dX9_hollow_120 : decode cX9_hollow 120 = .ok (.ireturn, 1) := dk_172_ (show cX9_hollow.data.toList[120]? = some 0xac from (LBX9_hollowr_7 8).trans (by decide +kernel))
theorem uw832 : Cond.methodLink RX9 226 yX9_tripOfHome ∈ wsU := ut6 (List.mem_of_getElem? (i := 84) rfl) rfl
theorem uw833 : Cond.instanceMethod yX9_tripOfHome ∈ wsU := ut6 (List.mem_of_getElem? (i := 86) rfl) rfl
theorem uw834 : Cond.selects RX9 yX9_tripOfHome yX9_tripOfHome ∈ wsU := us_sel (q := (yX9_tripOfHome, 27)) (List.mem_of_getElem? (i := 63) (by decide +kernel)) rfl
theorem uw835 : Cond.code yX9_tripOfHome cX9_tripOfHome 2 (some .int) ∈ wsU := ut6 (List.mem_of_getElem? (i := 87) rfl) rfl
theorem uw836 : Cond.methodLink RX9 229 yX9_saving ∈ wsU := ut6 (List.mem_of_getElem? (i := 88) rfl) rfl
theorem uw837 : Cond.instanceMethod yX9_saving ∈ wsU := ut6 (List.mem_of_getElem? (i := 90) rfl) rfl
theorem uw838 : Cond.selects RX9 yX9_saving yX9_saving ∈ wsU := us_sel (q := (yX9_saving, 27)) (List.mem_of_getElem? (i := 64) (by decide +kernel)) rfl
theorem uw839 : Cond.code yX9_saving cX9_saving 8 (some .int) ∈ wsU := ut6 (List.mem_of_getElem? (i := 91) rfl) rfl
theorem uw840 : Cond.constantLong RX9 233 1000 ∈ wsU := ut6 (List.mem_of_getElem? (i := 100) rfl) rfl
theorem uw841 : Cond.methodLink RX9 235 yX9_nearest ∈ wsU := ut6 (List.mem_of_getElem? (i := 101) rfl) rfl
theorem uw842 : Cond.instanceMethod yX9_nearest ∈ wsU := ut6 (List.mem_of_getElem? (i := 103) rfl) rfl
theorem uw843 : Cond.selects RX9 yX9_nearest yX9_nearest ∈ wsU := us_sel (q := (yX9_nearest, 27)) (List.mem_of_getElem? (i := 65) (by decide +kernel)) rfl
theorem uw844 : Cond.code yX9_nearest cX9_nearest 5 (some .int) ∈ wsU := ut6 (List.mem_of_getElem? (i := 104) rfl) rfl
theorem kv_X9_226 : xWV RX9 226 RX9 yX9_tripOfHome cX9_tripOfHome 2 (some .int) 0 := ⟨⟨uw832, uw833, uw834, uw657, uw835⟩, by decide +kernel⟩
theorem kv_X9_229 : xWV RX9 229 RX9 yX9_saving cX9_saving 8 (some .int) 3 := ⟨⟨uw836, uw837, uw838, uw657, uw839⟩, by decide +kernel⟩
theorem kv_X9_235 : xWV RX9 235 RX9 yX9_nearest cX9_nearest 5 (some .int) 1 := ⟨⟨uw841, uw842, uw843, uw657, uw844⟩, by decide +kernel⟩
set_option maxHeartbeats 4000000 in
set_option maxRecDepth 100000 in
theorem c_X9_tripOfHome (l : Launch) (D : va_G) (cI cJ cZ cS : ClassId) (ta : Nat) (sa sv : Nat → Nat) (sz : Nat) (h0 : Nat) (ys : Nat) (yk : Nat) (yo : Nat) (yt : Nat) (mk0 : Int32) (yfa : Nat) (yfe : Nat) (mL : Int32) (mS : Int32) (mM : Int32) (yro : Nat) (yhe : Nat) (ygr : Nat) (mF : Int32) (mC : Int32) (mY : Int32) (yta : Nat) (mz : Nat) (mf : Nat) (mt : Nat) (mv : Int32) (mw : Int32) (ywa : Nat) (ybi : Nat) (ysi : Nat) (ynu : Nat) (ymo : Nat) (ms : Nat → Int32) (fa : Nat → Int32) (P : Nat) (Rn : Nat) (Wn : Nat) (fae : Nat → Int32) (fal : Nat → Int32) (fau : Nat → Int32) (fao : Nat → Int32) (farn : Nat → Int32) (farp : Nat → Int32) (fak : Nat → Int32) (fawn : Nat → Int32) (fawp : Nat → Int32) (fat : Nat → Int32) (fas : Nat → Int32) (hs0 : ms 0 = nI P) (hs1 : ms 1 = nI Rn) (hs2 : ms 2 = nI Wn) (hsS : SI ms) (hsM : MI ms) (hsp : P ≤ 10) (hsr : Rn ≤ 8) (hsw : Wn ≤ 8) (hsR : RI Rn ms) (hsG : FR P ms fae fal fau fao farn farp fak fawn fawp fat fas) : Met l yX9_tripOfHome (Cond.code yX9_tripOfHome cX9_tripOfHome 2 (some .int) :: wsU) ({ frames := 3, cells := 0, slots := 0, locals := 70 }) (va_Pc [.ref h0] (XW D (xT cI cJ cZ cS) ta sa sv [(h0, .inr (9, [.ref ys, .ref yk, .ref yo, .ref yt, .int mk0, .ref yfa, .ref yfe, .int mL, .int mS, .int mM, .ref yro, .ref yhe, .ref ygr, .int mF, .int mC, .int mY, .ref yta, .int (nI (mz)), .int (nI (mf)), .int (nI (mt)), .int mv, .int mw, .ref ywa, .ref ybi, .ref ysi, .ref ynu, .ref ymo])), (ys, .inl (cI, 449, .inl ms)), (yfa, .inl (cI, 100, .inl fa))] sz)) (XQi (fun (r : Int32) (mS2 : Int32) => (True)) D (fun (mS2 : Int32) => [(h0, .inr (9, [.ref ys, .ref yk, .ref yo, .ref yt, .int mk0, .ref yfa, .ref yfe, .int mL, .int mS2, .int mM, .ref yro, .ref yhe, .ref ygr, .int mF, .int mC, .int mY, .ref yta, .int (nI (mz)), .int (nI (mf)), .int (nI (mt)), .int mv, .int mw, .ref ywa, .ref ybi, .ref ysi, .ref ynu, .ref ymo])), (ys, .inl (cI, 449, .inl ms)), (yfa, .inl (cI, 100, .inl fa))]) (va_A [(h0, .inr (9, [.ref ys, .ref yk, .ref yo, .ref yt, .int mk0, .ref yfa, .ref yfe, .int mL, .int mS, .int mM, .ref yro, .ref yhe, .ref ygr, .int mF, .int mC, .int mY, .ref yta, .int (nI (mz)), .int (nI (mf)), .int (nI (mt)), .int mv, .int mw, .ref ywa, .ref ybi, .ref ysi, .ref ynu, .ref ymo])), (ys, .inl (cI, 449, .inl ms)), (yfa, .inl (cI, 100, .inl fa))] sz)) 0 0 (va_A [(h0, .inr (9, [.ref ys, .ref yk, .ref yo, .ref yt, .int mk0, .ref yfa, .ref yfe, .int mL, .int mS, .int mM, .ref yro, .ref yhe, .ref ygr, .int mF, .int mC, .int mY, .ref yta, .int (nI (mz)), .int (nI (mf)), .int (nI (mt)), .int mv, .int mw, .ref ywa, .ref ybi, .ref ysi, .ref ynu, .ref ymo])), (ys, .inl (cI, 449, .inl ms)), (yfa, .inl (cI, 100, .inl fa))] sz) := by
  refine xh (QA := fun A => XQi (fun (r : Int32) (mS2 : Int32) => (True)) D (fun (mS2 : Int32) => [(h0, .inr (9, [.ref ys, .ref yk, .ref yo, .ref yt, .int mk0, .ref yfa, .ref yfe, .int mL, .int mS2, .int mM, .ref yro, .ref yhe, .ref ygr, .int mF, .int mC, .int mY, .ref yta, .int (nI (mz)), .int (nI (mf)), .int (nI (mt)), .int mv, .int mw, .ref ywa, .ref ybi, .ref ysi, .ref ynu, .ref ymo])), (ys, .inl (cI, 449, .inl ms)), (yfa, .inl (cI, 100, .inl fa))]) A) (fr := fun A => A) (by decide) (Nat.le_of_ble_eq_true rfl) ?_
  intro p e s m below meth c ls A hF hr hlk hin hsz hP hK hD hN hZ hA hS hl
  have hF : CallFix p m c cX9_tripOfHome 2 s _ _ RX9 := hF
  have hx := hF.1
  have hb := hF.2.1
  have hml := hF.2.2.1
  have hown := hF.2.2.2.1
  have hu : ∀ w ∈ wsU, w.before _ s = true := fun w h => hF.2.2.2.2 w (List.mem_cons_of_mem _ h)
  have hl : lv_has ls 2 [(0, .ref h0)] := hl
  refine lv_aload_n hx hb dX9_tripOfHome_0 rfl (lv_at hl 0 rfl) ?_
  refine xc_Vi (wr := []) hF (c_X9_home l D cI cJ cZ cS ta sa sv s.heap.size h0 ys yk yo yt mk0 yfa yfe mL mS mM yro yhe ygr mF mC mY yta mz mf mt mv mw ywa ybi ysi ynu ymo ms fa P Rn Wn fae fal fau fao farn farp fak fawn fawp fat fas hs0 hs1 hs2 hsS hsM hsp hsr hsw hsR hsG) kv_X9_171 ⟨rfl, rfl, Nat.le_of_ble_eq_true rfl, Nat.le_of_ble_eq_true rfl⟩ ⟨Nat.le_of_ble_eq_true rfl, Nat.le_of_ble_eq_true rfl⟩ hK hN hZ hP hD hS hA [0, 1, 2] [] rfl rfl rfl rfl (by decide) 0 rfl rfl rfl rfl hl.1 rfl (Nat.le_of_ble_eq_true rfl) dX9_tripOfHome_1 (fun r_1 u_r_1 H locs hw_r_1 hP hD hS => ?_)
  obtain ⟨mS2_2, rfl⟩ : ∃ z, z = u_r_1 := ⟨_, rfl⟩
  try dsimp only at hw_r_1
  have hP : va_P D vwCl [(h0, .inr (9, [.ref ys, .ref yk, .ref yo, .ref yt, .int mk0, .ref yfa, .ref yfe, .int mL, .int mS2_2, .int mM, .ref yro, .ref yhe, .ref ygr, .int mF, .int mC, .int mY, .ref yta, .int (nI (mz)), .int (nI (mf)), .int (nI (mt)), .int mv, .int mw, .ref ywa, .ref ybi, .ref ysi, .ref ynu, .ref ymo])), (ys, .inl (cI, 449, .inl ms)), (yfa, .inl (cI, 100, .inl fa))] H := hP
  have hD : va_D A [(h0, .inr (9, [.ref ys, .ref yk, .ref yo, .ref yt, .int mk0, .ref yfa, .ref yfe, .int mL, .int mS2_2, .int mM, .ref yro, .ref yhe, .ref ygr, .int mF, .int mC, .int mY, .ref yta, .int (nI (mz)), .int (nI (mf)), .int (nI (mt)), .int mv, .int mw, .ref ywa, .ref ybi, .ref ysi, .ref ynu, .ref ymo])), (ys, .inl (cI, 449, .inl ms)), (yfa, .inl (cI, 100, .inl fa))] := hD
  rcases hw_r_1 with rfl | ⟨y_3, rfl, h_4⟩
  · skip
    refine lv_istore_n (lv' := [(1, .int (-1)), (0, .ref h0)]) hx hb dX9_tripOfHome_4 rfl hl (by decide) rfl (fun ls hl => ?_)
    refine lv_iload_n hx hb dX9_tripOfHome_5 rfl (lv_at hl 0 rfl) ?_
    refine lv_if_ge (tgt := 14) hx hb dX9_tripOfHome_6 (by decide) (fun c_5 => absurd c_5 (by decide)) (fun c_5 => ?_)
    refine lv_ldc (v := 100000000) hx hb hown (hu _ uw701) dX9_tripOfHome_9 ?_
    refine lv_goto (tgt := 19) hx hb dX9_tripOfHome_11 (by decide) ?_
    exact W.iret (v := 100000000) hx hb hr (fun t ht hW => ⟨⟨100000000, mS2_2, rfl, trivial, by rw [ht]; exact hP.sub [0, 1, 2] rfl, hD.sub [0, 1, 2] (by decide) rfl⟩, hS.F ht⟩) hS.2.2 dX9_tripOfHome_19 hlk
  · skip
    refine lv_istore_n (lv' := [(1, .int (nI (y_3))), (0, .ref h0)]) hx hb dX9_tripOfHome_4 rfl hl (by decide) rfl (fun ls hl => ?_)
    refine lv_iload_n hx hb dX9_tripOfHome_5 rfl (lv_at hl 0 rfl) ?_
    refine lv_if_ge (tgt := 14) hx hb dX9_tripOfHome_6 (by decide) (fun c_6 => ?_) (fun c_6 => by have nc_6 : y_3 < 0 := xn_nle (a := 0) (b := y_3) (by omega) (by omega) c_6; omega)
    have nc_6 : 0 ≤ y_3 := xn_le (a := 0) (b := y_3) (by omega) (by omega) c_6
    refine lv_aload_n hx hb dX9_tripOfHome_14 rfl (lv_at hl 1 rfl) ?_
    refine lv_iload_n hx hb dX9_tripOfHome_15 rfl (lv_at hl 0 rfl) ?_
    refine xc_Vi (wr := []) hF (c_X9_tripOf l D cI cJ cZ cS ta sa sv H.size h0 ys yk yo yt mk0 yfa yfe mL mS2_2 mM yro yhe ygr mF mC mY yta mz mf mt mv mw ywa ybi ysi ynu ymo ms fa P Rn Wn fae fal fau fao farn farp fak fawn fawp fat fas y_3 (by omega) hs0 hs1 hs2 hsS hsM hsp hsr hsw hsR hsG) kv_X9_168 ⟨rfl, rfl, Nat.le_of_ble_eq_true rfl, Nat.le_of_ble_eq_true rfl⟩ ⟨Nat.le_of_ble_eq_true rfl, Nat.le_of_ble_eq_true rfl⟩ hK hN hZ hP hD hS hA [0, 1, 2] [] rfl rfl rfl rfl (by decide) 0 rfl rfl rfl rfl hl.1 rfl (Nat.le_of_ble_eq_true rfl) dX9_tripOfHome_16 (fun r_7 u_r_7 H locs hw_r_7 hP hD hS => ?_)
    obtain ⟨mS2_8, rfl⟩ : ∃ z, z = u_r_7 := ⟨_, rfl⟩
    try dsimp only at hw_r_7
    have hP : va_P D vwCl [(h0, .inr (9, [.ref ys, .ref yk, .ref yo, .ref yt, .int mk0, .ref yfa, .ref yfe, .int mL, .int mS2_8, .int mM, .ref yro, .ref yhe, .ref ygr, .int mF, .int mC, .int mY, .ref yta, .int (nI (mz)), .int (nI (mf)), .int (nI (mt)), .int mv, .int mw, .ref ywa, .ref ybi, .ref ysi, .ref ynu, .ref ymo])), (ys, .inl (cI, 449, .inl ms)), (yfa, .inl (cI, 100, .inl fa))] H := hP
    have hD : va_D A [(h0, .inr (9, [.ref ys, .ref yk, .ref yo, .ref yt, .int mk0, .ref yfa, .ref yfe, .int mL, .int mS2_8, .int mM, .ref yro, .ref yhe, .ref ygr, .int mF, .int mC, .int mY, .ref yta, .int (nI (mz)), .int (nI (mf)), .int (nI (mt)), .int mv, .int mw, .ref ywa, .ref ybi, .ref ysi, .ref ynu, .ref ymo])), (ys, .inl (cI, 449, .inl ms)), (yfa, .inl (cI, 100, .inl fa))] := hD
    exact W.iret (v := r_7) hx hb hr (fun t ht hW => ⟨⟨r_7, mS2_8, rfl, trivial, by rw [ht]; exact hP.sub [0, 1, 2] rfl, hD.sub [0, 1, 2] (by decide) rfl⟩, hS.F ht⟩) hS.2.2 dX9_tripOfHome_19 hlk
set_option maxHeartbeats 4000000 in
set_option maxRecDepth 100000 in
theorem c_X9_saving (l : Launch) (D : va_G) (cI cJ cZ cS : ClassId) (ta : Nat) (sa sv : Nat → Nat) (sz : Nat) (h0 : Nat) (ys : Nat) (yk : Nat) (yo : Nat) (yt : Nat) (mk0 : Int32) (yfa : Nat) (yfe : Nat) (mL : Int32) (mS : Int32) (mM : Int32) (yro : Nat) (yhe : Nat) (ygr : Nat) (mF : Int32) (mC : Int32) (mY : Int32) (yta : Nat) (mz : Nat) (mf : Nat) (mt : Nat) (mv : Int32) (mw : Int32) (ywa : Nat) (ybi : Nat) (ysi : Nat) (ynu : Nat) (ymo : Nat) (ms : Nat → Int32) (fa : Nat → Int32) (fe : Nat → Int32) (P : Nat) (Rn : Nat) (Wn : Nat) (fae : Nat → Int32) (fal : Nat → Int32) (fau : Nat → Int32) (fao : Nat → Int32) (farn : Nat → Int32) (farp : Nat → Int32) (fak : Nat → Int32) (fawn : Nat → Int32) (fawp : Nat → Int32) (fat : Nat → Int32) (fas : Nat → Int32) (j : Nat) (k : Nat) (p0 : Int32) (hj : j < 10) (hk : k < 10) (hs0 : ms 0 = nI P) (hs1 : ms 1 = nI Rn) (hs2 : ms 2 = nI Wn) (hsS : SI ms) (hsM : MI ms) (hsp : P ≤ 10) (hsr : Rn ≤ 8) (hsw : Wn ≤ 8) (hsR : RI Rn ms) (hsG : FR P ms fae fal fau fao farn farp fak fawn fawp fat fas) : Met l yX9_saving (Cond.code yX9_saving cX9_saving 8 (some .int) :: wsU) ({ frames := 4, cells := 0, slots := 0, locals := 91 }) (va_Pc [.ref h0, .int (nI (j)), .int (nI (k)), .int p0] (XW D (xT cI cJ cZ cS) ta sa sv [(h0, .inr (9, [.ref ys, .ref yk, .ref yo, .ref yt, .int mk0, .ref yfa, .ref yfe, .int mL, .int mS, .int mM, .ref yro, .ref yhe, .ref ygr, .int mF, .int mC, .int mY, .ref yta, .int (nI (mz)), .int (nI (mf)), .int (nI (mt)), .int mv, .int mw, .ref ywa, .ref ybi, .ref ysi, .ref ynu, .ref ymo])), (ys, .inl (cI, 449, .inl ms)), (yfa, .inl (cI, 100, .inl fa)), (yfe, .inl (cI, 100, .inl fe))] sz)) (XQi (fun (r : Int32) (u : Int32 × Int32 × (Nat → Int32) × (Nat → Int32) × (Nat → Int32)) => match u with | (mL2, mS2, ms2, fa2, fe2) => (True) ∧ (ms2 0 = nI P) ∧ (ms2 1 = nI Rn) ∧ (ms2 2 = nI Wn) ∧ (SI ms2) ∧ (MI ms2) ∧ (P ≤ 10) ∧ (Rn ≤ 8) ∧ (Wn ≤ 8) ∧ (RI Rn ms2) ∧ (FR P ms2 fae fal fau fao farn farp fak fawn fawp fat fas)) D (fun (u : Int32 × Int32 × (Nat → Int32) × (Nat → Int32) × (Nat → Int32)) => match u with | (mL2, mS2, ms2, fa2, fe2) => [(h0, .inr (9, [.ref ys, .ref yk, .ref yo, .ref yt, .int mk0, .ref yfa, .ref yfe, .int mL2, .int mS2, .int mM, .ref yro, .ref yhe, .ref ygr, .int mF, .int mC, .int mY, .ref yta, .int (nI (mz)), .int (nI (mf)), .int (nI (mt)), .int mv, .int mw, .ref ywa, .ref ybi, .ref ysi, .ref ynu, .ref ymo])), (ys, .inl (cI, 449, .inl ms2)), (yfa, .inl (cI, 100, .inl fa2)), (yfe, .inl (cI, 100, .inl fe2))]) (va_A [(h0, .inr (9, [.ref ys, .ref yk, .ref yo, .ref yt, .int mk0, .ref yfa, .ref yfe, .int mL, .int mS, .int mM, .ref yro, .ref yhe, .ref ygr, .int mF, .int mC, .int mY, .ref yta, .int (nI (mz)), .int (nI (mf)), .int (nI (mt)), .int mv, .int mw, .ref ywa, .ref ybi, .ref ysi, .ref ynu, .ref ymo])), (ys, .inl (cI, 449, .inl ms)), (yfa, .inl (cI, 100, .inl fa)), (yfe, .inl (cI, 100, .inl fe))] sz)) 0 0 (va_A [(h0, .inr (9, [.ref ys, .ref yk, .ref yo, .ref yt, .int mk0, .ref yfa, .ref yfe, .int mL, .int mS, .int mM, .ref yro, .ref yhe, .ref ygr, .int mF, .int mC, .int mY, .ref yta, .int (nI (mz)), .int (nI (mf)), .int (nI (mt)), .int mv, .int mw, .ref ywa, .ref ybi, .ref ysi, .ref ynu, .ref ymo])), (ys, .inl (cI, 449, .inl ms)), (yfa, .inl (cI, 100, .inl fa)), (yfe, .inl (cI, 100, .inl fe))] sz) := by
  refine xh (QA := fun A => XQi (fun (r : Int32) (u : Int32 × Int32 × (Nat → Int32) × (Nat → Int32) × (Nat → Int32)) => match u with | (mL2, mS2, ms2, fa2, fe2) => (True) ∧ (ms2 0 = nI P) ∧ (ms2 1 = nI Rn) ∧ (ms2 2 = nI Wn) ∧ (SI ms2) ∧ (MI ms2) ∧ (P ≤ 10) ∧ (Rn ≤ 8) ∧ (Wn ≤ 8) ∧ (RI Rn ms2) ∧ (FR P ms2 fae fal fau fao farn farp fak fawn fawp fat fas)) D (fun (u : Int32 × Int32 × (Nat → Int32) × (Nat → Int32) × (Nat → Int32)) => match u with | (mL2, mS2, ms2, fa2, fe2) => [(h0, .inr (9, [.ref ys, .ref yk, .ref yo, .ref yt, .int mk0, .ref yfa, .ref yfe, .int mL2, .int mS2, .int mM, .ref yro, .ref yhe, .ref ygr, .int mF, .int mC, .int mY, .ref yta, .int (nI (mz)), .int (nI (mf)), .int (nI (mt)), .int mv, .int mw, .ref ywa, .ref ybi, .ref ysi, .ref ynu, .ref ymo])), (ys, .inl (cI, 449, .inl ms2)), (yfa, .inl (cI, 100, .inl fa2)), (yfe, .inl (cI, 100, .inl fe2))]) A) (fr := fun A => A) (by decide) (Nat.le_of_ble_eq_true rfl) ?_
  intro p e s m below meth c ls A hF hr hlk hin hsz hP hK hD hN hZ hA hS hl
  have hF : CallFix p m c cX9_saving 8 s _ _ RX9 := hF
  have hx := hF.1
  have hb := hF.2.1
  have hml := hF.2.2.1
  have hown := hF.2.2.2.1
  have hu : ∀ w ∈ wsU, w.before _ s = true := fun w h => hF.2.2.2.2 w (List.mem_cons_of_mem _ h)
  have hl : lv_has ls 8 [(0, .ref h0), (1, .int (nI (j))), (2, .int (nI (k))), (3, .int p0)] := hl
  refine lv_aload_n hx hb dX9_saving_0 rfl (lv_at hl 0 rfl) ?_
  refine xg hF kf_X9_7 hK hP 0 rfl rfl dX9_saving_1 ?_
  refine lv_bipush (v := 13) hx hb dX9_saving_4 (by decide) ?_
  refine lv_bipush (v := 10) hx hb dX9_saving_6 (by decide) ?_
  refine lv_iload_n hx hb dX9_saving_8 rfl (lv_at hl 1 rfl) ?_
  refine lv_imul hx hb dX9_saving_9 ?_
  refine xl_i (y := nI (10 * j)) (pk_mul 10 j) ?_
  refine lv_iadd hx hb dX9_saving_10 ?_
  refine xl_i (y := nI (13 + (10 * j))) (nI_add 13 (10 * j)) ?_
  refine lv_iload_n hx hb dX9_saving_11 rfl (lv_at hl 2 rfl) ?_
  refine lv_iadd hx hb dX9_saving_12 ?_
  refine xl_i (y := nI (13 + (10 * j) + k)) (nI_add (13 + (10 * j)) k) ?_
  refine va_iald hx hb hK hP 1 0 rfl rfl (vp_in_nI (show 13 + (10 * j) + k < 449 by omega) (by decide)) dX9_saving_13 ?_
  refine xl_i (y := ms (13 + (10 * j) + k)) (congrArg ms (nI_clamp (show 13 + (10 * j) + k < 2 ^ 31 by omega))) ?_
  refine xl_i (y := fal (10 * j + k)) (FR.gl hsG (show 10 * j + k < 100 by omega) (by omega)) ?_
  refine lv_istore (lv' := [(4, .int (fal (10 * j + k))), (0, .ref h0), (1, .int (nI (j))), (2, .int (nI (k))), (3, .int p0)]) hx hb dX9_saving_14 hl (by decide) rfl (fun ls hl => ?_)
  refine lv_aload_n hx hb dX9_saving_16 rfl (lv_at hl 1 rfl) ?_
  refine xg hF kf_X9_7 hK hP 0 rfl rfl dX9_saving_17 ?_
  refine lv_bipush (v := 13) hx hb dX9_saving_20 (by decide) ?_
  refine lv_bipush (v := 10) hx hb dX9_saving_22 (by decide) ?_
  refine lv_iload_n hx hb dX9_saving_24 rfl (lv_at hl 3 rfl) ?_
  refine lv_imul hx hb dX9_saving_25 ?_
  refine xl_i (y := nI (10 * k)) (pk_mul 10 k) ?_
  refine lv_iadd hx hb dX9_saving_26 ?_
  refine xl_i (y := nI (13 + (10 * k))) (nI_add 13 (10 * k)) ?_
  refine lv_iload_n hx hb dX9_saving_27 rfl (lv_at hl 2 rfl) ?_
  refine lv_iadd hx hb dX9_saving_28 ?_
  refine xl_i (y := nI (13 + (10 * k) + j)) (nI_add (13 + (10 * k)) j) ?_
  refine va_iald hx hb hK hP 1 0 rfl rfl (vp_in_nI (show 13 + (10 * k) + j < 449 by omega) (by decide)) dX9_saving_29 ?_
  refine xl_i (y := ms (13 + (10 * k) + j)) (congrArg ms (nI_clamp (show 13 + (10 * k) + j < 2 ^ 31 by omega))) ?_
  refine xl_i (y := fal (10 * k + j)) (FR.gl hsG (show 10 * k + j < 100 by omega) (by omega)) ?_
  refine lv_istore (lv' := [(5, .int (fal (10 * k + j))), (4, .int (fal (10 * j + k))), (0, .ref h0), (1, .int (nI (j))), (2, .int (nI (k))), (3, .int p0)]) hx hb dX9_saving_30 hl (by decide) rfl (fun ls hl => ?_)
  refine lv_iload hx hb dX9_saving_32 (lv_at hl 1 rfl) ?_
  refine lv_iload hx hb dX9_saving_34 (lv_at hl 0 rfl) ?_
  refine lv_icmp_ge (tgt := 44) hx hb dX9_saving_36 (by decide) (fun c_1 => ?_) (fun c_1 => ?_)
  · skip
    refine lv_iload hx hb dX9_saving_44 (lv_at hl 0 rfl) ?_
    refine lv_istore (lv' := [(6, .int (fal (10 * k + j))), (5, .int (fal (10 * k + j))), (4, .int (fal (10 * j + k))), (0, .ref h0), (1, .int (nI (j))), (2, .int (nI (k))), (3, .int p0)]) hx hb dX9_saving_46 hl (by decide) rfl (fun ls hl => ?_)
    refine lv_aload_n hx hb dX9_saving_48 rfl (lv_at hl 3 rfl) ?_
    refine xg hF kf_X9_7 hK hP 0 rfl rfl dX9_saving_49 ?_
    refine lv_bipush (v := 13) hx hb dX9_saving_52 (by decide) ?_
    refine lv_bipush (v := 10) hx hb dX9_saving_54 (by decide) ?_
    refine lv_iload_n hx hb dX9_saving_56 rfl (lv_at hl 4 rfl) ?_
    refine lv_imul hx hb dX9_saving_57 ?_
    refine xl_i (y := nI (10 * j)) (pk_mul 10 j) ?_
    refine lv_iadd hx hb dX9_saving_58 ?_
    refine xl_i (y := nI (13 + (10 * j))) (nI_add 13 (10 * j)) ?_
    refine lv_iload_n hx hb dX9_saving_59 rfl (lv_at hl 5 rfl) ?_
    refine lv_iadd hx hb dX9_saving_60 ?_
    refine xl_i (y := nI (13 + (10 * j) + k)) (nI_add (13 + (10 * j)) k) ?_
    refine lv_iload hx hb dX9_saving_61 (lv_at hl 0 rfl) ?_
    refine va_iast hx hb hK hP hD hS 1 0 rfl rfl (vp_in_nI (show 13 + (10 * j) + k < 449 by omega) (by decide)) dX9_saving_63 (fun H locs hP hD hS => ?_)
    rw [nI_clamp (show 13 + (10 * j) + k < 2 ^ 31 by omega)] at hP hD
    obtain ⟨f_2, ef_2⟩ : ∃ g, g = upd ms (13 + (10 * j) + k) (fal (10 * k + j)) := ⟨_, rfl⟩
    rw [← ef_2] at hP hD
    have k0_f_2 : f_2 0 = nI P := by rw [ef_2]; exact (pk_un (show 0 ≠ (13 + (10 * j) + k) by omega)).trans hs0
    have k1_f_2 : f_2 1 = nI Rn := by rw [ef_2]; exact (pk_un (show 1 ≠ (13 + (10 * j) + k) by omega)).trans hs1
    have k2_f_2 : f_2 2 = nI Wn := by rw [ef_2]; exact (pk_un (show 2 ≠ (13 + (10 * j) + k) by omega)).trans hs2
    have kS_f_2 : SI f_2 := by rw [ef_2]; exact SI.upd hsS (okS.low (show (13 + (10 * j) + k) < 313 by omega))
    have kM_f_2 : MI f_2 := by rw [ef_2]; exact MI.upd hsM (fun _ _ => hsG.lb hsM (by omega))
    have kR_f_2 : RI Rn f_2 := by rw [ef_2]; exact RI.upd hsR (fun r9 hr9 e9 => by omega)
    have kG_f_2 : FR P f_2 fae (upd fal (10 * j + k) (fal (10 * k + j))) fau fao farn farp fak fawn fawp fat fas := by rw [ef_2]; exact FR.pl hsG (show 10 * j + k < 100 by omega) (by omega)
    have hP : va_P D vwCl [(h0, .inr (9, [.ref ys, .ref yk, .ref yo, .ref yt, .int mk0, .ref yfa, .ref yfe, .int mL, .int mS, .int mM, .ref yro, .ref yhe, .ref ygr, .int mF, .int mC, .int mY, .ref yta, .int (nI (mz)), .int (nI (mf)), .int (nI (mt)), .int mv, .int mw, .ref ywa, .ref ybi, .ref ysi, .ref ynu, .ref ymo])), (ys, .inl (cI, 449, .inl f_2)), (yfa, .inl (cI, 100, .inl fa)), (yfe, .inl (cI, 100, .inl fe))] H := hP
    have hD : va_D A [(h0, .inr (9, [.ref ys, .ref yk, .ref yo, .ref yt, .int mk0, .ref yfa, .ref yfe, .int mL, .int mS, .int mM, .ref yro, .ref yhe, .ref ygr, .int mF, .int mC, .int mY, .ref yta, .int (nI (mz)), .int (nI (mf)), .int (nI (mt)), .int mv, .int mw, .ref ywa, .ref ybi, .ref ysi, .ref ynu, .ref ymo])), (ys, .inl (cI, 449, .inl f_2)), (yfa, .inl (cI, 100, .inl fa)), (yfe, .inl (cI, 100, .inl fe))] := hD
    refine lv_aload_n hx hb dX9_saving_64 rfl (lv_at hl 3 rfl) ?_
    refine xg hF kf_X9_7 hK hP 0 rfl rfl dX9_saving_65 ?_
    refine lv_bipush (v := 13) hx hb dX9_saving_68 (by decide) ?_
    refine lv_bipush (v := 10) hx hb dX9_saving_70 (by decide) ?_
    refine lv_iload_n hx hb dX9_saving_72 rfl (lv_at hl 5 rfl) ?_
    refine lv_imul hx hb dX9_saving_73 ?_
    refine xl_i (y := nI (10 * k)) (pk_mul 10 k) ?_
    refine lv_iadd hx hb dX9_saving_74 ?_
    refine xl_i (y := nI (13 + (10 * k))) (nI_add 13 (10 * k)) ?_
    refine lv_iload_n hx hb dX9_saving_75 rfl (lv_at hl 4 rfl) ?_
    refine lv_iadd hx hb dX9_saving_76 ?_
    refine xl_i (y := nI (13 + (10 * k) + j)) (nI_add (13 + (10 * k)) j) ?_
    refine lv_iload hx hb dX9_saving_77 (lv_at hl 0 rfl) ?_
    refine va_iast hx hb hK hP hD hS 1 0 rfl rfl (vp_in_nI (show 13 + (10 * k) + j < 449 by omega) (by decide)) dX9_saving_79 (fun H locs hP hD hS => ?_)
    rw [nI_clamp (show 13 + (10 * k) + j < 2 ^ 31 by omega)] at hP hD
    obtain ⟨f_3, ef_3⟩ : ∃ g, g = upd f_2 (13 + (10 * k) + j) (fal (10 * k + j)) := ⟨_, rfl⟩
    rw [← ef_3] at hP hD
    have k0_f_3 : f_3 0 = nI P := by rw [ef_3]; exact (pk_un (show 0 ≠ (13 + (10 * k) + j) by omega)).trans k0_f_2
    have k1_f_3 : f_3 1 = nI Rn := by rw [ef_3]; exact (pk_un (show 1 ≠ (13 + (10 * k) + j) by omega)).trans k1_f_2
    have k2_f_3 : f_3 2 = nI Wn := by rw [ef_3]; exact (pk_un (show 2 ≠ (13 + (10 * k) + j) by omega)).trans k2_f_2
    have kS_f_3 : SI f_3 := by rw [ef_3]; exact SI.upd kS_f_2 (okS.low (show (13 + (10 * k) + j) < 313 by omega))
    have kM_f_3 : MI f_3 := by rw [ef_3]; exact MI.upd kM_f_2 (fun _ _ => hsG.lb hsM (by omega))
    have kR_f_3 : RI Rn f_3 := by rw [ef_3]; exact RI.upd kR_f_2 (fun r9 hr9 e9 => by omega)
    have kG_f_3 : FR P f_3 fae (upd (upd fal (10 * j + k) (fal (10 * k + j))) (10 * k + j) (fal (10 * k + j))) fau fao farn farp fak fawn fawp fat fas := by rw [ef_3]; exact FR.pl kG_f_2 (show 10 * k + j < 100 by omega) (by omega)
    have hP : va_P D vwCl [(h0, .inr (9, [.ref ys, .ref yk, .ref yo, .ref yt, .int mk0, .ref yfa, .ref yfe, .int mL, .int mS, .int mM, .ref yro, .ref yhe, .ref ygr, .int mF, .int mC, .int mY, .ref yta, .int (nI (mz)), .int (nI (mf)), .int (nI (mt)), .int mv, .int mw, .ref ywa, .ref ybi, .ref ysi, .ref ynu, .ref ymo])), (ys, .inl (cI, 449, .inl f_3)), (yfa, .inl (cI, 100, .inl fa)), (yfe, .inl (cI, 100, .inl fe))] H := hP
    have hD : va_D A [(h0, .inr (9, [.ref ys, .ref yk, .ref yo, .ref yt, .int mk0, .ref yfa, .ref yfe, .int mL, .int mS, .int mM, .ref yro, .ref yhe, .ref ygr, .int mF, .int mC, .int mY, .ref yta, .int (nI (mz)), .int (nI (mf)), .int (nI (mt)), .int mv, .int mw, .ref ywa, .ref ybi, .ref ysi, .ref ynu, .ref ymo])), (ys, .inl (cI, 449, .inl f_3)), (yfa, .inl (cI, 100, .inl fa)), (yfe, .inl (cI, 100, .inl fe))] := hD
    refine lv_aload_n hx hb dX9_saving_80 rfl (lv_at hl 3 rfl) ?_
    refine xc_Vv (wr := []) hF (c_X9_findFar l D cI cJ cZ cS ta sa sv H.size h0 ys yk yo yt mk0 yfa yfe mL mS mM yro yhe ygr mF mC mY yta mz mf mt mv mw ywa ybi ysi ynu ymo f_3 fa fe P Rn Wn fae (upd (upd fal (10 * j + k) (fal (10 * k + j))) (10 * k + j) (fal (10 * k + j))) fau fao farn farp fak fawn fawp fat fas k0_f_3 k1_f_3 k2_f_3 kS_f_3 kM_f_3 hsp hsr hsw kR_f_3 kG_f_3) kv_X9_113 ⟨rfl, rfl, Nat.le_of_ble_eq_true rfl, Nat.le_of_ble_eq_true rfl⟩ ⟨Nat.le_of_ble_eq_true rfl, Nat.le_of_ble_eq_true rfl⟩ hK hN hZ hP hD hS hA [0, 1, 2, 3] [] rfl rfl rfl rfl (by decide) 0 rfl rfl rfl rfl hl.1 rfl (Nat.le_of_ble_eq_true rfl) dX9_saving_81 (fun u_r_4 H locs hw_r_4 hP hD hS => ?_)
    obtain ⟨mL2_5, fa2_6, fe2_7⟩ := u_r_4
    try dsimp only at hw_r_4
    have i_8 := hw_r_4
    have hP : va_P D vwCl [(h0, .inr (9, [.ref ys, .ref yk, .ref yo, .ref yt, .int mk0, .ref yfa, .ref yfe, .int mL2_5, .int mS, .int mM, .ref yro, .ref yhe, .ref ygr, .int mF, .int mC, .int mY, .ref yta, .int (nI (mz)), .int (nI (mf)), .int (nI (mt)), .int mv, .int mw, .ref ywa, .ref ybi, .ref ysi, .ref ynu, .ref ymo])), (ys, .inl (cI, 449, .inl f_3)), (yfa, .inl (cI, 100, .inl fa2_6)), (yfe, .inl (cI, 100, .inl fe2_7))] H := hP
    have hD : va_D A [(h0, .inr (9, [.ref ys, .ref yk, .ref yo, .ref yt, .int mk0, .ref yfa, .ref yfe, .int mL2_5, .int mS, .int mM, .ref yro, .ref yhe, .ref ygr, .int mF, .int mC, .int mY, .ref yta, .int (nI (mz)), .int (nI (mf)), .int (nI (mt)), .int mv, .int mw, .ref ywa, .ref ybi, .ref ysi, .ref ynu, .ref ymo])), (ys, .inl (cI, 449, .inl f_3)), (yfa, .inl (cI, 100, .inl fa2_6)), (yfe, .inl (cI, 100, .inl fe2_7))] := hD
    refine lv_aload_n hx hb dX9_saving_84 rfl (lv_at hl 3 rfl) ?_
    refine xg hF kf_X9_109 hK hP 0 rfl rfl dX9_saving_85 ?_
    refine lv_if_eq (tgt := 96) hx hb dX9_saving_88 (by decide) (fun c_9 => ?_) (fun c_9 => ?_)
    · skip
      refine lv_iload_n hx hb dX9_saving_96 rfl (lv_at hl 6 rfl) ?_
      refine lv_aload_n hx hb dX9_saving_97 rfl (lv_at hl 3 rfl) ?_
      refine xc_Vi (wr := [(yfe, .inl (cI, 100, .inl fe2_7))]) hF (c_X9_tripOfHome l D cI cJ cZ cS ta sa sv H.size h0 ys yk yo yt mk0 yfa yfe mL2_5 mS mM yro yhe ygr mF mC mY yta mz mf mt mv mw ywa ybi ysi ynu ymo f_3 fa2_6 P Rn Wn fae (upd (upd fal (10 * j + k) (fal (10 * k + j))) (10 * k + j) (fal (10 * k + j))) fau fao farn farp fak fawn fawp fat fas k0_f_3 k1_f_3 k2_f_3 kS_f_3 kM_f_3 hsp hsr hsw kR_f_3 kG_f_3) kv_X9_226 ⟨rfl, rfl, Nat.le_of_ble_eq_true rfl, Nat.le_of_ble_eq_true rfl⟩ ⟨Nat.le_of_ble_eq_true rfl, Nat.le_of_ble_eq_true rfl⟩ hK hN hZ hP hD hS hA [0, 1, 2] [3] rfl rfl rfl rfl (by decide) 0 rfl rfl rfl rfl hl.1 rfl (Nat.le_of_ble_eq_true rfl) dX9_saving_98 (fun r_10 u_r_10 H locs hw_r_10 hP hD hS => ?_)
      obtain ⟨mS2_11, rfl⟩ : ∃ z, z = u_r_10 := ⟨_, rfl⟩
      try dsimp only at hw_r_10
      have hP : va_P D vwCl [(yfe, .inl (cI, 100, .inl fe2_7)), (h0, .inr (9, [.ref ys, .ref yk, .ref yo, .ref yt, .int mk0, .ref yfa, .ref yfe, .int mL2_5, .int mS2_11, .int mM, .ref yro, .ref yhe, .ref ygr, .int mF, .int mC, .int mY, .ref yta, .int (nI (mz)), .int (nI (mf)), .int (nI (mt)), .int mv, .int mw, .ref ywa, .ref ybi, .ref ysi, .ref ynu, .ref ymo])), (ys, .inl (cI, 449, .inl f_3)), (yfa, .inl (cI, 100, .inl fa2_6))] H := hP
      have hD : va_D A [(yfe, .inl (cI, 100, .inl fe2_7)), (h0, .inr (9, [.ref ys, .ref yk, .ref yo, .ref yt, .int mk0, .ref yfa, .ref yfe, .int mL2_5, .int mS2_11, .int mM, .ref yro, .ref yhe, .ref ygr, .int mF, .int mC, .int mY, .ref yta, .int (nI (mz)), .int (nI (mf)), .int (nI (mt)), .int mv, .int mw, .ref ywa, .ref ybi, .ref ysi, .ref ynu, .ref ymo])), (ys, .inl (cI, 449, .inl f_3)), (yfa, .inl (cI, 100, .inl fa2_6))] := hD
      refine lv_isub hx hb dX9_saving_101 ?_
      refine lv_topi (fun x_12 ex_12 => ?_)
      refine lv_istore (lv' := [(7, .int x_12), (6, .int (fal (10 * k + j))), (5, .int (fal (10 * k + j))), (4, .int (fal (10 * j + k))), (0, .ref h0), (1, .int (nI (j))), (2, .int (nI (k))), (3, .int p0)]) hx hb dX9_saving_102 hl (by decide) rfl (fun ls hl => ?_)
      refine lv_aload_n hx hb dX9_saving_104 rfl (lv_at hl 4 rfl) ?_
      refine xg hF kf_X9_7 hK hP 1 rfl rfl dX9_saving_105 ?_
      refine lv_bipush (v := 13) hx hb dX9_saving_108 (by decide) ?_
      refine lv_bipush (v := 10) hx hb dX9_saving_110 (by decide) ?_
      refine lv_iload_n hx hb dX9_saving_112 rfl (lv_at hl 5 rfl) ?_
      refine lv_imul hx hb dX9_saving_113 ?_
      refine xl_i (y := nI (10 * j)) (pk_mul 10 j) ?_
      refine lv_iadd hx hb dX9_saving_114 ?_
      refine xl_i (y := nI (13 + (10 * j))) (nI_add 13 (10 * j)) ?_
      refine lv_iload_n hx hb dX9_saving_115 rfl (lv_at hl 6 rfl) ?_
      refine lv_iadd hx hb dX9_saving_116 ?_
      refine xl_i (y := nI (13 + (10 * j) + k)) (nI_add (13 + (10 * j)) k) ?_
      refine lv_iload hx hb dX9_saving_117 (lv_at hl 3 rfl) ?_
      refine va_iast hx hb hK hP hD hS 2 0 rfl rfl (vp_in_nI (show 13 + (10 * j) + k < 449 by omega) (by decide)) dX9_saving_119 (fun H locs hP hD hS => ?_)
      rw [nI_clamp (show 13 + (10 * j) + k < 2 ^ 31 by omega)] at hP hD
      obtain ⟨f_13, ef_13⟩ : ∃ g, g = upd f_3 (13 + (10 * j) + k) (fal (10 * j + k)) := ⟨_, rfl⟩
      rw [← ef_13] at hP hD
      have k0_f_13 : f_13 0 = nI P := by rw [ef_13]; exact (pk_un (show 0 ≠ (13 + (10 * j) + k) by omega)).trans k0_f_3
      have k1_f_13 : f_13 1 = nI Rn := by rw [ef_13]; exact (pk_un (show 1 ≠ (13 + (10 * j) + k) by omega)).trans k1_f_3
      have k2_f_13 : f_13 2 = nI Wn := by rw [ef_13]; exact (pk_un (show 2 ≠ (13 + (10 * j) + k) by omega)).trans k2_f_3
      have kS_f_13 : SI f_13 := by rw [ef_13]; exact SI.upd kS_f_3 (okS.low (show (13 + (10 * j) + k) < 313 by omega))
      have kM_f_13 : MI f_13 := by rw [ef_13]; exact MI.upd kM_f_3 (fun _ _ => hsG.lb hsM (by omega))
      have kR_f_13 : RI Rn f_13 := by rw [ef_13]; exact RI.upd kR_f_3 (fun r9 hr9 e9 => by omega)
      have kG_f_13 : FR P f_13 fae (upd (upd (upd fal (10 * j + k) (fal (10 * k + j))) (10 * k + j) (fal (10 * k + j))) (10 * j + k) (fal (10 * j + k))) fau fao farn farp fak fawn fawp fat fas := by rw [ef_13]; exact FR.pl kG_f_3 (show 10 * j + k < 100 by omega) (by omega)
      have hP : va_P D vwCl [(yfe, .inl (cI, 100, .inl fe2_7)), (h0, .inr (9, [.ref ys, .ref yk, .ref yo, .ref yt, .int mk0, .ref yfa, .ref yfe, .int mL2_5, .int mS2_11, .int mM, .ref yro, .ref yhe, .ref ygr, .int mF, .int mC, .int mY, .ref yta, .int (nI (mz)), .int (nI (mf)), .int (nI (mt)), .int mv, .int mw, .ref ywa, .ref ybi, .ref ysi, .ref ynu, .ref ymo])), (ys, .inl (cI, 449, .inl f_13)), (yfa, .inl (cI, 100, .inl fa2_6))] H := hP
      have hD : va_D A [(yfe, .inl (cI, 100, .inl fe2_7)), (h0, .inr (9, [.ref ys, .ref yk, .ref yo, .ref yt, .int mk0, .ref yfa, .ref yfe, .int mL2_5, .int mS2_11, .int mM, .ref yro, .ref yhe, .ref ygr, .int mF, .int mC, .int mY, .ref yta, .int (nI (mz)), .int (nI (mf)), .int (nI (mt)), .int mv, .int mw, .ref ywa, .ref ybi, .ref ysi, .ref ynu, .ref ymo])), (ys, .inl (cI, 449, .inl f_13)), (yfa, .inl (cI, 100, .inl fa2_6))] := hD
      refine lv_aload_n hx hb dX9_saving_120 rfl (lv_at hl 4 rfl) ?_
      refine xg hF kf_X9_7 hK hP 1 rfl rfl dX9_saving_121 ?_
      refine lv_bipush (v := 13) hx hb dX9_saving_124 (by decide) ?_
      refine lv_bipush (v := 10) hx hb dX9_saving_126 (by decide) ?_
      refine lv_iload_n hx hb dX9_saving_128 rfl (lv_at hl 6 rfl) ?_
      refine lv_imul hx hb dX9_saving_129 ?_
      refine xl_i (y := nI (10 * k)) (pk_mul 10 k) ?_
      refine lv_iadd hx hb dX9_saving_130 ?_
      refine xl_i (y := nI (13 + (10 * k))) (nI_add 13 (10 * k)) ?_
      refine lv_iload_n hx hb dX9_saving_131 rfl (lv_at hl 5 rfl) ?_
      refine lv_iadd hx hb dX9_saving_132 ?_
      refine xl_i (y := nI (13 + (10 * k) + j)) (nI_add (13 + (10 * k)) j) ?_
      refine lv_iload hx hb dX9_saving_133 (lv_at hl 2 rfl) ?_
      refine va_iast hx hb hK hP hD hS 2 0 rfl rfl (vp_in_nI (show 13 + (10 * k) + j < 449 by omega) (by decide)) dX9_saving_135 (fun H locs hP hD hS => ?_)
      rw [nI_clamp (show 13 + (10 * k) + j < 2 ^ 31 by omega)] at hP hD
      obtain ⟨f_14, ef_14⟩ : ∃ g, g = upd f_13 (13 + (10 * k) + j) (fal (10 * k + j)) := ⟨_, rfl⟩
      rw [← ef_14] at hP hD
      have k0_f_14 : f_14 0 = nI P := by rw [ef_14]; exact (pk_un (show 0 ≠ (13 + (10 * k) + j) by omega)).trans k0_f_13
      have k1_f_14 : f_14 1 = nI Rn := by rw [ef_14]; exact (pk_un (show 1 ≠ (13 + (10 * k) + j) by omega)).trans k1_f_13
      have k2_f_14 : f_14 2 = nI Wn := by rw [ef_14]; exact (pk_un (show 2 ≠ (13 + (10 * k) + j) by omega)).trans k2_f_13
      have kS_f_14 : SI f_14 := by rw [ef_14]; exact SI.upd kS_f_13 (okS.low (show (13 + (10 * k) + j) < 313 by omega))
      have kM_f_14 : MI f_14 := by rw [ef_14]; exact MI.upd kM_f_13 (fun _ _ => hsG.lb hsM (by omega))
      have kR_f_14 : RI Rn f_14 := by rw [ef_14]; exact RI.upd kR_f_13 (fun r9 hr9 e9 => by omega)
      have kG_f_14 : FR P f_14 fae (upd (upd (upd (upd fal (10 * j + k) (fal (10 * k + j))) (10 * k + j) (fal (10 * k + j))) (10 * j + k) (fal (10 * j + k))) (10 * k + j) (fal (10 * k + j))) fau fao farn farp fak fawn fawp fat fas := by rw [ef_14]; exact FR.pl kG_f_13 (show 10 * k + j < 100 by omega) (by omega)
      have hP : va_P D vwCl [(yfe, .inl (cI, 100, .inl fe2_7)), (h0, .inr (9, [.ref ys, .ref yk, .ref yo, .ref yt, .int mk0, .ref yfa, .ref yfe, .int mL2_5, .int mS2_11, .int mM, .ref yro, .ref yhe, .ref ygr, .int mF, .int mC, .int mY, .ref yta, .int (nI (mz)), .int (nI (mf)), .int (nI (mt)), .int mv, .int mw, .ref ywa, .ref ybi, .ref ysi, .ref ynu, .ref ymo])), (ys, .inl (cI, 449, .inl f_14)), (yfa, .inl (cI, 100, .inl fa2_6))] H := hP
      have hD : va_D A [(yfe, .inl (cI, 100, .inl fe2_7)), (h0, .inr (9, [.ref ys, .ref yk, .ref yo, .ref yt, .int mk0, .ref yfa, .ref yfe, .int mL2_5, .int mS2_11, .int mM, .ref yro, .ref yhe, .ref ygr, .int mF, .int mC, .int mY, .ref yta, .int (nI (mz)), .int (nI (mf)), .int (nI (mt)), .int mv, .int mw, .ref ywa, .ref ybi, .ref ysi, .ref ynu, .ref ymo])), (ys, .inl (cI, 449, .inl f_14)), (yfa, .inl (cI, 100, .inl fa2_6))] := hD
      refine lv_iload hx hb dX9_saving_136 (lv_at hl 0 rfl) ?_
      exact W.iret (v := x_12) hx hb hr (fun t ht hW => ⟨⟨x_12, (mL2_5, mS2_11, f_14, fa2_6, fe2_7), rfl, ⟨trivial, k0_f_14, k1_f_14, k2_f_14, kS_f_14, kM_f_14, hsp, hsr, hsw, kR_f_14, (FR.cl kG_f_14 sv_l rfl)⟩, by rw [ht]; exact hP.sub [1, 2, 3, 0] rfl, hD.sub [1, 2, 3, 0] (by decide) rfl⟩, hS.F ht⟩) hS.2.2 dX9_saving_138 hlk
    · skip
      refine lv_ldc (v := 100000000) hx hb hown (hu _ uw701) dX9_saving_91 ?_
      refine lv_goto (tgt := 102) hx hb dX9_saving_93 (by decide) ?_
      refine lv_istore (lv' := [(7, .int 100000000), (6, .int (fal (10 * k + j))), (5, .int (fal (10 * k + j))), (4, .int (fal (10 * j + k))), (0, .ref h0), (1, .int (nI (j))), (2, .int (nI (k))), (3, .int p0)]) hx hb dX9_saving_102 hl (by decide) rfl (fun ls hl => ?_)
      refine lv_aload_n hx hb dX9_saving_104 rfl (lv_at hl 4 rfl) ?_
      refine xg hF kf_X9_7 hK hP 0 rfl rfl dX9_saving_105 ?_
      refine lv_bipush (v := 13) hx hb dX9_saving_108 (by decide) ?_
      refine lv_bipush (v := 10) hx hb dX9_saving_110 (by decide) ?_
      refine lv_iload_n hx hb dX9_saving_112 rfl (lv_at hl 5 rfl) ?_
      refine lv_imul hx hb dX9_saving_113 ?_
      refine xl_i (y := nI (10 * j)) (pk_mul 10 j) ?_
      refine lv_iadd hx hb dX9_saving_114 ?_
      refine xl_i (y := nI (13 + (10 * j))) (nI_add 13 (10 * j)) ?_
      refine lv_iload_n hx hb dX9_saving_115 rfl (lv_at hl 6 rfl) ?_
      refine lv_iadd hx hb dX9_saving_116 ?_
      refine xl_i (y := nI (13 + (10 * j) + k)) (nI_add (13 + (10 * j)) k) ?_
      refine lv_iload hx hb dX9_saving_117 (lv_at hl 3 rfl) ?_
      refine va_iast hx hb hK hP hD hS 1 0 rfl rfl (vp_in_nI (show 13 + (10 * j) + k < 449 by omega) (by decide)) dX9_saving_119 (fun H locs hP hD hS => ?_)
      rw [nI_clamp (show 13 + (10 * j) + k < 2 ^ 31 by omega)] at hP hD
      obtain ⟨f_15, ef_15⟩ : ∃ g, g = upd f_3 (13 + (10 * j) + k) (fal (10 * j + k)) := ⟨_, rfl⟩
      rw [← ef_15] at hP hD
      have k0_f_15 : f_15 0 = nI P := by rw [ef_15]; exact (pk_un (show 0 ≠ (13 + (10 * j) + k) by omega)).trans k0_f_3
      have k1_f_15 : f_15 1 = nI Rn := by rw [ef_15]; exact (pk_un (show 1 ≠ (13 + (10 * j) + k) by omega)).trans k1_f_3
      have k2_f_15 : f_15 2 = nI Wn := by rw [ef_15]; exact (pk_un (show 2 ≠ (13 + (10 * j) + k) by omega)).trans k2_f_3
      have kS_f_15 : SI f_15 := by rw [ef_15]; exact SI.upd kS_f_3 (okS.low (show (13 + (10 * j) + k) < 313 by omega))
      have kM_f_15 : MI f_15 := by rw [ef_15]; exact MI.upd kM_f_3 (fun _ _ => hsG.lb hsM (by omega))
      have kR_f_15 : RI Rn f_15 := by rw [ef_15]; exact RI.upd kR_f_3 (fun r9 hr9 e9 => by omega)
      have kG_f_15 : FR P f_15 fae (upd (upd (upd fal (10 * j + k) (fal (10 * k + j))) (10 * k + j) (fal (10 * k + j))) (10 * j + k) (fal (10 * j + k))) fau fao farn farp fak fawn fawp fat fas := by rw [ef_15]; exact FR.pl kG_f_3 (show 10 * j + k < 100 by omega) (by omega)
      have hP : va_P D vwCl [(h0, .inr (9, [.ref ys, .ref yk, .ref yo, .ref yt, .int mk0, .ref yfa, .ref yfe, .int mL2_5, .int mS, .int mM, .ref yro, .ref yhe, .ref ygr, .int mF, .int mC, .int mY, .ref yta, .int (nI (mz)), .int (nI (mf)), .int (nI (mt)), .int mv, .int mw, .ref ywa, .ref ybi, .ref ysi, .ref ynu, .ref ymo])), (ys, .inl (cI, 449, .inl f_15)), (yfa, .inl (cI, 100, .inl fa2_6)), (yfe, .inl (cI, 100, .inl fe2_7))] H := hP
      have hD : va_D A [(h0, .inr (9, [.ref ys, .ref yk, .ref yo, .ref yt, .int mk0, .ref yfa, .ref yfe, .int mL2_5, .int mS, .int mM, .ref yro, .ref yhe, .ref ygr, .int mF, .int mC, .int mY, .ref yta, .int (nI (mz)), .int (nI (mf)), .int (nI (mt)), .int mv, .int mw, .ref ywa, .ref ybi, .ref ysi, .ref ynu, .ref ymo])), (ys, .inl (cI, 449, .inl f_15)), (yfa, .inl (cI, 100, .inl fa2_6)), (yfe, .inl (cI, 100, .inl fe2_7))] := hD
      refine lv_aload_n hx hb dX9_saving_120 rfl (lv_at hl 4 rfl) ?_
      refine xg hF kf_X9_7 hK hP 0 rfl rfl dX9_saving_121 ?_
      refine lv_bipush (v := 13) hx hb dX9_saving_124 (by decide) ?_
      refine lv_bipush (v := 10) hx hb dX9_saving_126 (by decide) ?_
      refine lv_iload_n hx hb dX9_saving_128 rfl (lv_at hl 6 rfl) ?_
      refine lv_imul hx hb dX9_saving_129 ?_
      refine xl_i (y := nI (10 * k)) (pk_mul 10 k) ?_
      refine lv_iadd hx hb dX9_saving_130 ?_
      refine xl_i (y := nI (13 + (10 * k))) (nI_add 13 (10 * k)) ?_
      refine lv_iload_n hx hb dX9_saving_131 rfl (lv_at hl 5 rfl) ?_
      refine lv_iadd hx hb dX9_saving_132 ?_
      refine xl_i (y := nI (13 + (10 * k) + j)) (nI_add (13 + (10 * k)) j) ?_
      refine lv_iload hx hb dX9_saving_133 (lv_at hl 2 rfl) ?_
      refine va_iast hx hb hK hP hD hS 1 0 rfl rfl (vp_in_nI (show 13 + (10 * k) + j < 449 by omega) (by decide)) dX9_saving_135 (fun H locs hP hD hS => ?_)
      rw [nI_clamp (show 13 + (10 * k) + j < 2 ^ 31 by omega)] at hP hD
      obtain ⟨f_16, ef_16⟩ : ∃ g, g = upd f_15 (13 + (10 * k) + j) (fal (10 * k + j)) := ⟨_, rfl⟩
      rw [← ef_16] at hP hD
      have k0_f_16 : f_16 0 = nI P := by rw [ef_16]; exact (pk_un (show 0 ≠ (13 + (10 * k) + j) by omega)).trans k0_f_15
      have k1_f_16 : f_16 1 = nI Rn := by rw [ef_16]; exact (pk_un (show 1 ≠ (13 + (10 * k) + j) by omega)).trans k1_f_15
      have k2_f_16 : f_16 2 = nI Wn := by rw [ef_16]; exact (pk_un (show 2 ≠ (13 + (10 * k) + j) by omega)).trans k2_f_15
      have kS_f_16 : SI f_16 := by rw [ef_16]; exact SI.upd kS_f_15 (okS.low (show (13 + (10 * k) + j) < 313 by omega))
      have kM_f_16 : MI f_16 := by rw [ef_16]; exact MI.upd kM_f_15 (fun _ _ => hsG.lb hsM (by omega))
      have kR_f_16 : RI Rn f_16 := by rw [ef_16]; exact RI.upd kR_f_15 (fun r9 hr9 e9 => by omega)
      have kG_f_16 : FR P f_16 fae (upd (upd (upd (upd fal (10 * j + k) (fal (10 * k + j))) (10 * k + j) (fal (10 * k + j))) (10 * j + k) (fal (10 * j + k))) (10 * k + j) (fal (10 * k + j))) fau fao farn farp fak fawn fawp fat fas := by rw [ef_16]; exact FR.pl kG_f_15 (show 10 * k + j < 100 by omega) (by omega)
      have hP : va_P D vwCl [(h0, .inr (9, [.ref ys, .ref yk, .ref yo, .ref yt, .int mk0, .ref yfa, .ref yfe, .int mL2_5, .int mS, .int mM, .ref yro, .ref yhe, .ref ygr, .int mF, .int mC, .int mY, .ref yta, .int (nI (mz)), .int (nI (mf)), .int (nI (mt)), .int mv, .int mw, .ref ywa, .ref ybi, .ref ysi, .ref ynu, .ref ymo])), (ys, .inl (cI, 449, .inl f_16)), (yfa, .inl (cI, 100, .inl fa2_6)), (yfe, .inl (cI, 100, .inl fe2_7))] H := hP
      have hD : va_D A [(h0, .inr (9, [.ref ys, .ref yk, .ref yo, .ref yt, .int mk0, .ref yfa, .ref yfe, .int mL2_5, .int mS, .int mM, .ref yro, .ref yhe, .ref ygr, .int mF, .int mC, .int mY, .ref yta, .int (nI (mz)), .int (nI (mf)), .int (nI (mt)), .int mv, .int mw, .ref ywa, .ref ybi, .ref ysi, .ref ynu, .ref ymo])), (ys, .inl (cI, 449, .inl f_16)), (yfa, .inl (cI, 100, .inl fa2_6)), (yfe, .inl (cI, 100, .inl fe2_7))] := hD
      refine lv_iload hx hb dX9_saving_136 (lv_at hl 0 rfl) ?_
      exact W.iret (v := 100000000) hx hb hr (fun t ht hW => ⟨⟨100000000, (mL2_5, mS, f_16, fa2_6, fe2_7), rfl, ⟨trivial, k0_f_16, k1_f_16, k2_f_16, kS_f_16, kM_f_16, hsp, hsr, hsw, kR_f_16, (FR.cl kG_f_16 sv_l rfl)⟩, by rw [ht]; exact hP.sub [0, 1, 2, 3] rfl, hD.sub [0, 1, 2, 3] (by decide) rfl⟩, hS.F ht⟩) hS.2.2 dX9_saving_138 hlk
  · skip
    refine lv_iload hx hb dX9_saving_39 (lv_at hl 1 rfl) ?_
    refine lv_goto (tgt := 46) hx hb dX9_saving_41 (by decide) ?_
    refine lv_istore (lv' := [(6, .int (fal (10 * j + k))), (5, .int (fal (10 * k + j))), (4, .int (fal (10 * j + k))), (0, .ref h0), (1, .int (nI (j))), (2, .int (nI (k))), (3, .int p0)]) hx hb dX9_saving_46 hl (by decide) rfl (fun ls hl => ?_)
    refine lv_aload_n hx hb dX9_saving_48 rfl (lv_at hl 3 rfl) ?_
    refine xg hF kf_X9_7 hK hP 0 rfl rfl dX9_saving_49 ?_
    refine lv_bipush (v := 13) hx hb dX9_saving_52 (by decide) ?_
    refine lv_bipush (v := 10) hx hb dX9_saving_54 (by decide) ?_
    refine lv_iload_n hx hb dX9_saving_56 rfl (lv_at hl 4 rfl) ?_
    refine lv_imul hx hb dX9_saving_57 ?_
    refine xl_i (y := nI (10 * j)) (pk_mul 10 j) ?_
    refine lv_iadd hx hb dX9_saving_58 ?_
    refine xl_i (y := nI (13 + (10 * j))) (nI_add 13 (10 * j)) ?_
    refine lv_iload_n hx hb dX9_saving_59 rfl (lv_at hl 5 rfl) ?_
    refine lv_iadd hx hb dX9_saving_60 ?_
    refine xl_i (y := nI (13 + (10 * j) + k)) (nI_add (13 + (10 * j)) k) ?_
    refine lv_iload hx hb dX9_saving_61 (lv_at hl 0 rfl) ?_
    refine va_iast hx hb hK hP hD hS 1 0 rfl rfl (vp_in_nI (show 13 + (10 * j) + k < 449 by omega) (by decide)) dX9_saving_63 (fun H locs hP hD hS => ?_)
    rw [nI_clamp (show 13 + (10 * j) + k < 2 ^ 31 by omega)] at hP hD
    obtain ⟨f_17, ef_17⟩ : ∃ g, g = upd ms (13 + (10 * j) + k) (fal (10 * j + k)) := ⟨_, rfl⟩
    rw [← ef_17] at hP hD
    have k0_f_17 : f_17 0 = nI P := by rw [ef_17]; exact (pk_un (show 0 ≠ (13 + (10 * j) + k) by omega)).trans hs0
    have k1_f_17 : f_17 1 = nI Rn := by rw [ef_17]; exact (pk_un (show 1 ≠ (13 + (10 * j) + k) by omega)).trans hs1
    have k2_f_17 : f_17 2 = nI Wn := by rw [ef_17]; exact (pk_un (show 2 ≠ (13 + (10 * j) + k) by omega)).trans hs2
    have kS_f_17 : SI f_17 := by rw [ef_17]; exact SI.upd hsS (okS.low (show (13 + (10 * j) + k) < 313 by omega))
    have kM_f_17 : MI f_17 := by rw [ef_17]; exact MI.upd hsM (fun _ _ => hsG.lb hsM (by omega))
    have kR_f_17 : RI Rn f_17 := by rw [ef_17]; exact RI.upd hsR (fun r9 hr9 e9 => by omega)
    have kG_f_17 : FR P f_17 fae (upd fal (10 * j + k) (fal (10 * j + k))) fau fao farn farp fak fawn fawp fat fas := by rw [ef_17]; exact FR.pl hsG (show 10 * j + k < 100 by omega) (by omega)
    have hP : va_P D vwCl [(h0, .inr (9, [.ref ys, .ref yk, .ref yo, .ref yt, .int mk0, .ref yfa, .ref yfe, .int mL, .int mS, .int mM, .ref yro, .ref yhe, .ref ygr, .int mF, .int mC, .int mY, .ref yta, .int (nI (mz)), .int (nI (mf)), .int (nI (mt)), .int mv, .int mw, .ref ywa, .ref ybi, .ref ysi, .ref ynu, .ref ymo])), (ys, .inl (cI, 449, .inl f_17)), (yfa, .inl (cI, 100, .inl fa)), (yfe, .inl (cI, 100, .inl fe))] H := hP
    have hD : va_D A [(h0, .inr (9, [.ref ys, .ref yk, .ref yo, .ref yt, .int mk0, .ref yfa, .ref yfe, .int mL, .int mS, .int mM, .ref yro, .ref yhe, .ref ygr, .int mF, .int mC, .int mY, .ref yta, .int (nI (mz)), .int (nI (mf)), .int (nI (mt)), .int mv, .int mw, .ref ywa, .ref ybi, .ref ysi, .ref ynu, .ref ymo])), (ys, .inl (cI, 449, .inl f_17)), (yfa, .inl (cI, 100, .inl fa)), (yfe, .inl (cI, 100, .inl fe))] := hD
    refine lv_aload_n hx hb dX9_saving_64 rfl (lv_at hl 3 rfl) ?_
    refine xg hF kf_X9_7 hK hP 0 rfl rfl dX9_saving_65 ?_
    refine lv_bipush (v := 13) hx hb dX9_saving_68 (by decide) ?_
    refine lv_bipush (v := 10) hx hb dX9_saving_70 (by decide) ?_
    refine lv_iload_n hx hb dX9_saving_72 rfl (lv_at hl 5 rfl) ?_
    refine lv_imul hx hb dX9_saving_73 ?_
    refine xl_i (y := nI (10 * k)) (pk_mul 10 k) ?_
    refine lv_iadd hx hb dX9_saving_74 ?_
    refine xl_i (y := nI (13 + (10 * k))) (nI_add 13 (10 * k)) ?_
    refine lv_iload_n hx hb dX9_saving_75 rfl (lv_at hl 4 rfl) ?_
    refine lv_iadd hx hb dX9_saving_76 ?_
    refine xl_i (y := nI (13 + (10 * k) + j)) (nI_add (13 + (10 * k)) j) ?_
    refine lv_iload hx hb dX9_saving_77 (lv_at hl 0 rfl) ?_
    refine va_iast hx hb hK hP hD hS 1 0 rfl rfl (vp_in_nI (show 13 + (10 * k) + j < 449 by omega) (by decide)) dX9_saving_79 (fun H locs hP hD hS => ?_)
    rw [nI_clamp (show 13 + (10 * k) + j < 2 ^ 31 by omega)] at hP hD
    obtain ⟨f_18, ef_18⟩ : ∃ g, g = upd f_17 (13 + (10 * k) + j) (fal (10 * j + k)) := ⟨_, rfl⟩
    rw [← ef_18] at hP hD
    have k0_f_18 : f_18 0 = nI P := by rw [ef_18]; exact (pk_un (show 0 ≠ (13 + (10 * k) + j) by omega)).trans k0_f_17
    have k1_f_18 : f_18 1 = nI Rn := by rw [ef_18]; exact (pk_un (show 1 ≠ (13 + (10 * k) + j) by omega)).trans k1_f_17
    have k2_f_18 : f_18 2 = nI Wn := by rw [ef_18]; exact (pk_un (show 2 ≠ (13 + (10 * k) + j) by omega)).trans k2_f_17
    have kS_f_18 : SI f_18 := by rw [ef_18]; exact SI.upd kS_f_17 (okS.low (show (13 + (10 * k) + j) < 313 by omega))
    have kM_f_18 : MI f_18 := by rw [ef_18]; exact MI.upd kM_f_17 (fun _ _ => hsG.lb hsM (by omega))
    have kR_f_18 : RI Rn f_18 := by rw [ef_18]; exact RI.upd kR_f_17 (fun r9 hr9 e9 => by omega)
    have kG_f_18 : FR P f_18 fae (upd (upd fal (10 * j + k) (fal (10 * j + k))) (10 * k + j) (fal (10 * j + k))) fau fao farn farp fak fawn fawp fat fas := by rw [ef_18]; exact FR.pl kG_f_17 (show 10 * k + j < 100 by omega) (by omega)
    have hP : va_P D vwCl [(h0, .inr (9, [.ref ys, .ref yk, .ref yo, .ref yt, .int mk0, .ref yfa, .ref yfe, .int mL, .int mS, .int mM, .ref yro, .ref yhe, .ref ygr, .int mF, .int mC, .int mY, .ref yta, .int (nI (mz)), .int (nI (mf)), .int (nI (mt)), .int mv, .int mw, .ref ywa, .ref ybi, .ref ysi, .ref ynu, .ref ymo])), (ys, .inl (cI, 449, .inl f_18)), (yfa, .inl (cI, 100, .inl fa)), (yfe, .inl (cI, 100, .inl fe))] H := hP
    have hD : va_D A [(h0, .inr (9, [.ref ys, .ref yk, .ref yo, .ref yt, .int mk0, .ref yfa, .ref yfe, .int mL, .int mS, .int mM, .ref yro, .ref yhe, .ref ygr, .int mF, .int mC, .int mY, .ref yta, .int (nI (mz)), .int (nI (mf)), .int (nI (mt)), .int mv, .int mw, .ref ywa, .ref ybi, .ref ysi, .ref ynu, .ref ymo])), (ys, .inl (cI, 449, .inl f_18)), (yfa, .inl (cI, 100, .inl fa)), (yfe, .inl (cI, 100, .inl fe))] := hD
    refine lv_aload_n hx hb dX9_saving_80 rfl (lv_at hl 3 rfl) ?_
    refine xc_Vv (wr := []) hF (c_X9_findFar l D cI cJ cZ cS ta sa sv H.size h0 ys yk yo yt mk0 yfa yfe mL mS mM yro yhe ygr mF mC mY yta mz mf mt mv mw ywa ybi ysi ynu ymo f_18 fa fe P Rn Wn fae (upd (upd fal (10 * j + k) (fal (10 * j + k))) (10 * k + j) (fal (10 * j + k))) fau fao farn farp fak fawn fawp fat fas k0_f_18 k1_f_18 k2_f_18 kS_f_18 kM_f_18 hsp hsr hsw kR_f_18 kG_f_18) kv_X9_113 ⟨rfl, rfl, Nat.le_of_ble_eq_true rfl, Nat.le_of_ble_eq_true rfl⟩ ⟨Nat.le_of_ble_eq_true rfl, Nat.le_of_ble_eq_true rfl⟩ hK hN hZ hP hD hS hA [0, 1, 2, 3] [] rfl rfl rfl rfl (by decide) 0 rfl rfl rfl rfl hl.1 rfl (Nat.le_of_ble_eq_true rfl) dX9_saving_81 (fun u_r_19 H locs hw_r_19 hP hD hS => ?_)
    obtain ⟨mL2_20, fa2_21, fe2_22⟩ := u_r_19
    try dsimp only at hw_r_19
    have i_23 := hw_r_19
    have hP : va_P D vwCl [(h0, .inr (9, [.ref ys, .ref yk, .ref yo, .ref yt, .int mk0, .ref yfa, .ref yfe, .int mL2_20, .int mS, .int mM, .ref yro, .ref yhe, .ref ygr, .int mF, .int mC, .int mY, .ref yta, .int (nI (mz)), .int (nI (mf)), .int (nI (mt)), .int mv, .int mw, .ref ywa, .ref ybi, .ref ysi, .ref ynu, .ref ymo])), (ys, .inl (cI, 449, .inl f_18)), (yfa, .inl (cI, 100, .inl fa2_21)), (yfe, .inl (cI, 100, .inl fe2_22))] H := hP
    have hD : va_D A [(h0, .inr (9, [.ref ys, .ref yk, .ref yo, .ref yt, .int mk0, .ref yfa, .ref yfe, .int mL2_20, .int mS, .int mM, .ref yro, .ref yhe, .ref ygr, .int mF, .int mC, .int mY, .ref yta, .int (nI (mz)), .int (nI (mf)), .int (nI (mt)), .int mv, .int mw, .ref ywa, .ref ybi, .ref ysi, .ref ynu, .ref ymo])), (ys, .inl (cI, 449, .inl f_18)), (yfa, .inl (cI, 100, .inl fa2_21)), (yfe, .inl (cI, 100, .inl fe2_22))] := hD
    refine lv_aload_n hx hb dX9_saving_84 rfl (lv_at hl 3 rfl) ?_
    refine xg hF kf_X9_109 hK hP 0 rfl rfl dX9_saving_85 ?_
    refine lv_if_eq (tgt := 96) hx hb dX9_saving_88 (by decide) (fun c_24 => ?_) (fun c_24 => ?_)
    · skip
      refine lv_iload_n hx hb dX9_saving_96 rfl (lv_at hl 6 rfl) ?_
      refine lv_aload_n hx hb dX9_saving_97 rfl (lv_at hl 3 rfl) ?_
      refine xc_Vi (wr := [(yfe, .inl (cI, 100, .inl fe2_22))]) hF (c_X9_tripOfHome l D cI cJ cZ cS ta sa sv H.size h0 ys yk yo yt mk0 yfa yfe mL2_20 mS mM yro yhe ygr mF mC mY yta mz mf mt mv mw ywa ybi ysi ynu ymo f_18 fa2_21 P Rn Wn fae (upd (upd fal (10 * j + k) (fal (10 * j + k))) (10 * k + j) (fal (10 * j + k))) fau fao farn farp fak fawn fawp fat fas k0_f_18 k1_f_18 k2_f_18 kS_f_18 kM_f_18 hsp hsr hsw kR_f_18 kG_f_18) kv_X9_226 ⟨rfl, rfl, Nat.le_of_ble_eq_true rfl, Nat.le_of_ble_eq_true rfl⟩ ⟨Nat.le_of_ble_eq_true rfl, Nat.le_of_ble_eq_true rfl⟩ hK hN hZ hP hD hS hA [0, 1, 2] [3] rfl rfl rfl rfl (by decide) 0 rfl rfl rfl rfl hl.1 rfl (Nat.le_of_ble_eq_true rfl) dX9_saving_98 (fun r_25 u_r_25 H locs hw_r_25 hP hD hS => ?_)
      obtain ⟨mS2_26, rfl⟩ : ∃ z, z = u_r_25 := ⟨_, rfl⟩
      try dsimp only at hw_r_25
      have hP : va_P D vwCl [(yfe, .inl (cI, 100, .inl fe2_22)), (h0, .inr (9, [.ref ys, .ref yk, .ref yo, .ref yt, .int mk0, .ref yfa, .ref yfe, .int mL2_20, .int mS2_26, .int mM, .ref yro, .ref yhe, .ref ygr, .int mF, .int mC, .int mY, .ref yta, .int (nI (mz)), .int (nI (mf)), .int (nI (mt)), .int mv, .int mw, .ref ywa, .ref ybi, .ref ysi, .ref ynu, .ref ymo])), (ys, .inl (cI, 449, .inl f_18)), (yfa, .inl (cI, 100, .inl fa2_21))] H := hP
      have hD : va_D A [(yfe, .inl (cI, 100, .inl fe2_22)), (h0, .inr (9, [.ref ys, .ref yk, .ref yo, .ref yt, .int mk0, .ref yfa, .ref yfe, .int mL2_20, .int mS2_26, .int mM, .ref yro, .ref yhe, .ref ygr, .int mF, .int mC, .int mY, .ref yta, .int (nI (mz)), .int (nI (mf)), .int (nI (mt)), .int mv, .int mw, .ref ywa, .ref ybi, .ref ysi, .ref ynu, .ref ymo])), (ys, .inl (cI, 449, .inl f_18)), (yfa, .inl (cI, 100, .inl fa2_21))] := hD
      refine lv_isub hx hb dX9_saving_101 ?_
      refine lv_topi (fun x_27 ex_27 => ?_)
      refine lv_istore (lv' := [(7, .int x_27), (6, .int (fal (10 * j + k))), (5, .int (fal (10 * k + j))), (4, .int (fal (10 * j + k))), (0, .ref h0), (1, .int (nI (j))), (2, .int (nI (k))), (3, .int p0)]) hx hb dX9_saving_102 hl (by decide) rfl (fun ls hl => ?_)
      refine lv_aload_n hx hb dX9_saving_104 rfl (lv_at hl 4 rfl) ?_
      refine xg hF kf_X9_7 hK hP 1 rfl rfl dX9_saving_105 ?_
      refine lv_bipush (v := 13) hx hb dX9_saving_108 (by decide) ?_
      refine lv_bipush (v := 10) hx hb dX9_saving_110 (by decide) ?_
      refine lv_iload_n hx hb dX9_saving_112 rfl (lv_at hl 5 rfl) ?_
      refine lv_imul hx hb dX9_saving_113 ?_
      refine xl_i (y := nI (10 * j)) (pk_mul 10 j) ?_
      refine lv_iadd hx hb dX9_saving_114 ?_
      refine xl_i (y := nI (13 + (10 * j))) (nI_add 13 (10 * j)) ?_
      refine lv_iload_n hx hb dX9_saving_115 rfl (lv_at hl 6 rfl) ?_
      refine lv_iadd hx hb dX9_saving_116 ?_
      refine xl_i (y := nI (13 + (10 * j) + k)) (nI_add (13 + (10 * j)) k) ?_
      refine lv_iload hx hb dX9_saving_117 (lv_at hl 3 rfl) ?_
      refine va_iast hx hb hK hP hD hS 2 0 rfl rfl (vp_in_nI (show 13 + (10 * j) + k < 449 by omega) (by decide)) dX9_saving_119 (fun H locs hP hD hS => ?_)
      rw [nI_clamp (show 13 + (10 * j) + k < 2 ^ 31 by omega)] at hP hD
      obtain ⟨f_28, ef_28⟩ : ∃ g, g = upd f_18 (13 + (10 * j) + k) (fal (10 * j + k)) := ⟨_, rfl⟩
      rw [← ef_28] at hP hD
      have k0_f_28 : f_28 0 = nI P := by rw [ef_28]; exact (pk_un (show 0 ≠ (13 + (10 * j) + k) by omega)).trans k0_f_18
      have k1_f_28 : f_28 1 = nI Rn := by rw [ef_28]; exact (pk_un (show 1 ≠ (13 + (10 * j) + k) by omega)).trans k1_f_18
      have k2_f_28 : f_28 2 = nI Wn := by rw [ef_28]; exact (pk_un (show 2 ≠ (13 + (10 * j) + k) by omega)).trans k2_f_18
      have kS_f_28 : SI f_28 := by rw [ef_28]; exact SI.upd kS_f_18 (okS.low (show (13 + (10 * j) + k) < 313 by omega))
      have kM_f_28 : MI f_28 := by rw [ef_28]; exact MI.upd kM_f_18 (fun _ _ => hsG.lb hsM (by omega))
      have kR_f_28 : RI Rn f_28 := by rw [ef_28]; exact RI.upd kR_f_18 (fun r9 hr9 e9 => by omega)
      have kG_f_28 : FR P f_28 fae (upd (upd (upd fal (10 * j + k) (fal (10 * j + k))) (10 * k + j) (fal (10 * j + k))) (10 * j + k) (fal (10 * j + k))) fau fao farn farp fak fawn fawp fat fas := by rw [ef_28]; exact FR.pl kG_f_18 (show 10 * j + k < 100 by omega) (by omega)
      have hP : va_P D vwCl [(yfe, .inl (cI, 100, .inl fe2_22)), (h0, .inr (9, [.ref ys, .ref yk, .ref yo, .ref yt, .int mk0, .ref yfa, .ref yfe, .int mL2_20, .int mS2_26, .int mM, .ref yro, .ref yhe, .ref ygr, .int mF, .int mC, .int mY, .ref yta, .int (nI (mz)), .int (nI (mf)), .int (nI (mt)), .int mv, .int mw, .ref ywa, .ref ybi, .ref ysi, .ref ynu, .ref ymo])), (ys, .inl (cI, 449, .inl f_28)), (yfa, .inl (cI, 100, .inl fa2_21))] H := hP
      have hD : va_D A [(yfe, .inl (cI, 100, .inl fe2_22)), (h0, .inr (9, [.ref ys, .ref yk, .ref yo, .ref yt, .int mk0, .ref yfa, .ref yfe, .int mL2_20, .int mS2_26, .int mM, .ref yro, .ref yhe, .ref ygr, .int mF, .int mC, .int mY, .ref yta, .int (nI (mz)), .int (nI (mf)), .int (nI (mt)), .int mv, .int mw, .ref ywa, .ref ybi, .ref ysi, .ref ynu, .ref ymo])), (ys, .inl (cI, 449, .inl f_28)), (yfa, .inl (cI, 100, .inl fa2_21))] := hD
      refine lv_aload_n hx hb dX9_saving_120 rfl (lv_at hl 4 rfl) ?_
      refine xg hF kf_X9_7 hK hP 1 rfl rfl dX9_saving_121 ?_
      refine lv_bipush (v := 13) hx hb dX9_saving_124 (by decide) ?_
      refine lv_bipush (v := 10) hx hb dX9_saving_126 (by decide) ?_
      refine lv_iload_n hx hb dX9_saving_128 rfl (lv_at hl 6 rfl) ?_
      refine lv_imul hx hb dX9_saving_129 ?_
      refine xl_i (y := nI (10 * k)) (pk_mul 10 k) ?_
      refine lv_iadd hx hb dX9_saving_130 ?_
      refine xl_i (y := nI (13 + (10 * k))) (nI_add 13 (10 * k)) ?_
      refine lv_iload_n hx hb dX9_saving_131 rfl (lv_at hl 5 rfl) ?_
      refine lv_iadd hx hb dX9_saving_132 ?_
      refine xl_i (y := nI (13 + (10 * k) + j)) (nI_add (13 + (10 * k)) j) ?_
      refine lv_iload hx hb dX9_saving_133 (lv_at hl 2 rfl) ?_
      refine va_iast hx hb hK hP hD hS 2 0 rfl rfl (vp_in_nI (show 13 + (10 * k) + j < 449 by omega) (by decide)) dX9_saving_135 (fun H locs hP hD hS => ?_)
      rw [nI_clamp (show 13 + (10 * k) + j < 2 ^ 31 by omega)] at hP hD
      obtain ⟨f_29, ef_29⟩ : ∃ g, g = upd f_28 (13 + (10 * k) + j) (fal (10 * k + j)) := ⟨_, rfl⟩
      rw [← ef_29] at hP hD
      have k0_f_29 : f_29 0 = nI P := by rw [ef_29]; exact (pk_un (show 0 ≠ (13 + (10 * k) + j) by omega)).trans k0_f_28
      have k1_f_29 : f_29 1 = nI Rn := by rw [ef_29]; exact (pk_un (show 1 ≠ (13 + (10 * k) + j) by omega)).trans k1_f_28
      have k2_f_29 : f_29 2 = nI Wn := by rw [ef_29]; exact (pk_un (show 2 ≠ (13 + (10 * k) + j) by omega)).trans k2_f_28
      have kS_f_29 : SI f_29 := by rw [ef_29]; exact SI.upd kS_f_28 (okS.low (show (13 + (10 * k) + j) < 313 by omega))
      have kM_f_29 : MI f_29 := by rw [ef_29]; exact MI.upd kM_f_28 (fun _ _ => hsG.lb hsM (by omega))
      have kR_f_29 : RI Rn f_29 := by rw [ef_29]; exact RI.upd kR_f_28 (fun r9 hr9 e9 => by omega)
      have kG_f_29 : FR P f_29 fae (upd (upd (upd (upd fal (10 * j + k) (fal (10 * j + k))) (10 * k + j) (fal (10 * j + k))) (10 * j + k) (fal (10 * j + k))) (10 * k + j) (fal (10 * k + j))) fau fao farn farp fak fawn fawp fat fas := by rw [ef_29]; exact FR.pl kG_f_28 (show 10 * k + j < 100 by omega) (by omega)
      have hP : va_P D vwCl [(yfe, .inl (cI, 100, .inl fe2_22)), (h0, .inr (9, [.ref ys, .ref yk, .ref yo, .ref yt, .int mk0, .ref yfa, .ref yfe, .int mL2_20, .int mS2_26, .int mM, .ref yro, .ref yhe, .ref ygr, .int mF, .int mC, .int mY, .ref yta, .int (nI (mz)), .int (nI (mf)), .int (nI (mt)), .int mv, .int mw, .ref ywa, .ref ybi, .ref ysi, .ref ynu, .ref ymo])), (ys, .inl (cI, 449, .inl f_29)), (yfa, .inl (cI, 100, .inl fa2_21))] H := hP
      have hD : va_D A [(yfe, .inl (cI, 100, .inl fe2_22)), (h0, .inr (9, [.ref ys, .ref yk, .ref yo, .ref yt, .int mk0, .ref yfa, .ref yfe, .int mL2_20, .int mS2_26, .int mM, .ref yro, .ref yhe, .ref ygr, .int mF, .int mC, .int mY, .ref yta, .int (nI (mz)), .int (nI (mf)), .int (nI (mt)), .int mv, .int mw, .ref ywa, .ref ybi, .ref ysi, .ref ynu, .ref ymo])), (ys, .inl (cI, 449, .inl f_29)), (yfa, .inl (cI, 100, .inl fa2_21))] := hD
      refine lv_iload hx hb dX9_saving_136 (lv_at hl 0 rfl) ?_
      exact W.iret (v := x_27) hx hb hr (fun t ht hW => ⟨⟨x_27, (mL2_20, mS2_26, f_29, fa2_21, fe2_22), rfl, ⟨trivial, k0_f_29, k1_f_29, k2_f_29, kS_f_29, kM_f_29, hsp, hsr, hsw, kR_f_29, (FR.cl kG_f_29 sv_l rfl)⟩, by rw [ht]; exact hP.sub [1, 2, 3, 0] rfl, hD.sub [1, 2, 3, 0] (by decide) rfl⟩, hS.F ht⟩) hS.2.2 dX9_saving_138 hlk
    · skip
      refine lv_ldc (v := 100000000) hx hb hown (hu _ uw701) dX9_saving_91 ?_
      refine lv_goto (tgt := 102) hx hb dX9_saving_93 (by decide) ?_
      refine lv_istore (lv' := [(7, .int 100000000), (6, .int (fal (10 * j + k))), (5, .int (fal (10 * k + j))), (4, .int (fal (10 * j + k))), (0, .ref h0), (1, .int (nI (j))), (2, .int (nI (k))), (3, .int p0)]) hx hb dX9_saving_102 hl (by decide) rfl (fun ls hl => ?_)
      refine lv_aload_n hx hb dX9_saving_104 rfl (lv_at hl 4 rfl) ?_
      refine xg hF kf_X9_7 hK hP 0 rfl rfl dX9_saving_105 ?_
      refine lv_bipush (v := 13) hx hb dX9_saving_108 (by decide) ?_
      refine lv_bipush (v := 10) hx hb dX9_saving_110 (by decide) ?_
      refine lv_iload_n hx hb dX9_saving_112 rfl (lv_at hl 5 rfl) ?_
      refine lv_imul hx hb dX9_saving_113 ?_
      refine xl_i (y := nI (10 * j)) (pk_mul 10 j) ?_
      refine lv_iadd hx hb dX9_saving_114 ?_
      refine xl_i (y := nI (13 + (10 * j))) (nI_add 13 (10 * j)) ?_
      refine lv_iload_n hx hb dX9_saving_115 rfl (lv_at hl 6 rfl) ?_
      refine lv_iadd hx hb dX9_saving_116 ?_
      refine xl_i (y := nI (13 + (10 * j) + k)) (nI_add (13 + (10 * j)) k) ?_
      refine lv_iload hx hb dX9_saving_117 (lv_at hl 3 rfl) ?_
      refine va_iast hx hb hK hP hD hS 1 0 rfl rfl (vp_in_nI (show 13 + (10 * j) + k < 449 by omega) (by decide)) dX9_saving_119 (fun H locs hP hD hS => ?_)
      rw [nI_clamp (show 13 + (10 * j) + k < 2 ^ 31 by omega)] at hP hD
      obtain ⟨f_30, ef_30⟩ : ∃ g, g = upd f_18 (13 + (10 * j) + k) (fal (10 * j + k)) := ⟨_, rfl⟩
      rw [← ef_30] at hP hD
      have k0_f_30 : f_30 0 = nI P := by rw [ef_30]; exact (pk_un (show 0 ≠ (13 + (10 * j) + k) by omega)).trans k0_f_18
      have k1_f_30 : f_30 1 = nI Rn := by rw [ef_30]; exact (pk_un (show 1 ≠ (13 + (10 * j) + k) by omega)).trans k1_f_18
      have k2_f_30 : f_30 2 = nI Wn := by rw [ef_30]; exact (pk_un (show 2 ≠ (13 + (10 * j) + k) by omega)).trans k2_f_18
      have kS_f_30 : SI f_30 := by rw [ef_30]; exact SI.upd kS_f_18 (okS.low (show (13 + (10 * j) + k) < 313 by omega))
      have kM_f_30 : MI f_30 := by rw [ef_30]; exact MI.upd kM_f_18 (fun _ _ => hsG.lb hsM (by omega))
      have kR_f_30 : RI Rn f_30 := by rw [ef_30]; exact RI.upd kR_f_18 (fun r9 hr9 e9 => by omega)
      have kG_f_30 : FR P f_30 fae (upd (upd (upd fal (10 * j + k) (fal (10 * j + k))) (10 * k + j) (fal (10 * j + k))) (10 * j + k) (fal (10 * j + k))) fau fao farn farp fak fawn fawp fat fas := by rw [ef_30]; exact FR.pl kG_f_18 (show 10 * j + k < 100 by omega) (by omega)
      have hP : va_P D vwCl [(h0, .inr (9, [.ref ys, .ref yk, .ref yo, .ref yt, .int mk0, .ref yfa, .ref yfe, .int mL2_20, .int mS, .int mM, .ref yro, .ref yhe, .ref ygr, .int mF, .int mC, .int mY, .ref yta, .int (nI (mz)), .int (nI (mf)), .int (nI (mt)), .int mv, .int mw, .ref ywa, .ref ybi, .ref ysi, .ref ynu, .ref ymo])), (ys, .inl (cI, 449, .inl f_30)), (yfa, .inl (cI, 100, .inl fa2_21)), (yfe, .inl (cI, 100, .inl fe2_22))] H := hP
      have hD : va_D A [(h0, .inr (9, [.ref ys, .ref yk, .ref yo, .ref yt, .int mk0, .ref yfa, .ref yfe, .int mL2_20, .int mS, .int mM, .ref yro, .ref yhe, .ref ygr, .int mF, .int mC, .int mY, .ref yta, .int (nI (mz)), .int (nI (mf)), .int (nI (mt)), .int mv, .int mw, .ref ywa, .ref ybi, .ref ysi, .ref ynu, .ref ymo])), (ys, .inl (cI, 449, .inl f_30)), (yfa, .inl (cI, 100, .inl fa2_21)), (yfe, .inl (cI, 100, .inl fe2_22))] := hD
      refine lv_aload_n hx hb dX9_saving_120 rfl (lv_at hl 4 rfl) ?_
      refine xg hF kf_X9_7 hK hP 0 rfl rfl dX9_saving_121 ?_
      refine lv_bipush (v := 13) hx hb dX9_saving_124 (by decide) ?_
      refine lv_bipush (v := 10) hx hb dX9_saving_126 (by decide) ?_
      refine lv_iload_n hx hb dX9_saving_128 rfl (lv_at hl 6 rfl) ?_
      refine lv_imul hx hb dX9_saving_129 ?_
      refine xl_i (y := nI (10 * k)) (pk_mul 10 k) ?_
      refine lv_iadd hx hb dX9_saving_130 ?_
      refine xl_i (y := nI (13 + (10 * k))) (nI_add 13 (10 * k)) ?_
      refine lv_iload_n hx hb dX9_saving_131 rfl (lv_at hl 5 rfl) ?_
      refine lv_iadd hx hb dX9_saving_132 ?_
      refine xl_i (y := nI (13 + (10 * k) + j)) (nI_add (13 + (10 * k)) j) ?_
      refine lv_iload hx hb dX9_saving_133 (lv_at hl 2 rfl) ?_
      refine va_iast hx hb hK hP hD hS 1 0 rfl rfl (vp_in_nI (show 13 + (10 * k) + j < 449 by omega) (by decide)) dX9_saving_135 (fun H locs hP hD hS => ?_)
      rw [nI_clamp (show 13 + (10 * k) + j < 2 ^ 31 by omega)] at hP hD
      obtain ⟨f_31, ef_31⟩ : ∃ g, g = upd f_30 (13 + (10 * k) + j) (fal (10 * k + j)) := ⟨_, rfl⟩
      rw [← ef_31] at hP hD
      have k0_f_31 : f_31 0 = nI P := by rw [ef_31]; exact (pk_un (show 0 ≠ (13 + (10 * k) + j) by omega)).trans k0_f_30
      have k1_f_31 : f_31 1 = nI Rn := by rw [ef_31]; exact (pk_un (show 1 ≠ (13 + (10 * k) + j) by omega)).trans k1_f_30
      have k2_f_31 : f_31 2 = nI Wn := by rw [ef_31]; exact (pk_un (show 2 ≠ (13 + (10 * k) + j) by omega)).trans k2_f_30
      have kS_f_31 : SI f_31 := by rw [ef_31]; exact SI.upd kS_f_30 (okS.low (show (13 + (10 * k) + j) < 313 by omega))
      have kM_f_31 : MI f_31 := by rw [ef_31]; exact MI.upd kM_f_30 (fun _ _ => hsG.lb hsM (by omega))
      have kR_f_31 : RI Rn f_31 := by rw [ef_31]; exact RI.upd kR_f_30 (fun r9 hr9 e9 => by omega)
      have kG_f_31 : FR P f_31 fae (upd (upd (upd (upd fal (10 * j + k) (fal (10 * j + k))) (10 * k + j) (fal (10 * j + k))) (10 * j + k) (fal (10 * j + k))) (10 * k + j) (fal (10 * k + j))) fau fao farn farp fak fawn fawp fat fas := by rw [ef_31]; exact FR.pl kG_f_30 (show 10 * k + j < 100 by omega) (by omega)
      have hP : va_P D vwCl [(h0, .inr (9, [.ref ys, .ref yk, .ref yo, .ref yt, .int mk0, .ref yfa, .ref yfe, .int mL2_20, .int mS, .int mM, .ref yro, .ref yhe, .ref ygr, .int mF, .int mC, .int mY, .ref yta, .int (nI (mz)), .int (nI (mf)), .int (nI (mt)), .int mv, .int mw, .ref ywa, .ref ybi, .ref ysi, .ref ynu, .ref ymo])), (ys, .inl (cI, 449, .inl f_31)), (yfa, .inl (cI, 100, .inl fa2_21)), (yfe, .inl (cI, 100, .inl fe2_22))] H := hP
      have hD : va_D A [(h0, .inr (9, [.ref ys, .ref yk, .ref yo, .ref yt, .int mk0, .ref yfa, .ref yfe, .int mL2_20, .int mS, .int mM, .ref yro, .ref yhe, .ref ygr, .int mF, .int mC, .int mY, .ref yta, .int (nI (mz)), .int (nI (mf)), .int (nI (mt)), .int mv, .int mw, .ref ywa, .ref ybi, .ref ysi, .ref ynu, .ref ymo])), (ys, .inl (cI, 449, .inl f_31)), (yfa, .inl (cI, 100, .inl fa2_21)), (yfe, .inl (cI, 100, .inl fe2_22))] := hD
      refine lv_iload hx hb dX9_saving_136 (lv_at hl 0 rfl) ?_
      exact W.iret (v := 100000000) hx hb hr (fun t ht hW => ⟨⟨100000000, (mL2_20, mS, f_31, fa2_21, fe2_22), rfl, ⟨trivial, k0_f_31, k1_f_31, k2_f_31, kS_f_31, kM_f_31, hsp, hsr, hsw, kR_f_31, (FR.cl kG_f_31 sv_l rfl)⟩, by rw [ht]; exact hP.sub [0, 1, 2, 3] rfl, hD.sub [0, 1, 2, 3] (by decide) rfl⟩, hS.F ht⟩) hS.2.2 dX9_saving_138 hlk
set_option maxHeartbeats 4000000 in
set_option maxRecDepth 100000 in
theorem c_X9_saves (l : Launch) (D : va_G) (cI cJ cZ cS : ClassId) (ta : Nat) (sa sv : Nat → Nat) (sz : Nat) (h0 : Nat) (ys : Nat) (yk : Nat) (yo : Nat) (yt : Nat) (mk0 : Int32) (yfa : Nat) (yfe : Nat) (mL : Int32) (mS : Int32) (mM : Int32) (yro : Nat) (yhe : Nat) (ygr : Nat) (mF : Int32) (mC : Int32) (mY : Int32) (yta : Nat) (mz : Nat) (mf : Nat) (mt : Nat) (mv : Int32) (mw : Int32) (ywa : Nat) (ybi : Nat) (ysi : Nat) (ynu : Nat) (ymo : Nat) (ms : Nat → Int32) (fa : Nat → Int32) (fe : Nat → Int32) (mq : Nat → Int32) (P : Nat) (Rn : Nat) (Wn : Nat) (fae : Nat → Int32) (fal : Nat → Int32) (fau : Nat → Int32) (fao : Nat → Int32) (farn : Nat → Int32) (farp : Nat → Int32) (fak : Nat → Int32) (fawn : Nat → Int32) (fawp : Nat → Int32) (fat : Nat → Int32) (fas : Nat → Int32) (p0 : Int32) (p1 : Int32) (hs0 : ms 0 = nI P) (hs1 : ms 1 = nI Rn) (hs2 : ms 2 = nI Wn) (hsS : SI ms) (hsM : MI ms) (hsp : P ≤ 10) (hsr : Rn ≤ 8) (hsw : Wn ≤ 8) (hsR : RI Rn ms) (hsG : FR P ms fae fal fau fao farn farp fak fawn fawp fat fas) : Met l yX9_saves (Cond.code yX9_saves cX9_saves 5 (some .int) :: wsU) ({ frames := 5, cells := 0, slots := 0, locals := 118 }) (va_Pc [.ref h0, .int p0, .int p1] (XW D (xT cI cJ cZ cS) ta sa sv [(h0, .inr (9, [.ref ys, .ref yk, .ref yo, .ref yt, .int mk0, .ref yfa, .ref yfe, .int mL, .int mS, .int mM, .ref yro, .ref yhe, .ref ygr, .int mF, .int mC, .int mY, .ref yta, .int (nI (mz)), .int (nI (mf)), .int (nI (mt)), .int mv, .int mw, .ref ywa, .ref ybi, .ref ysi, .ref ynu, .ref ymo])), (ys, .inl (cI, 449, .inl ms)), (yfa, .inl (cI, 100, .inl fa)), (yfe, .inl (cI, 100, .inl fe)), (yt, .inl (cI, 7, .inl mq))] sz)) (XQi (fun (r : Int32) (u : Int32 × Int32 × (Nat → Int32) × (Nat → Int32) × (Nat → Int32) × (Nat → Int32)) => match u with | (mL2, mS2, ms2, fa2, fe2, mq2) => (True) ∧ (ms2 0 = nI P) ∧ (ms2 1 = nI Rn) ∧ (ms2 2 = nI Wn) ∧ (SI ms2) ∧ (MI ms2) ∧ (P ≤ 10) ∧ (Rn ≤ 8) ∧ (Wn ≤ 8) ∧ (RI Rn ms2) ∧ (FR P ms2 fae fal fau fao farn farp fak fawn fawp fat fas)) D (fun (u : Int32 × Int32 × (Nat → Int32) × (Nat → Int32) × (Nat → Int32) × (Nat → Int32)) => match u with | (mL2, mS2, ms2, fa2, fe2, mq2) => [(h0, .inr (9, [.ref ys, .ref yk, .ref yo, .ref yt, .int mk0, .ref yfa, .ref yfe, .int mL2, .int mS2, .int mM, .ref yro, .ref yhe, .ref ygr, .int mF, .int mC, .int mY, .ref yta, .int (nI (mz)), .int (nI (mf)), .int (nI (mt)), .int mv, .int mw, .ref ywa, .ref ybi, .ref ysi, .ref ynu, .ref ymo])), (ys, .inl (cI, 449, .inl ms2)), (yfa, .inl (cI, 100, .inl fa2)), (yfe, .inl (cI, 100, .inl fe2)), (yt, .inl (cI, 7, .inl mq2))]) (va_A [(h0, .inr (9, [.ref ys, .ref yk, .ref yo, .ref yt, .int mk0, .ref yfa, .ref yfe, .int mL, .int mS, .int mM, .ref yro, .ref yhe, .ref ygr, .int mF, .int mC, .int mY, .ref yta, .int (nI (mz)), .int (nI (mf)), .int (nI (mt)), .int mv, .int mw, .ref ywa, .ref ybi, .ref ysi, .ref ynu, .ref ymo])), (ys, .inl (cI, 449, .inl ms)), (yfa, .inl (cI, 100, .inl fa)), (yfe, .inl (cI, 100, .inl fe)), (yt, .inl (cI, 7, .inl mq))] sz)) 0 0 (va_A [(h0, .inr (9, [.ref ys, .ref yk, .ref yo, .ref yt, .int mk0, .ref yfa, .ref yfe, .int mL, .int mS, .int mM, .ref yro, .ref yhe, .ref ygr, .int mF, .int mC, .int mY, .ref yta, .int (nI (mz)), .int (nI (mf)), .int (nI (mt)), .int mv, .int mw, .ref ywa, .ref ybi, .ref ysi, .ref ynu, .ref ymo])), (ys, .inl (cI, 449, .inl ms)), (yfa, .inl (cI, 100, .inl fa)), (yfe, .inl (cI, 100, .inl fe)), (yt, .inl (cI, 7, .inl mq))] sz) := by
  refine xh (QA := fun A => XQi (fun (r : Int32) (u : Int32 × Int32 × (Nat → Int32) × (Nat → Int32) × (Nat → Int32) × (Nat → Int32)) => match u with | (mL2, mS2, ms2, fa2, fe2, mq2) => (True) ∧ (ms2 0 = nI P) ∧ (ms2 1 = nI Rn) ∧ (ms2 2 = nI Wn) ∧ (SI ms2) ∧ (MI ms2) ∧ (P ≤ 10) ∧ (Rn ≤ 8) ∧ (Wn ≤ 8) ∧ (RI Rn ms2) ∧ (FR P ms2 fae fal fau fao farn farp fak fawn fawp fat fas)) D (fun (u : Int32 × Int32 × (Nat → Int32) × (Nat → Int32) × (Nat → Int32) × (Nat → Int32)) => match u with | (mL2, mS2, ms2, fa2, fe2, mq2) => [(h0, .inr (9, [.ref ys, .ref yk, .ref yo, .ref yt, .int mk0, .ref yfa, .ref yfe, .int mL2, .int mS2, .int mM, .ref yro, .ref yhe, .ref ygr, .int mF, .int mC, .int mY, .ref yta, .int (nI (mz)), .int (nI (mf)), .int (nI (mt)), .int mv, .int mw, .ref ywa, .ref ybi, .ref ysi, .ref ynu, .ref ymo])), (ys, .inl (cI, 449, .inl ms2)), (yfa, .inl (cI, 100, .inl fa2)), (yfe, .inl (cI, 100, .inl fe2)), (yt, .inl (cI, 7, .inl mq2))]) A) (fr := fun A => A) (by decide) (Nat.le_of_ble_eq_true rfl) ?_
  intro p e s m below meth c ls A hF hr hlk hin hsz hP hK hD hN hZ hA hS hl
  have hF : CallFix p m c cX9_saves 5 s _ _ RX9 := hF
  have hx := hF.1
  have hb := hF.2.1
  have hml := hF.2.2.1
  have hown := hF.2.2.2.1
  have hu : ∀ w ∈ wsU, w.before _ s = true := fun w h => hF.2.2.2.2 w (List.mem_cons_of_mem _ h)
  have hl : lv_has ls 5 [(0, .ref h0), (1, .int p0), (2, .int p1)] := hl
  refine lv_aload_n hx hb dX9_saves_0 rfl (lv_at hl 0 rfl) ?_
  refine lv_iload_n hx hb dX9_saves_1 rfl (lv_at hl 1 rfl) ?_
  refine lv_iload_n hx hb dX9_saves_2 rfl (lv_at hl 2 rfl) ?_
  refine xc_Vr hF (c_X9_areTwo l D cI cJ cZ cS ta sa sv s.heap.size h0 ys yk yo yt mk0 yfa yfe mL mS mM yro yhe ygr mF mC mY yta mz mf mt mv mw ywa ybi ysi ynu ymo ms P Rn Wn fae fal fau fao farn farp fak fawn fawp fat fas p0 p1 hs0 hs1 hs2 hsS hsM hsp hsr hsw hsR hsG) kv_X9_80 ⟨rfl, rfl, Nat.le_of_ble_eq_true rfl, Nat.le_of_ble_eq_true rfl⟩ ⟨Nat.le_of_ble_eq_true rfl, Nat.le_of_ble_eq_true rfl⟩ hK hN hZ hP hD hS hA [0, 1] rfl rfl 0 rfl rfl rfl rfl hl.1 rfl (Nat.le_of_ble_eq_true rfl) dX9_saves_3 (fun r_1 hw_r_1 => ?_)
  rcases hw_r_1 with ⟨j_2, k_3, rfl, rfl, rfl, h_6, h_7, h_8⟩ | ⟨rfl, h_9⟩
  · skip
    refine lv_if_ne (tgt := 16) hx hb dX9_saves_6 (by decide) (fun c_10 => ?_) (fun c_10 => absurd c_10 (by decide))
    refine lv_aload_n hx hb dX9_saves_16 rfl (lv_at hl 0 rfl) ?_
    refine lv_iload_n hx hb dX9_saves_17 rfl (lv_at hl 1 rfl) ?_
    refine lv_iload_n hx hb dX9_saves_18 rfl (lv_at hl 2 rfl) ?_
    refine xc_Vr hF (c_X9_areBoth l D cI cJ cZ cS ta sa sv s.heap.size h0 ys yk yo yt mk0 yfa yfe mL mS mM yro yhe ygr mF mC mY yta mz mf mt mv mw ywa ybi ysi ynu ymo ms P Rn Wn fae fal fau fao farn farp fak fawn fawp fat fas j_2 k_3 (by omega) (by omega) hs0 hs1 hs2 hsS hsM hsp hsr hsw hsR hsG) kv_X9_183 ⟨rfl, rfl, Nat.le_of_ble_eq_true rfl, Nat.le_of_ble_eq_true rfl⟩ ⟨Nat.le_of_ble_eq_true rfl, Nat.le_of_ble_eq_true rfl⟩ hK hN hZ hP hD hS hA [0, 1] rfl rfl 0 rfl rfl rfl rfl hl.1 rfl (Nat.le_of_ble_eq_true rfl) dX9_saves_19 (fun r_11 hw_r_11 => ?_)
    rcases hw_r_11 with rfl | rfl
    · skip
      refine lv_if_ne (tgt := 32) hx hb dX9_saves_22 (by decide) (fun c_12 => ?_) (fun c_12 => absurd c_12 (by decide))
      refine lv_aload_n hx hb dX9_saves_32 rfl (lv_at hl 0 rfl) ?_
      refine xc_Vv (wr := [(yt, .inl (cI, 7, .inl mq))]) hF (c_X9_findFar l D cI cJ cZ cS ta sa sv s.heap.size h0 ys yk yo yt mk0 yfa yfe mL mS mM yro yhe ygr mF mC mY yta mz mf mt mv mw ywa ybi ysi ynu ymo ms fa fe P Rn Wn fae fal fau fao farn farp fak fawn fawp fat fas hs0 hs1 hs2 hsS hsM hsp hsr hsw hsR hsG) kv_X9_113 ⟨rfl, rfl, Nat.le_of_ble_eq_true rfl, Nat.le_of_ble_eq_true rfl⟩ ⟨Nat.le_of_ble_eq_true rfl, Nat.le_of_ble_eq_true rfl⟩ hK hN hZ hP hD hS hA [0, 1, 2, 3] [4] rfl rfl rfl rfl (by decide) 0 rfl rfl rfl rfl hl.1 rfl (Nat.le_of_ble_eq_true rfl) dX9_saves_33 (fun u_r_13 H locs hw_r_13 hP hD hS => ?_)
      obtain ⟨mL2_14, fa2_15, fe2_16⟩ := u_r_13
      try dsimp only at hw_r_13
      have i_17 := hw_r_13
      have hP : va_P D vwCl [(yt, .inl (cI, 7, .inl mq)), (h0, .inr (9, [.ref ys, .ref yk, .ref yo, .ref yt, .int mk0, .ref yfa, .ref yfe, .int mL2_14, .int mS, .int mM, .ref yro, .ref yhe, .ref ygr, .int mF, .int mC, .int mY, .ref yta, .int (nI (mz)), .int (nI (mf)), .int (nI (mt)), .int mv, .int mw, .ref ywa, .ref ybi, .ref ysi, .ref ynu, .ref ymo])), (ys, .inl (cI, 449, .inl ms)), (yfa, .inl (cI, 100, .inl fa2_15)), (yfe, .inl (cI, 100, .inl fe2_16))] H := hP
      have hD : va_D A [(yt, .inl (cI, 7, .inl mq)), (h0, .inr (9, [.ref ys, .ref yk, .ref yo, .ref yt, .int mk0, .ref yfa, .ref yfe, .int mL2_14, .int mS, .int mM, .ref yro, .ref yhe, .ref ygr, .int mF, .int mC, .int mY, .ref yta, .int (nI (mz)), .int (nI (mf)), .int (nI (mt)), .int mv, .int mw, .ref ywa, .ref ybi, .ref ysi, .ref ynu, .ref ymo])), (ys, .inl (cI, 449, .inl ms)), (yfa, .inl (cI, 100, .inl fa2_15)), (yfe, .inl (cI, 100, .inl fe2_16))] := hD
      refine lv_aload_n hx hb dX9_saves_36 rfl (lv_at hl 0 rfl) ?_
      refine xg hF kf_X9_109 hK hP 1 rfl rfl dX9_saves_37 ?_
      refine lv_if_eq (tgt := 50) hx hb dX9_saves_40 (by decide) (fun c_18 => ?_) (fun c_18 => ?_)
      · skip
        refine lv_aload_n hx hb dX9_saves_50 rfl (lv_at hl 0 rfl) ?_
        refine xc_Vi (wr := [(yt, .inl (cI, 7, .inl mq)), (yfe, .inl (cI, 100, .inl fe2_16))]) hF (c_X9_tripOfHome l D cI cJ cZ cS ta sa sv H.size h0 ys yk yo yt mk0 yfa yfe mL2_14 mS mM yro yhe ygr mF mC mY yta mz mf mt mv mw ywa ybi ysi ynu ymo ms fa2_15 P Rn Wn fae fal fau fao farn farp fak fawn fawp fat fas hs0 hs1 hs2 hsS hsM hsp hsr hsw hsR hsG) kv_X9_226 ⟨rfl, rfl, Nat.le_of_ble_eq_true rfl, Nat.le_of_ble_eq_true rfl⟩ ⟨Nat.le_of_ble_eq_true rfl, Nat.le_of_ble_eq_true rfl⟩ hK hN hZ hP hD hS hA [1, 2, 3] [0, 4] rfl rfl rfl rfl (by decide) 0 rfl rfl rfl rfl hl.1 rfl (Nat.le_of_ble_eq_true rfl) dX9_saves_51 (fun r_19 u_r_19 H locs hw_r_19 hP hD hS => ?_)
        obtain ⟨mS2_20, rfl⟩ : ∃ z, z = u_r_19 := ⟨_, rfl⟩
        try dsimp only at hw_r_19
        have hP : va_P D vwCl [(yt, .inl (cI, 7, .inl mq)), (yfe, .inl (cI, 100, .inl fe2_16)), (h0, .inr (9, [.ref ys, .ref yk, .ref yo, .ref yt, .int mk0, .ref yfa, .ref yfe, .int mL2_14, .int mS2_20, .int mM, .ref yro, .ref yhe, .ref ygr, .int mF, .int mC, .int mY, .ref yta, .int (nI (mz)), .int (nI (mf)), .int (nI (mt)), .int mv, .int mw, .ref ywa, .ref ybi, .ref ysi, .ref ynu, .ref ymo])), (ys, .inl (cI, 449, .inl ms)), (yfa, .inl (cI, 100, .inl fa2_15))] H := hP
        have hD : va_D A [(yt, .inl (cI, 7, .inl mq)), (yfe, .inl (cI, 100, .inl fe2_16)), (h0, .inr (9, [.ref ys, .ref yk, .ref yo, .ref yt, .int mk0, .ref yfa, .ref yfe, .int mL2_14, .int mS2_20, .int mM, .ref yro, .ref yhe, .ref ygr, .int mF, .int mC, .int mY, .ref yta, .int (nI (mz)), .int (nI (mf)), .int (nI (mt)), .int mv, .int mw, .ref ywa, .ref ybi, .ref ysi, .ref ynu, .ref ymo])), (ys, .inl (cI, 449, .inl ms)), (yfa, .inl (cI, 100, .inl fa2_15))] := hD
        refine lv_istore_n (lv' := [(3, .int r_19), (0, .ref h0), (1, .int (nI (j_2))), (2, .int (nI (k_3)))]) hx hb dX9_saves_54 rfl hl (by decide) rfl (fun ls hl => ?_)
        refine lv_aload_n hx hb dX9_saves_55 rfl (lv_at hl 1 rfl) ?_
        refine lv_iload_n hx hb dX9_saves_56 rfl (lv_at hl 2 rfl) ?_
        refine lv_iload_n hx hb dX9_saves_57 rfl (lv_at hl 3 rfl) ?_
        refine lv_iload_n hx hb dX9_saves_58 rfl (lv_at hl 0 rfl) ?_
        refine lv_ldc (v := 100000000) hx hb hown (hu _ uw701) dX9_saves_59 ?_
        refine lv_icmp_ne (tgt := 68) hx hb dX9_saves_61 (by decide) (fun c_21 => ?_) (fun c_21 => ?_)
        · skip
          refine lv_iload_n hx hb dX9_saves_68 rfl (lv_at hl 0 rfl) ?_
          refine xc_Vi (wr := [(yt, .inl (cI, 7, .inl mq))]) hF (c_X9_saving l D cI cJ cZ cS ta sa sv H.size h0 ys yk yo yt mk0 yfa yfe mL2_14 mS2_20 mM yro yhe ygr mF mC mY yta mz mf mt mv mw ywa ybi ysi ynu ymo ms fa2_15 fe2_16 P Rn Wn fae fal fau fao farn farp fak fawn fawp fat fas j_2 k_3 r_19 (by omega) (by omega) hs0 hs1 hs2 hsS hsM hsp hsr hsw hsR hsG) kv_X9_229 ⟨rfl, rfl, Nat.le_of_ble_eq_true rfl, Nat.le_of_ble_eq_true rfl⟩ ⟨Nat.le_of_ble_eq_true rfl, Nat.le_of_ble_eq_true rfl⟩ hK hN hZ hP hD hS hA [2, 3, 4, 1] [0] rfl rfl rfl rfl (by decide) 0 rfl rfl rfl rfl hl.1 rfl (Nat.le_of_ble_eq_true rfl) dX9_saves_69 (fun r_22 u_r_22 H locs hw_r_22 hP hD hS => ?_)
          obtain ⟨mL2_23, mS2_24, ms2_25, fa2_26, fe2_27⟩ := u_r_22
          try dsimp only at hw_r_22
          obtain ⟨hw_r_22, i_28, i_29, i_30, i_31, i_32, i_33, i_34, i_35, i_36, i_37⟩ := hw_r_22
          have hP : va_P D vwCl [(yt, .inl (cI, 7, .inl mq)), (h0, .inr (9, [.ref ys, .ref yk, .ref yo, .ref yt, .int mk0, .ref yfa, .ref yfe, .int mL2_23, .int mS2_24, .int mM, .ref yro, .ref yhe, .ref ygr, .int mF, .int mC, .int mY, .ref yta, .int (nI (mz)), .int (nI (mf)), .int (nI (mt)), .int mv, .int mw, .ref ywa, .ref ybi, .ref ysi, .ref ynu, .ref ymo])), (ys, .inl (cI, 449, .inl ms2_25)), (yfa, .inl (cI, 100, .inl fa2_26)), (yfe, .inl (cI, 100, .inl fe2_27))] H := hP
          have hD : va_D A [(yt, .inl (cI, 7, .inl mq)), (h0, .inr (9, [.ref ys, .ref yk, .ref yo, .ref yt, .int mk0, .ref yfa, .ref yfe, .int mL2_23, .int mS2_24, .int mM, .ref yro, .ref yhe, .ref ygr, .int mF, .int mC, .int mY, .ref yta, .int (nI (mz)), .int (nI (mf)), .int (nI (mt)), .int mv, .int mw, .ref ywa, .ref ybi, .ref ysi, .ref ynu, .ref ymo])), (ys, .inl (cI, 449, .inl ms2_25)), (yfa, .inl (cI, 100, .inl fa2_26)), (yfe, .inl (cI, 100, .inl fe2_27))] := hD
          refine lv_istore (lv' := [(4, .int r_22), (3, .int r_19), (0, .ref h0), (1, .int (nI (j_2))), (2, .int (nI (k_3)))]) hx hb dX9_saves_72 hl (by decide) rfl (fun ls hl => ?_)
          refine lv_iload hx hb dX9_saves_74 (lv_at hl 0 rfl) ?_
          refine lv_ldc (v := 100000000) hx hb hown (hu _ uw701) dX9_saves_76 ?_
          refine lv_icmp_ne (tgt := 90) hx hb dX9_saves_78 (by decide) (fun c_38 => ?_) (fun c_38 => ?_)
          · skip
            refine lv_iload_n hx hb dX9_saves_90 rfl (lv_at hl 1 rfl) ?_
            refine lv_ldc (v := 100000000) hx hb hown (hu _ uw701) dX9_saves_91 ?_
            refine lv_icmp_ne (tgt := 105) hx hb dX9_saves_93 (by decide) (fun c_39 => ?_) (fun c_39 => ?_)
            · skip
              refine lv_iload hx hb dX9_saves_105 (lv_at hl 0 rfl) ?_
              exact W.iret (v := r_22) hx hb hr (fun t ht hW => ⟨⟨r_22, (mL2_23, mS2_24, ms2_25, fa2_26, fe2_27, mq), rfl, ⟨trivial, i_28, i_29, i_30, i_31, i_32, i_33, i_34, i_35, i_36, i_37⟩, by rw [ht]; exact hP.sub [1, 2, 3, 4, 0] rfl, hD.sub [1, 2, 3, 4, 0] (by decide +kernel) rfl⟩, hS.F ht⟩) hS.2.2 dX9_saves_107 hlk
            · skip
              refine lv_aload_n hx hb dX9_saves_96 rfl (lv_at hl 2 rfl) ?_
              refine lv_ldc (v := (-1000000004)) hx hb hown (hu _ uw699) dX9_saves_97 ?_
              refine xc_Vi (wr := [(ys, .inl (cI, 449, .inl ms2_25)), (yfa, .inl (cI, 100, .inl fa2_26)), (yfe, .inl (cI, 100, .inl fe2_27))]) hF (c_X9_finds_N l D cI cJ cZ cS ta sa sv H.size h0 ys yk yo yt mk0 yfa yfe mL2_23 mS2_24 mM yro yhe ygr mF mC mY yta mz mf mt mv mw ywa ybi ysi ynu ymo mq ) kv_X9_70 ⟨rfl, rfl, Nat.le_of_ble_eq_true rfl, Nat.le_of_ble_eq_true rfl⟩ ⟨Nat.le_of_ble_eq_true rfl, Nat.le_of_ble_eq_true rfl⟩ hK hN hZ hP hD hS hA [1, 0] [2, 3, 4] rfl rfl rfl rfl (by decide) 0 rfl rfl rfl rfl hl.1 rfl (Nat.le_of_ble_eq_true rfl) dX9_saves_99 (fun r_40 u_r_40 H locs hw_r_40 hP hD hS => ?_)
              obtain ⟨mq2_41, rfl⟩ : ∃ z, z = u_r_40 := ⟨_, rfl⟩
              try dsimp only at hw_r_40
              have hP : va_P D vwCl [(ys, .inl (cI, 449, .inl ms2_25)), (yfa, .inl (cI, 100, .inl fa2_26)), (yfe, .inl (cI, 100, .inl fe2_27)), (h0, .inr (9, [.ref ys, .ref yk, .ref yo, .ref yt, .int mk0, .ref yfa, .ref yfe, .int mL2_23, .int mS2_24, .int mM, .ref yro, .ref yhe, .ref ygr, .int mF, .int mC, .int mY, .ref yta, .int (nI (mz)), .int (nI (mf)), .int (nI (mt)), .int mv, .int mw, .ref ywa, .ref ybi, .ref ysi, .ref ynu, .ref ymo])), (yt, .inl (cI, 7, .inl mq2_41))] H := hP
              have hD : va_D A [(ys, .inl (cI, 449, .inl ms2_25)), (yfa, .inl (cI, 100, .inl fa2_26)), (yfe, .inl (cI, 100, .inl fe2_27)), (h0, .inr (9, [.ref ys, .ref yk, .ref yo, .ref yt, .int mk0, .ref yfa, .ref yfe, .int mL2_23, .int mS2_24, .int mM, .ref yro, .ref yhe, .ref ygr, .int mF, .int mC, .int mY, .ref yta, .int (nI (mz)), .int (nI (mf)), .int (nI (mt)), .int mv, .int mw, .ref ywa, .ref ybi, .ref ysi, .ref ynu, .ref ymo])), (yt, .inl (cI, 7, .inl mq2_41))] := hD
              subst hw_r_40
              refine lv_goto (tgt := 107) hx hb dX9_saves_102 (by decide) ?_
              exact W.iret (v := (-1000000004)) hx hb hr (fun t ht hW => ⟨⟨(-1000000004), (mL2_23, mS2_24, ms2_25, fa2_26, fe2_27, mq2_41), rfl, ⟨trivial, i_28, i_29, i_30, i_31, i_32, i_33, i_34, i_35, i_36, i_37⟩, by rw [ht]; exact hP.sub [3, 0, 1, 2, 4] rfl, hD.sub [3, 0, 1, 2, 4] (by decide +kernel) rfl⟩, hS.F ht⟩) hS.2.2 dX9_saves_107 hlk
          · skip
            refine lv_aload_n hx hb dX9_saves_81 rfl (lv_at hl 2 rfl) ?_
            refine lv_ldc (v := (-1000000005)) hx hb hown (hu _ uw716) dX9_saves_82 ?_
            refine xc_Vi (wr := [(ys, .inl (cI, 449, .inl ms2_25)), (yfa, .inl (cI, 100, .inl fa2_26)), (yfe, .inl (cI, 100, .inl fe2_27))]) hF (c_X9_finds_T l D cI cJ cZ cS ta sa sv H.size h0 ys yk yo yt mk0 yfa yfe mL2_23 mS2_24 mM yro yhe ygr mF mC mY yta mz mf mt mv mw ywa ybi ysi ynu ymo mq ) kv_X9_70 ⟨rfl, rfl, Nat.le_of_ble_eq_true rfl, Nat.le_of_ble_eq_true rfl⟩ ⟨Nat.le_of_ble_eq_true rfl, Nat.le_of_ble_eq_true rfl⟩ hK hN hZ hP hD hS hA [1, 0] [2, 3, 4] rfl rfl rfl rfl (by decide) 0 rfl rfl rfl rfl hl.1 rfl (Nat.le_of_ble_eq_true rfl) dX9_saves_84 (fun r_42 u_r_42 H locs hw_r_42 hP hD hS => ?_)
            obtain ⟨mq2_43, rfl⟩ : ∃ z, z = u_r_42 := ⟨_, rfl⟩
            try dsimp only at hw_r_42
            have hP : va_P D vwCl [(ys, .inl (cI, 449, .inl ms2_25)), (yfa, .inl (cI, 100, .inl fa2_26)), (yfe, .inl (cI, 100, .inl fe2_27)), (h0, .inr (9, [.ref ys, .ref yk, .ref yo, .ref yt, .int mk0, .ref yfa, .ref yfe, .int mL2_23, .int mS2_24, .int mM, .ref yro, .ref yhe, .ref ygr, .int mF, .int mC, .int mY, .ref yta, .int (nI (mz)), .int (nI (mf)), .int (nI (mt)), .int mv, .int mw, .ref ywa, .ref ybi, .ref ysi, .ref ynu, .ref ymo])), (yt, .inl (cI, 7, .inl mq2_43))] H := hP
            have hD : va_D A [(ys, .inl (cI, 449, .inl ms2_25)), (yfa, .inl (cI, 100, .inl fa2_26)), (yfe, .inl (cI, 100, .inl fe2_27)), (h0, .inr (9, [.ref ys, .ref yk, .ref yo, .ref yt, .int mk0, .ref yfa, .ref yfe, .int mL2_23, .int mS2_24, .int mM, .ref yro, .ref yhe, .ref ygr, .int mF, .int mC, .int mY, .ref yta, .int (nI (mz)), .int (nI (mf)), .int (nI (mt)), .int mv, .int mw, .ref ywa, .ref ybi, .ref ysi, .ref ynu, .ref ymo])), (yt, .inl (cI, 7, .inl mq2_43))] := hD
            subst hw_r_42
            refine lv_goto (tgt := 107) hx hb dX9_saves_87 (by decide) ?_
            exact W.iret (v := (-1000000005)) hx hb hr (fun t ht hW => ⟨⟨(-1000000005), (mL2_23, mS2_24, ms2_25, fa2_26, fe2_27, mq2_43), rfl, ⟨trivial, i_28, i_29, i_30, i_31, i_32, i_33, i_34, i_35, i_36, i_37⟩, by rw [ht]; exact hP.sub [3, 0, 1, 2, 4] rfl, hD.sub [3, 0, 1, 2, 4] (by decide +kernel) rfl⟩, hS.F ht⟩) hS.2.2 dX9_saves_107 hlk
        · skip
          refine lv_iconst (v := 0) hx hb dX9_saves_64 (by decide) ?_
          refine lv_goto (tgt := 69) hx hb dX9_saves_65 (by decide) ?_
          refine xc_Vi (wr := [(yt, .inl (cI, 7, .inl mq))]) hF (c_X9_saving l D cI cJ cZ cS ta sa sv H.size h0 ys yk yo yt mk0 yfa yfe mL2_14 mS2_20 mM yro yhe ygr mF mC mY yta mz mf mt mv mw ywa ybi ysi ynu ymo ms fa2_15 fe2_16 P Rn Wn fae fal fau fao farn farp fak fawn fawp fat fas j_2 k_3 0 (by omega) (by omega) hs0 hs1 hs2 hsS hsM hsp hsr hsw hsR hsG) kv_X9_229 ⟨rfl, rfl, Nat.le_of_ble_eq_true rfl, Nat.le_of_ble_eq_true rfl⟩ ⟨Nat.le_of_ble_eq_true rfl, Nat.le_of_ble_eq_true rfl⟩ hK hN hZ hP hD hS hA [2, 3, 4, 1] [0] rfl rfl rfl rfl (by decide) 0 rfl rfl rfl rfl hl.1 rfl (Nat.le_of_ble_eq_true rfl) dX9_saves_69 (fun r_44 u_r_44 H locs hw_r_44 hP hD hS => ?_)
          obtain ⟨mL2_45, mS2_46, ms2_47, fa2_48, fe2_49⟩ := u_r_44
          try dsimp only at hw_r_44
          obtain ⟨hw_r_44, i_50, i_51, i_52, i_53, i_54, i_55, i_56, i_57, i_58, i_59⟩ := hw_r_44
          have hP : va_P D vwCl [(yt, .inl (cI, 7, .inl mq)), (h0, .inr (9, [.ref ys, .ref yk, .ref yo, .ref yt, .int mk0, .ref yfa, .ref yfe, .int mL2_45, .int mS2_46, .int mM, .ref yro, .ref yhe, .ref ygr, .int mF, .int mC, .int mY, .ref yta, .int (nI (mz)), .int (nI (mf)), .int (nI (mt)), .int mv, .int mw, .ref ywa, .ref ybi, .ref ysi, .ref ynu, .ref ymo])), (ys, .inl (cI, 449, .inl ms2_47)), (yfa, .inl (cI, 100, .inl fa2_48)), (yfe, .inl (cI, 100, .inl fe2_49))] H := hP
          have hD : va_D A [(yt, .inl (cI, 7, .inl mq)), (h0, .inr (9, [.ref ys, .ref yk, .ref yo, .ref yt, .int mk0, .ref yfa, .ref yfe, .int mL2_45, .int mS2_46, .int mM, .ref yro, .ref yhe, .ref ygr, .int mF, .int mC, .int mY, .ref yta, .int (nI (mz)), .int (nI (mf)), .int (nI (mt)), .int mv, .int mw, .ref ywa, .ref ybi, .ref ysi, .ref ynu, .ref ymo])), (ys, .inl (cI, 449, .inl ms2_47)), (yfa, .inl (cI, 100, .inl fa2_48)), (yfe, .inl (cI, 100, .inl fe2_49))] := hD
          refine lv_istore (lv' := [(4, .int r_44), (3, .int r_19), (0, .ref h0), (1, .int (nI (j_2))), (2, .int (nI (k_3)))]) hx hb dX9_saves_72 hl (by decide) rfl (fun ls hl => ?_)
          refine lv_iload hx hb dX9_saves_74 (lv_at hl 0 rfl) ?_
          refine lv_ldc (v := 100000000) hx hb hown (hu _ uw701) dX9_saves_76 ?_
          refine lv_icmp_ne (tgt := 90) hx hb dX9_saves_78 (by decide) (fun c_60 => ?_) (fun c_60 => ?_)
          · skip
            refine lv_iload_n hx hb dX9_saves_90 rfl (lv_at hl 1 rfl) ?_
            refine lv_ldc (v := 100000000) hx hb hown (hu _ uw701) dX9_saves_91 ?_
            refine lv_icmp_ne (tgt := 105) hx hb dX9_saves_93 (by decide) (fun c_61 => ?_) (fun c_61 => ?_)
            · skip
              refine lv_iload hx hb dX9_saves_105 (lv_at hl 0 rfl) ?_
              exact W.iret (v := r_44) hx hb hr (fun t ht hW => ⟨⟨r_44, (mL2_45, mS2_46, ms2_47, fa2_48, fe2_49, mq), rfl, ⟨trivial, i_50, i_51, i_52, i_53, i_54, i_55, i_56, i_57, i_58, i_59⟩, by rw [ht]; exact hP.sub [1, 2, 3, 4, 0] rfl, hD.sub [1, 2, 3, 4, 0] (by decide +kernel) rfl⟩, hS.F ht⟩) hS.2.2 dX9_saves_107 hlk
            · skip
              refine lv_aload_n hx hb dX9_saves_96 rfl (lv_at hl 2 rfl) ?_
              refine lv_ldc (v := (-1000000004)) hx hb hown (hu _ uw699) dX9_saves_97 ?_
              refine xc_Vi (wr := [(ys, .inl (cI, 449, .inl ms2_47)), (yfa, .inl (cI, 100, .inl fa2_48)), (yfe, .inl (cI, 100, .inl fe2_49))]) hF (c_X9_finds_N l D cI cJ cZ cS ta sa sv H.size h0 ys yk yo yt mk0 yfa yfe mL2_45 mS2_46 mM yro yhe ygr mF mC mY yta mz mf mt mv mw ywa ybi ysi ynu ymo mq ) kv_X9_70 ⟨rfl, rfl, Nat.le_of_ble_eq_true rfl, Nat.le_of_ble_eq_true rfl⟩ ⟨Nat.le_of_ble_eq_true rfl, Nat.le_of_ble_eq_true rfl⟩ hK hN hZ hP hD hS hA [1, 0] [2, 3, 4] rfl rfl rfl rfl (by decide) 0 rfl rfl rfl rfl hl.1 rfl (Nat.le_of_ble_eq_true rfl) dX9_saves_99 (fun r_62 u_r_62 H locs hw_r_62 hP hD hS => ?_)
              obtain ⟨mq2_63, rfl⟩ : ∃ z, z = u_r_62 := ⟨_, rfl⟩
              try dsimp only at hw_r_62
              have hP : va_P D vwCl [(ys, .inl (cI, 449, .inl ms2_47)), (yfa, .inl (cI, 100, .inl fa2_48)), (yfe, .inl (cI, 100, .inl fe2_49)), (h0, .inr (9, [.ref ys, .ref yk, .ref yo, .ref yt, .int mk0, .ref yfa, .ref yfe, .int mL2_45, .int mS2_46, .int mM, .ref yro, .ref yhe, .ref ygr, .int mF, .int mC, .int mY, .ref yta, .int (nI (mz)), .int (nI (mf)), .int (nI (mt)), .int mv, .int mw, .ref ywa, .ref ybi, .ref ysi, .ref ynu, .ref ymo])), (yt, .inl (cI, 7, .inl mq2_63))] H := hP
              have hD : va_D A [(ys, .inl (cI, 449, .inl ms2_47)), (yfa, .inl (cI, 100, .inl fa2_48)), (yfe, .inl (cI, 100, .inl fe2_49)), (h0, .inr (9, [.ref ys, .ref yk, .ref yo, .ref yt, .int mk0, .ref yfa, .ref yfe, .int mL2_45, .int mS2_46, .int mM, .ref yro, .ref yhe, .ref ygr, .int mF, .int mC, .int mY, .ref yta, .int (nI (mz)), .int (nI (mf)), .int (nI (mt)), .int mv, .int mw, .ref ywa, .ref ybi, .ref ysi, .ref ynu, .ref ymo])), (yt, .inl (cI, 7, .inl mq2_63))] := hD
              subst hw_r_62
              refine lv_goto (tgt := 107) hx hb dX9_saves_102 (by decide) ?_
              exact W.iret (v := (-1000000004)) hx hb hr (fun t ht hW => ⟨⟨(-1000000004), (mL2_45, mS2_46, ms2_47, fa2_48, fe2_49, mq2_63), rfl, ⟨trivial, i_50, i_51, i_52, i_53, i_54, i_55, i_56, i_57, i_58, i_59⟩, by rw [ht]; exact hP.sub [3, 0, 1, 2, 4] rfl, hD.sub [3, 0, 1, 2, 4] (by decide +kernel) rfl⟩, hS.F ht⟩) hS.2.2 dX9_saves_107 hlk
          · skip
            refine lv_aload_n hx hb dX9_saves_81 rfl (lv_at hl 2 rfl) ?_
            refine lv_ldc (v := (-1000000005)) hx hb hown (hu _ uw716) dX9_saves_82 ?_
            refine xc_Vi (wr := [(ys, .inl (cI, 449, .inl ms2_47)), (yfa, .inl (cI, 100, .inl fa2_48)), (yfe, .inl (cI, 100, .inl fe2_49))]) hF (c_X9_finds_T l D cI cJ cZ cS ta sa sv H.size h0 ys yk yo yt mk0 yfa yfe mL2_45 mS2_46 mM yro yhe ygr mF mC mY yta mz mf mt mv mw ywa ybi ysi ynu ymo mq ) kv_X9_70 ⟨rfl, rfl, Nat.le_of_ble_eq_true rfl, Nat.le_of_ble_eq_true rfl⟩ ⟨Nat.le_of_ble_eq_true rfl, Nat.le_of_ble_eq_true rfl⟩ hK hN hZ hP hD hS hA [1, 0] [2, 3, 4] rfl rfl rfl rfl (by decide) 0 rfl rfl rfl rfl hl.1 rfl (Nat.le_of_ble_eq_true rfl) dX9_saves_84 (fun r_64 u_r_64 H locs hw_r_64 hP hD hS => ?_)
            obtain ⟨mq2_65, rfl⟩ : ∃ z, z = u_r_64 := ⟨_, rfl⟩
            try dsimp only at hw_r_64
            have hP : va_P D vwCl [(ys, .inl (cI, 449, .inl ms2_47)), (yfa, .inl (cI, 100, .inl fa2_48)), (yfe, .inl (cI, 100, .inl fe2_49)), (h0, .inr (9, [.ref ys, .ref yk, .ref yo, .ref yt, .int mk0, .ref yfa, .ref yfe, .int mL2_45, .int mS2_46, .int mM, .ref yro, .ref yhe, .ref ygr, .int mF, .int mC, .int mY, .ref yta, .int (nI (mz)), .int (nI (mf)), .int (nI (mt)), .int mv, .int mw, .ref ywa, .ref ybi, .ref ysi, .ref ynu, .ref ymo])), (yt, .inl (cI, 7, .inl mq2_65))] H := hP
            have hD : va_D A [(ys, .inl (cI, 449, .inl ms2_47)), (yfa, .inl (cI, 100, .inl fa2_48)), (yfe, .inl (cI, 100, .inl fe2_49)), (h0, .inr (9, [.ref ys, .ref yk, .ref yo, .ref yt, .int mk0, .ref yfa, .ref yfe, .int mL2_45, .int mS2_46, .int mM, .ref yro, .ref yhe, .ref ygr, .int mF, .int mC, .int mY, .ref yta, .int (nI (mz)), .int (nI (mf)), .int (nI (mt)), .int mv, .int mw, .ref ywa, .ref ybi, .ref ysi, .ref ynu, .ref ymo])), (yt, .inl (cI, 7, .inl mq2_65))] := hD
            subst hw_r_64
            refine lv_goto (tgt := 107) hx hb dX9_saves_87 (by decide) ?_
            exact W.iret (v := (-1000000005)) hx hb hr (fun t ht hW => ⟨⟨(-1000000005), (mL2_45, mS2_46, ms2_47, fa2_48, fe2_49, mq2_65), rfl, ⟨trivial, i_50, i_51, i_52, i_53, i_54, i_55, i_56, i_57, i_58, i_59⟩, by rw [ht]; exact hP.sub [3, 0, 1, 2, 4] rfl, hD.sub [3, 0, 1, 2, 4] (by decide +kernel) rfl⟩, hS.F ht⟩) hS.2.2 dX9_saves_107 hlk
      · skip
        refine lv_aload_n hx hb dX9_saves_43 rfl (lv_at hl 0 rfl) ?_
        refine lv_ldc (v := (-1000000005)) hx hb hown (hu _ uw716) dX9_saves_44 ?_
        refine xc_Vi (wr := [(ys, .inl (cI, 449, .inl ms)), (yfa, .inl (cI, 100, .inl fa2_15)), (yfe, .inl (cI, 100, .inl fe2_16))]) hF (c_X9_finds_T l D cI cJ cZ cS ta sa sv H.size h0 ys yk yo yt mk0 yfa yfe mL2_14 mS mM yro yhe ygr mF mC mY yta mz mf mt mv mw ywa ybi ysi ynu ymo mq ) kv_X9_70 ⟨rfl, rfl, Nat.le_of_ble_eq_true rfl, Nat.le_of_ble_eq_true rfl⟩ ⟨Nat.le_of_ble_eq_true rfl, Nat.le_of_ble_eq_true rfl⟩ hK hN hZ hP hD hS hA [1, 0] [2, 3, 4] rfl rfl rfl rfl (by decide) 0 rfl rfl rfl rfl hl.1 rfl (Nat.le_of_ble_eq_true rfl) dX9_saves_46 (fun r_66 u_r_66 H locs hw_r_66 hP hD hS => ?_)
        obtain ⟨mq2_67, rfl⟩ : ∃ z, z = u_r_66 := ⟨_, rfl⟩
        try dsimp only at hw_r_66
        have hP : va_P D vwCl [(ys, .inl (cI, 449, .inl ms)), (yfa, .inl (cI, 100, .inl fa2_15)), (yfe, .inl (cI, 100, .inl fe2_16)), (h0, .inr (9, [.ref ys, .ref yk, .ref yo, .ref yt, .int mk0, .ref yfa, .ref yfe, .int mL2_14, .int mS, .int mM, .ref yro, .ref yhe, .ref ygr, .int mF, .int mC, .int mY, .ref yta, .int (nI (mz)), .int (nI (mf)), .int (nI (mt)), .int mv, .int mw, .ref ywa, .ref ybi, .ref ysi, .ref ynu, .ref ymo])), (yt, .inl (cI, 7, .inl mq2_67))] H := hP
        have hD : va_D A [(ys, .inl (cI, 449, .inl ms)), (yfa, .inl (cI, 100, .inl fa2_15)), (yfe, .inl (cI, 100, .inl fe2_16)), (h0, .inr (9, [.ref ys, .ref yk, .ref yo, .ref yt, .int mk0, .ref yfa, .ref yfe, .int mL2_14, .int mS, .int mM, .ref yro, .ref yhe, .ref ygr, .int mF, .int mC, .int mY, .ref yta, .int (nI (mz)), .int (nI (mf)), .int (nI (mt)), .int mv, .int mw, .ref ywa, .ref ybi, .ref ysi, .ref ynu, .ref ymo])), (yt, .inl (cI, 7, .inl mq2_67))] := hD
        subst hw_r_66
        exact W.iret (v := (-1000000005)) hx hb hr (fun t ht hW => ⟨⟨(-1000000005), (mL2_14, mS, ms, fa2_15, fe2_16, mq2_67), rfl, ⟨trivial, hs0, hs1, hs2, hsS, hsM, hsp, hsr, hsw, hsR, hsG⟩, by rw [ht]; exact hP.sub [3, 0, 1, 2, 4] rfl, hD.sub [3, 0, 1, 2, 4] (by decide +kernel) rfl⟩, hS.F ht⟩) hS.2.2 dX9_saves_49 hlk
    · skip
      refine lv_if_ne (tgt := 32) hx hb dX9_saves_22 (by decide) (fun c_68 => absurd (by decide) c_68) (fun c_68 => ?_)
      refine lv_aload_n hx hb dX9_saves_25 rfl (lv_at hl 0 rfl) ?_
      refine lv_ldc (v := (-1000000004)) hx hb hown (hu _ uw699) dX9_saves_26 ?_
      refine xc_Vi (wr := [(ys, .inl (cI, 449, .inl ms)), (yfa, .inl (cI, 100, .inl fa)), (yfe, .inl (cI, 100, .inl fe))]) hF (c_X9_finds_N l D cI cJ cZ cS ta sa sv s.heap.size h0 ys yk yo yt mk0 yfa yfe mL mS mM yro yhe ygr mF mC mY yta mz mf mt mv mw ywa ybi ysi ynu ymo mq ) kv_X9_70 ⟨rfl, rfl, Nat.le_of_ble_eq_true rfl, Nat.le_of_ble_eq_true rfl⟩ ⟨Nat.le_of_ble_eq_true rfl, Nat.le_of_ble_eq_true rfl⟩ hK hN hZ hP hD hS hA [0, 4] [1, 2, 3] rfl rfl rfl rfl (by decide) 0 rfl rfl rfl rfl hl.1 rfl (Nat.le_of_ble_eq_true rfl) dX9_saves_28 (fun r_69 u_r_69 H locs hw_r_69 hP hD hS => ?_)
      obtain ⟨mq2_70, rfl⟩ : ∃ z, z = u_r_69 := ⟨_, rfl⟩
      try dsimp only at hw_r_69
      have hP : va_P D vwCl [(ys, .inl (cI, 449, .inl ms)), (yfa, .inl (cI, 100, .inl fa)), (yfe, .inl (cI, 100, .inl fe)), (h0, .inr (9, [.ref ys, .ref yk, .ref yo, .ref yt, .int mk0, .ref yfa, .ref yfe, .int mL, .int mS, .int mM, .ref yro, .ref yhe, .ref ygr, .int mF, .int mC, .int mY, .ref yta, .int (nI (mz)), .int (nI (mf)), .int (nI (mt)), .int mv, .int mw, .ref ywa, .ref ybi, .ref ysi, .ref ynu, .ref ymo])), (yt, .inl (cI, 7, .inl mq2_70))] H := hP
      have hD : va_D A [(ys, .inl (cI, 449, .inl ms)), (yfa, .inl (cI, 100, .inl fa)), (yfe, .inl (cI, 100, .inl fe)), (h0, .inr (9, [.ref ys, .ref yk, .ref yo, .ref yt, .int mk0, .ref yfa, .ref yfe, .int mL, .int mS, .int mM, .ref yro, .ref yhe, .ref ygr, .int mF, .int mC, .int mY, .ref yta, .int (nI (mz)), .int (nI (mf)), .int (nI (mt)), .int mv, .int mw, .ref ywa, .ref ybi, .ref ysi, .ref ynu, .ref ymo])), (yt, .inl (cI, 7, .inl mq2_70))] := hD
      subst hw_r_69
      exact W.iret (v := (-1000000004)) hx hb hr (fun t ht hW => ⟨⟨(-1000000004), (mL, mS, ms, fa, fe, mq2_70), rfl, ⟨trivial, hs0, hs1, hs2, hsS, hsM, hsp, hsr, hsw, hsR, hsG⟩, by rw [ht]; exact hP.sub [3, 0, 1, 2, 4] rfl, hD.sub [3, 0, 1, 2, 4] (by decide +kernel) rfl⟩, hS.F ht⟩) hS.2.2 dX9_saves_31 hlk
  · skip
    refine lv_if_ne (tgt := 16) hx hb dX9_saves_6 (by decide) (fun c_71 => absurd (by decide) c_71) (fun c_71 => ?_)
    refine lv_aload_n hx hb dX9_saves_9 rfl (lv_at hl 0 rfl) ?_
    refine lv_ldc (v := (-1000000001)) hx hb hown (hu _ uw648) dX9_saves_10 ?_
    refine xc_Vi (wr := [(ys, .inl (cI, 449, .inl ms)), (yfa, .inl (cI, 100, .inl fa)), (yfe, .inl (cI, 100, .inl fe))]) hF (c_X9_finds_B l D cI cJ cZ cS ta sa sv s.heap.size h0 ys yk yo yt mk0 yfa yfe mL mS mM yro yhe ygr mF mC mY yta mz mf mt mv mw ywa ybi ysi ynu ymo mq ) kv_X9_70 ⟨rfl, rfl, Nat.le_of_ble_eq_true rfl, Nat.le_of_ble_eq_true rfl⟩ ⟨Nat.le_of_ble_eq_true rfl, Nat.le_of_ble_eq_true rfl⟩ hK hN hZ hP hD hS hA [0, 4] [1, 2, 3] rfl rfl rfl rfl (by decide) 0 rfl rfl rfl rfl hl.1 rfl (Nat.le_of_ble_eq_true rfl) dX9_saves_12 (fun r_72 u_r_72 H locs hw_r_72 hP hD hS => ?_)
    obtain ⟨mq2_73, rfl⟩ : ∃ z, z = u_r_72 := ⟨_, rfl⟩
    try dsimp only at hw_r_72
    have hP : va_P D vwCl [(ys, .inl (cI, 449, .inl ms)), (yfa, .inl (cI, 100, .inl fa)), (yfe, .inl (cI, 100, .inl fe)), (h0, .inr (9, [.ref ys, .ref yk, .ref yo, .ref yt, .int mk0, .ref yfa, .ref yfe, .int mL, .int mS, .int mM, .ref yro, .ref yhe, .ref ygr, .int mF, .int mC, .int mY, .ref yta, .int (nI (mz)), .int (nI (mf)), .int (nI (mt)), .int mv, .int mw, .ref ywa, .ref ybi, .ref ysi, .ref ynu, .ref ymo])), (yt, .inl (cI, 7, .inl mq2_73))] H := hP
    have hD : va_D A [(ys, .inl (cI, 449, .inl ms)), (yfa, .inl (cI, 100, .inl fa)), (yfe, .inl (cI, 100, .inl fe)), (h0, .inr (9, [.ref ys, .ref yk, .ref yo, .ref yt, .int mk0, .ref yfa, .ref yfe, .int mL, .int mS, .int mM, .ref yro, .ref yhe, .ref ygr, .int mF, .int mC, .int mY, .ref yta, .int (nI (mz)), .int (nI (mf)), .int (nI (mt)), .int mv, .int mw, .ref ywa, .ref ybi, .ref ysi, .ref ynu, .ref ymo])), (yt, .inl (cI, 7, .inl mq2_73))] := hD
    subst hw_r_72
    exact W.iret (v := (-1000000001)) hx hb hr (fun t ht hW => ⟨⟨(-1000000001), (mL, mS, ms, fa, fe, mq2_73), rfl, ⟨trivial, hs0, hs1, hs2, hsS, hsM, hsp, hsr, hsw, hsR, hsG⟩, by rw [ht]; exact hP.sub [3, 0, 1, 2, 4] rfl, hD.sub [3, 0, 1, 2, 4] (by decide +kernel) rfl⟩, hS.F ht⟩) hS.2.2 dX9_saves_15 hlk
set_option maxHeartbeats 4000000 in
set_option maxRecDepth 100000 in
theorem c_X9_mend (l : Launch) (D : va_G) (cI cJ cZ cS : ClassId) (ta : Nat) (sa sv : Nat → Nat) (sz : Nat) (h0 : Nat) (ys : Nat) (yk : Nat) (yo : Nat) (yt : Nat) (mk0 : Int32) (yfa : Nat) (yfe : Nat) (mL : Int32) (mS : Int32) (mM : Int32) (yro : Nat) (yhe : Nat) (ygr : Nat) (mF : Int32) (mC : Int32) (mY : Int32) (yta : Nat) (mz : Nat) (mf : Nat) (mt : Nat) (mv : Int32) (mw : Int32) (ywa : Nat) (ybi : Nat) (ysi : Nat) (ynu : Nat) (ymo : Nat) (ms : Nat → Int32) (fa : Nat → Int32) (fe : Nat → Int32) (mq : Nat → Int32) (P : Nat) (Rn : Nat) (Wn : Nat) (fae : Nat → Int32) (fal : Nat → Int32) (fau : Nat → Int32) (fao : Nat → Int32) (farn : Nat → Int32) (farp : Nat → Int32) (fak : Nat → Int32) (fawn : Nat → Int32) (fawp : Nat → Int32) (fat : Nat → Int32) (fas : Nat → Int32) (hs0 : ms 0 = nI P) (hs1 : ms 1 = nI Rn) (hs2 : ms 2 = nI Wn) (hsS : SI ms) (hsM : MI ms) (hsp : P ≤ 10) (hsr : Rn ≤ 8) (hsw : Wn ≤ 8) (hsR : RI Rn ms) (hsG : FR P ms fae fal fau fao farn farp fak fawn fawp fat fas) : Met l yX9_mend (Cond.code yX9_mend cX9_mend 7 (some .int) :: wsU) ({ frames := 5, cells := 0, slots := 0, locals := 118 }) (va_Pc [.ref h0] (XW D (xT cI cJ cZ cS) ta sa sv [(h0, .inr (9, [.ref ys, .ref yk, .ref yo, .ref yt, .int mk0, .ref yfa, .ref yfe, .int mL, .int mS, .int mM, .ref yro, .ref yhe, .ref ygr, .int mF, .int mC, .int mY, .ref yta, .int (nI (mz)), .int (nI (mf)), .int (nI (mt)), .int mv, .int mw, .ref ywa, .ref ybi, .ref ysi, .ref ynu, .ref ymo])), (ys, .inl (cI, 449, .inl ms)), (yfa, .inl (cI, 100, .inl fa)), (yfe, .inl (cI, 100, .inl fe)), (yt, .inl (cI, 7, .inl mq))] sz)) (XQi (fun (r : Int32) (u : Int32 × Int32 × (Nat → Int32) × (Nat → Int32) × (Nat → Int32) × (Nat → Int32)) => match u with | (mL2, mS2, ms2, fa2, fe2, mq2) => (True) ∧ (ms2 0 = nI P) ∧ (ms2 1 = nI Rn) ∧ (ms2 2 = nI Wn) ∧ (SI ms2) ∧ (MI ms2) ∧ (P ≤ 10) ∧ (Rn ≤ 8) ∧ (Wn ≤ 8) ∧ (RI Rn ms2) ∧ (FR P ms2 fae fal fau fao farn farp fak fawn fawp fat fas)) D (fun (u : Int32 × Int32 × (Nat → Int32) × (Nat → Int32) × (Nat → Int32) × (Nat → Int32)) => match u with | (mL2, mS2, ms2, fa2, fe2, mq2) => [(h0, .inr (9, [.ref ys, .ref yk, .ref yo, .ref yt, .int mk0, .ref yfa, .ref yfe, .int mL2, .int mS2, .int mM, .ref yro, .ref yhe, .ref ygr, .int mF, .int mC, .int mY, .ref yta, .int (nI (mz)), .int (nI (mf)), .int (nI (mt)), .int mv, .int mw, .ref ywa, .ref ybi, .ref ysi, .ref ynu, .ref ymo])), (ys, .inl (cI, 449, .inl ms2)), (yfa, .inl (cI, 100, .inl fa2)), (yfe, .inl (cI, 100, .inl fe2)), (yt, .inl (cI, 7, .inl mq2))]) (va_A [(h0, .inr (9, [.ref ys, .ref yk, .ref yo, .ref yt, .int mk0, .ref yfa, .ref yfe, .int mL, .int mS, .int mM, .ref yro, .ref yhe, .ref ygr, .int mF, .int mC, .int mY, .ref yta, .int (nI (mz)), .int (nI (mf)), .int (nI (mt)), .int mv, .int mw, .ref ywa, .ref ybi, .ref ysi, .ref ynu, .ref ymo])), (ys, .inl (cI, 449, .inl ms)), (yfa, .inl (cI, 100, .inl fa)), (yfe, .inl (cI, 100, .inl fe)), (yt, .inl (cI, 7, .inl mq))] sz)) 0 0 (va_A [(h0, .inr (9, [.ref ys, .ref yk, .ref yo, .ref yt, .int mk0, .ref yfa, .ref yfe, .int mL, .int mS, .int mM, .ref yro, .ref yhe, .ref ygr, .int mF, .int mC, .int mY, .ref yta, .int (nI (mz)), .int (nI (mf)), .int (nI (mt)), .int mv, .int mw, .ref ywa, .ref ybi, .ref ysi, .ref ynu, .ref ymo])), (ys, .inl (cI, 449, .inl ms)), (yfa, .inl (cI, 100, .inl fa)), (yfe, .inl (cI, 100, .inl fe)), (yt, .inl (cI, 7, .inl mq))] sz) := by
  refine xh (QA := fun A => XQi (fun (r : Int32) (u : Int32 × Int32 × (Nat → Int32) × (Nat → Int32) × (Nat → Int32) × (Nat → Int32)) => match u with | (mL2, mS2, ms2, fa2, fe2, mq2) => (True) ∧ (ms2 0 = nI P) ∧ (ms2 1 = nI Rn) ∧ (ms2 2 = nI Wn) ∧ (SI ms2) ∧ (MI ms2) ∧ (P ≤ 10) ∧ (Rn ≤ 8) ∧ (Wn ≤ 8) ∧ (RI Rn ms2) ∧ (FR P ms2 fae fal fau fao farn farp fak fawn fawp fat fas)) D (fun (u : Int32 × Int32 × (Nat → Int32) × (Nat → Int32) × (Nat → Int32) × (Nat → Int32)) => match u with | (mL2, mS2, ms2, fa2, fe2, mq2) => [(h0, .inr (9, [.ref ys, .ref yk, .ref yo, .ref yt, .int mk0, .ref yfa, .ref yfe, .int mL2, .int mS2, .int mM, .ref yro, .ref yhe, .ref ygr, .int mF, .int mC, .int mY, .ref yta, .int (nI (mz)), .int (nI (mf)), .int (nI (mt)), .int mv, .int mw, .ref ywa, .ref ybi, .ref ysi, .ref ynu, .ref ymo])), (ys, .inl (cI, 449, .inl ms2)), (yfa, .inl (cI, 100, .inl fa2)), (yfe, .inl (cI, 100, .inl fe2)), (yt, .inl (cI, 7, .inl mq2))]) A) (fr := fun A => A) (by decide) (Nat.le_of_ble_eq_true rfl) ?_
  intro p e s m below meth c ls A hF hr hlk hin hsz hP hK hD hN hZ hA hS hl
  have hF : CallFix p m c cX9_mend 7 s _ _ RX9 := hF
  have hx := hF.1
  have hb := hF.2.1
  have hml := hF.2.2.1
  have hown := hF.2.2.2.1
  have hu : ∀ w ∈ wsU, w.before _ s = true := fun w h => hF.2.2.2.2 w (List.mem_cons_of_mem _ h)
  have hl : lv_has ls 7 [(0, .ref h0)] := hl
  refine lv_aload_n hx hb dX9_mend_0 rfl (lv_at hl 0 rfl) ?_
  refine xc_Vv (wr := [(yt, .inl (cI, 7, .inl mq))]) hF (c_X9_findFar l D cI cJ cZ cS ta sa sv s.heap.size h0 ys yk yo yt mk0 yfa yfe mL mS mM yro yhe ygr mF mC mY yta mz mf mt mv mw ywa ybi ysi ynu ymo ms fa fe P Rn Wn fae fal fau fao farn farp fak fawn fawp fat fas hs0 hs1 hs2 hsS hsM hsp hsr hsw hsR hsG) kv_X9_113 ⟨rfl, rfl, Nat.le_of_ble_eq_true rfl, Nat.le_of_ble_eq_true rfl⟩ ⟨Nat.le_of_ble_eq_true rfl, Nat.le_of_ble_eq_true rfl⟩ hK hN hZ hP hD hS hA [0, 1, 2, 3] [4] rfl rfl rfl rfl (by decide) 0 rfl rfl rfl rfl hl.1 rfl (Nat.le_of_ble_eq_true rfl) dX9_mend_1 (fun u_r_1 H locs hw_r_1 hP hD hS => ?_)
  obtain ⟨mL2_2, fa2_3, fe2_4⟩ := u_r_1
  try dsimp only at hw_r_1
  have i_5 := hw_r_1
  have hP : va_P D vwCl [(yt, .inl (cI, 7, .inl mq)), (h0, .inr (9, [.ref ys, .ref yk, .ref yo, .ref yt, .int mk0, .ref yfa, .ref yfe, .int mL2_2, .int mS, .int mM, .ref yro, .ref yhe, .ref ygr, .int mF, .int mC, .int mY, .ref yta, .int (nI (mz)), .int (nI (mf)), .int (nI (mt)), .int mv, .int mw, .ref ywa, .ref ybi, .ref ysi, .ref ynu, .ref ymo])), (ys, .inl (cI, 449, .inl ms)), (yfa, .inl (cI, 100, .inl fa2_3)), (yfe, .inl (cI, 100, .inl fe2_4))] H := hP
  have hD : va_D A [(yt, .inl (cI, 7, .inl mq)), (h0, .inr (9, [.ref ys, .ref yk, .ref yo, .ref yt, .int mk0, .ref yfa, .ref yfe, .int mL2_2, .int mS, .int mM, .ref yro, .ref yhe, .ref ygr, .int mF, .int mC, .int mY, .ref yta, .int (nI (mz)), .int (nI (mf)), .int (nI (mt)), .int mv, .int mw, .ref ywa, .ref ybi, .ref ysi, .ref ynu, .ref ymo])), (ys, .inl (cI, 449, .inl ms)), (yfa, .inl (cI, 100, .inl fa2_3)), (yfe, .inl (cI, 100, .inl fe2_4))] := hD
  refine lv_aload_n hx hb dX9_mend_4 rfl (lv_at hl 0 rfl) ?_
  refine xg hF kf_X9_109 hK hP 1 rfl rfl dX9_mend_5 ?_
  refine lv_if_eq (tgt := 18) hx hb dX9_mend_8 (by decide) (fun c_6 => ?_) (fun c_6 => ?_)
  · skip
    refine lv_aload_n hx hb dX9_mend_18 rfl (lv_at hl 0 rfl) ?_
    refine xc_Vi (wr := [(yt, .inl (cI, 7, .inl mq)), (yfe, .inl (cI, 100, .inl fe2_4))]) hF (c_X9_tripOfHome l D cI cJ cZ cS ta sa sv H.size h0 ys yk yo yt mk0 yfa yfe mL2_2 mS mM yro yhe ygr mF mC mY yta mz mf mt mv mw ywa ybi ysi ynu ymo ms fa2_3 P Rn Wn fae fal fau fao farn farp fak fawn fawp fat fas hs0 hs1 hs2 hsS hsM hsp hsr hsw hsR hsG) kv_X9_226 ⟨rfl, rfl, Nat.le_of_ble_eq_true rfl, Nat.le_of_ble_eq_true rfl⟩ ⟨Nat.le_of_ble_eq_true rfl, Nat.le_of_ble_eq_true rfl⟩ hK hN hZ hP hD hS hA [1, 2, 3] [0, 4] rfl rfl rfl rfl (by decide) 0 rfl rfl rfl rfl hl.1 rfl (Nat.le_of_ble_eq_true rfl) dX9_mend_19 (fun r_7 u_r_7 H locs hw_r_7 hP hD hS => ?_)
    obtain ⟨mS2_8, rfl⟩ : ∃ z, z = u_r_7 := ⟨_, rfl⟩
    try dsimp only at hw_r_7
    have hP : va_P D vwCl [(yt, .inl (cI, 7, .inl mq)), (yfe, .inl (cI, 100, .inl fe2_4)), (h0, .inr (9, [.ref ys, .ref yk, .ref yo, .ref yt, .int mk0, .ref yfa, .ref yfe, .int mL2_2, .int mS2_8, .int mM, .ref yro, .ref yhe, .ref ygr, .int mF, .int mC, .int mY, .ref yta, .int (nI (mz)), .int (nI (mf)), .int (nI (mt)), .int mv, .int mw, .ref ywa, .ref ybi, .ref ysi, .ref ynu, .ref ymo])), (ys, .inl (cI, 449, .inl ms)), (yfa, .inl (cI, 100, .inl fa2_3))] H := hP
    have hD : va_D A [(yt, .inl (cI, 7, .inl mq)), (yfe, .inl (cI, 100, .inl fe2_4)), (h0, .inr (9, [.ref ys, .ref yk, .ref yo, .ref yt, .int mk0, .ref yfa, .ref yfe, .int mL2_2, .int mS2_8, .int mM, .ref yro, .ref yhe, .ref ygr, .int mF, .int mC, .int mY, .ref yta, .int (nI (mz)), .int (nI (mf)), .int (nI (mt)), .int mv, .int mw, .ref ywa, .ref ybi, .ref ysi, .ref ynu, .ref ymo])), (ys, .inl (cI, 449, .inl ms)), (yfa, .inl (cI, 100, .inl fa2_3))] := hD
    refine lv_istore_n (lv' := [(1, .int r_7), (0, .ref h0)]) hx hb dX9_mend_22 rfl hl (by decide) rfl (fun ls hl => ?_)
    refine lv_iconst (v := (-1)) hx hb dX9_mend_23 (by decide) ?_
    refine lv_istore_n (lv' := [(2, .int (-1)), (1, .int r_7), (0, .ref h0)]) hx hb dX9_mend_24 rfl hl (by decide) rfl (fun ls hl => ?_)
    refine lv_iconst (v := 0) hx hb dX9_mend_25 (by decide) ?_
    refine lv_istore_n (lv' := [(3, .int 0), (2, .int (-1)), (1, .int r_7), (0, .ref h0)]) hx hb dX9_mend_26 rfl hl (by decide) rfl (fun ls hl => ?_)
    refine lv_iconst (v := 0) hx hb dX9_mend_27 (by decide) ?_
    refine lv_istore (lv' := [(4, .int 0), (3, .int 0), (2, .int (-1)), (1, .int r_7), (0, .ref h0)]) hx hb dX9_mend_28 hl (by decide) rfl (fun ls hl => ?_)
    suffices loop_30 : ∀ (n_30 : Nat) (i : Nat) (x1_ : Int32) (u1_ : Int32) (L1_ : Int32) (S1_ : Int32) (s1_ : Nat → Int32) (f1_ : Nat → Int32) (g1_ : Nat → Int32) (H : Heap) (locs : List Loc) (ls : Array Slot), P - i < n_30 → (i ≤ P) → (s1_ 0 = nI P) → (s1_ 1 = nI Rn) → (s1_ 2 = nI Wn) → (SI s1_) → (MI s1_) → (P ≤ 10) → (Rn ≤ 8) → (Wn ≤ 8) → (RI Rn s1_) → (FR P s1_ fae fal fau fao farn farp fak fawn fawp fat fas) → va_P D vwCl [(yt, .inl (cI, 7, .inl mq)), (yfe, .inl (cI, 100, .inl g1_)), (h0, .inr (9, [.ref ys, .ref yk, .ref yo, .ref yt, .int mk0, .ref yfa, .ref yfe, .int L1_, .int S1_, .int mM, .ref yro, .ref yhe, .ref ygr, .int mF, .int mC, .int mY, .ref yta, .int (nI (mz)), .int (nI (mf)), .int (nI (mt)), .int mv, .int mw, .ref ywa, .ref ybi, .ref ysi, .ref ynu, .ref ymo])), (ys, .inl (cI, 449, .inl s1_)), (yfa, .inl (cI, 100, .inl f1_))] H → va_D A [(yt, .inl (cI, 7, .inl mq)), (yfe, .inl (cI, 100, .inl g1_)), (h0, .inr (9, [.ref ys, .ref yk, .ref yo, .ref yt, .int mk0, .ref yfa, .ref yfe, .int L1_, .int S1_, .int mM, .ref yro, .ref yhe, .ref ygr, .int mF, .int mC, .int mY, .ref yta, .int (nI (mz)), .int (nI (mf)), .int (nI (mt)), .int mv, .int mw, .ref ywa, .ref ybi, .ref ysi, .ref ynu, .ref ymo])), (ys, .inl (cI, 449, .inl s1_)), (yfa, .inl (cI, 100, .inl f1_))] → va_S A s.heap H locs → lv_has ls 7 [(4, .int (nI (i))), (3, .int u1_), (2, .int x1_), (1, .int r_7), (0, .ref h0)] → W p l e ({ frames := 5, cells := 0, slots := 0, locals := 118 }) s m ([.ref h0] : List Value).toArray below meth c H locs 0 0 (MQ below (XQi (fun (r : Int32) (u : Int32 × Int32 × (Nat → Int32) × (Nat → Int32) × (Nat → Int32) × (Nat → Int32)) => match u with | (mL2, mS2, ms2, fa2, fe2, mq2) => (True) ∧ (ms2 0 = nI P) ∧ (ms2 1 = nI Rn) ∧ (ms2 2 = nI Wn) ∧ (SI ms2) ∧ (MI ms2) ∧ (P ≤ 10) ∧ (Rn ≤ 8) ∧ (Wn ≤ 8) ∧ (RI Rn ms2) ∧ (FR P ms2 fae fal fau fao farn farp fak fawn fawp fat fas)) D (fun (u : Int32 × Int32 × (Nat → Int32) × (Nat → Int32) × (Nat → Int32) × (Nat → Int32)) => match u with | (mL2, mS2, ms2, fa2, fe2, mq2) => [(h0, .inr (9, [.ref ys, .ref yk, .ref yo, .ref yt, .int mk0, .ref yfa, .ref yfe, .int mL2, .int mS2, .int mM, .ref yro, .ref yhe, .ref ygr, .int mF, .int mC, .int mY, .ref yta, .int (nI (mz)), .int (nI (mf)), .int (nI (mt)), .int mv, .int mw, .ref ywa, .ref ybi, .ref ysi, .ref ynu, .ref ymo])), (ys, .inl (cI, 449, .inl ms2)), (yfa, .inl (cI, 100, .inl fa2)), (yfe, .inl (cI, 100, .inl fe2)), (yt, .inl (cI, 7, .inl mq2))]) A) ([.ref h0] : List Value).toArray s 0 0 A) (F0 m 30 ls []) by
      exact loop_30 _ 0 (-1) 0 mL2_2 mS2_8 ms fa2_3 fe2_4 _ _ _ (Nat.lt_succ_self _) (by omega) hs0 hs1 hs2 hsS hsM hsp hsr hsw hsR hsG hP hD hS (lv_sub hl [0, 1, 2, 3, 4] rfl)
    intro n_30
    induction n_30 with
    | zero =>
      intro i x1_ u1_ L1_ S1_ s1_ f1_ g1_ H locs ls hm_30
      exact absurd hm_30 (Nat.not_lt_zero _)
    | succ n_30 ih_30 =>
      intro i x1_ u1_ L1_ S1_ s1_ f1_ g1_ H locs ls hm_30 hi ht0 ht1 ht2 htS htM htp htr htw htR htG hP hD hS hl
      refine lv_iload hx hb dX9_mend_30 (lv_at hl 0 rfl) ?_
      refine lv_aload_n hx hb dX9_mend_32 rfl (lv_at hl 4 rfl) ?_
      refine xg hF kf_X9_7 hK hP 2 rfl rfl dX9_mend_33 ?_
      refine lv_iconst (v := 0) hx hb dX9_mend_36 (by decide) ?_
      refine va_iald hx hb hK hP 3 0 rfl rfl (xin 0 449 (by decide) (by decide)) dX9_mend_37 ?_
      refine xl_i (y := nI (P)) ht0 ?_
      refine lv_icmp_ge (tgt := 132) hx hb dX9_mend_38 (by decide) (fun c_9 => ?_) (fun c_9 => ?_)
      · skip
        have nc_9 : P ≤ i := xn_le (a := P) (b := i) (by omega) (by omega) c_9
        refine lv_iload_n hx hb dX9_mend_132 rfl (lv_at hl 2 rfl) ?_
        refine lv_if_ge (tgt := 145) hx hb dX9_mend_133 (by decide) (fun c_10 => ?_) (fun c_10 => ?_)
        · skip
          refine lv_iload_n hx hb dX9_mend_145 rfl (lv_at hl 2 rfl) ?_
          exact W.iret (v := x1_) hx hb hr (fun t ht hW => ⟨⟨x1_, (L1_, S1_, s1_, f1_, g1_, mq), rfl, ⟨trivial, ht0, ht1, ht2, htS, htM, htp, htr, htw, htR, htG⟩, by rw [ht]; exact hP.sub [2, 3, 4, 1, 0] rfl, hD.sub [2, 3, 4, 1, 0] (by decide +kernel) rfl⟩, hS.F ht⟩) hS.2.2 dX9_mend_146 hlk
        · skip
          refine lv_aload_n hx hb dX9_mend_136 rfl (lv_at hl 4 rfl) ?_
          refine lv_ldc (v := (-1000000004)) hx hb hown (hu _ uw699) dX9_mend_137 ?_
          refine xc_Vi (wr := [(yfe, .inl (cI, 100, .inl g1_)), (ys, .inl (cI, 449, .inl s1_)), (yfa, .inl (cI, 100, .inl f1_))]) hF (c_X9_finds_N l D cI cJ cZ cS ta sa sv H.size h0 ys yk yo yt mk0 yfa yfe L1_ S1_ mM yro yhe ygr mF mC mY yta mz mf mt mv mw ywa ybi ysi ynu ymo mq ) kv_X9_70 ⟨rfl, rfl, Nat.le_of_ble_eq_true rfl, Nat.le_of_ble_eq_true rfl⟩ ⟨Nat.le_of_ble_eq_true rfl, Nat.le_of_ble_eq_true rfl⟩ hK hN hZ hP hD hS hA [2, 0] [1, 3, 4] rfl rfl rfl rfl (by decide) 0 rfl rfl rfl rfl hl.1 rfl (Nat.le_of_ble_eq_true rfl) dX9_mend_139 (fun r_11 u_r_11 H locs hw_r_11 hP hD hS => ?_)
          obtain ⟨mq2_12, rfl⟩ : ∃ z, z = u_r_11 := ⟨_, rfl⟩
          try dsimp only at hw_r_11
          have hP : va_P D vwCl [(yfe, .inl (cI, 100, .inl g1_)), (ys, .inl (cI, 449, .inl s1_)), (yfa, .inl (cI, 100, .inl f1_)), (h0, .inr (9, [.ref ys, .ref yk, .ref yo, .ref yt, .int mk0, .ref yfa, .ref yfe, .int L1_, .int S1_, .int mM, .ref yro, .ref yhe, .ref ygr, .int mF, .int mC, .int mY, .ref yta, .int (nI (mz)), .int (nI (mf)), .int (nI (mt)), .int mv, .int mw, .ref ywa, .ref ybi, .ref ysi, .ref ynu, .ref ymo])), (yt, .inl (cI, 7, .inl mq2_12))] H := hP
          have hD : va_D A [(yfe, .inl (cI, 100, .inl g1_)), (ys, .inl (cI, 449, .inl s1_)), (yfa, .inl (cI, 100, .inl f1_)), (h0, .inr (9, [.ref ys, .ref yk, .ref yo, .ref yt, .int mk0, .ref yfa, .ref yfe, .int L1_, .int S1_, .int mM, .ref yro, .ref yhe, .ref ygr, .int mF, .int mC, .int mY, .ref yta, .int (nI (mz)), .int (nI (mf)), .int (nI (mt)), .int mv, .int mw, .ref ywa, .ref ybi, .ref ysi, .ref ynu, .ref ymo])), (yt, .inl (cI, 7, .inl mq2_12))] := hD
          subst hw_r_11
          refine lv_goto (tgt := 146) hx hb dX9_mend_142 (by decide) ?_
          exact W.iret (v := (-1000000004)) hx hb hr (fun t ht hW => ⟨⟨(-1000000004), (L1_, S1_, s1_, f1_, g1_, mq2_12), rfl, ⟨trivial, ht0, ht1, ht2, htS, htM, htp, htr, htw, htR, htG⟩, by rw [ht]; exact hP.sub [3, 1, 2, 0, 4] rfl, hD.sub [3, 1, 2, 0, 4] (by decide +kernel) rfl⟩, hS.F ht⟩) hS.2.2 dX9_mend_146 hlk
      · skip
        have nc_9 : i < P := xn_nle (a := P) (b := i) (by omega) (by omega) c_9
        refine lv_iload_n hx hb dX9_mend_41 rfl (lv_at hl 3 rfl) ?_
        refine lv_ldc (v := 100000000) hx hb hown (hu _ uw701) dX9_mend_42 ?_
        refine lv_icmp_eq (tgt := 132) hx hb dX9_mend_44 (by decide) (fun c_13 => ?_) (fun c_13 => ?_)
        · skip
          refine lv_iload_n hx hb dX9_mend_132 rfl (lv_at hl 2 rfl) ?_
          refine lv_if_ge (tgt := 145) hx hb dX9_mend_133 (by decide) (fun c_14 => ?_) (fun c_14 => ?_)
          · skip
            refine lv_iload_n hx hb dX9_mend_145 rfl (lv_at hl 2 rfl) ?_
            exact W.iret (v := x1_) hx hb hr (fun t ht hW => ⟨⟨x1_, (L1_, S1_, s1_, f1_, g1_, mq), rfl, ⟨trivial, ht0, ht1, ht2, htS, htM, htp, htr, htw, htR, htG⟩, by rw [ht]; exact hP.sub [2, 3, 4, 1, 0] rfl, hD.sub [2, 3, 4, 1, 0] (by decide +kernel) rfl⟩, hS.F ht⟩) hS.2.2 dX9_mend_146 hlk
          · skip
            refine lv_aload_n hx hb dX9_mend_136 rfl (lv_at hl 4 rfl) ?_
            refine lv_ldc (v := (-1000000004)) hx hb hown (hu _ uw699) dX9_mend_137 ?_
            refine xc_Vi (wr := [(yfe, .inl (cI, 100, .inl g1_)), (ys, .inl (cI, 449, .inl s1_)), (yfa, .inl (cI, 100, .inl f1_))]) hF (c_X9_finds_N l D cI cJ cZ cS ta sa sv H.size h0 ys yk yo yt mk0 yfa yfe L1_ S1_ mM yro yhe ygr mF mC mY yta mz mf mt mv mw ywa ybi ysi ynu ymo mq ) kv_X9_70 ⟨rfl, rfl, Nat.le_of_ble_eq_true rfl, Nat.le_of_ble_eq_true rfl⟩ ⟨Nat.le_of_ble_eq_true rfl, Nat.le_of_ble_eq_true rfl⟩ hK hN hZ hP hD hS hA [2, 0] [1, 3, 4] rfl rfl rfl rfl (by decide) 0 rfl rfl rfl rfl hl.1 rfl (Nat.le_of_ble_eq_true rfl) dX9_mend_139 (fun r_15 u_r_15 H locs hw_r_15 hP hD hS => ?_)
            obtain ⟨mq2_16, rfl⟩ : ∃ z, z = u_r_15 := ⟨_, rfl⟩
            try dsimp only at hw_r_15
            have hP : va_P D vwCl [(yfe, .inl (cI, 100, .inl g1_)), (ys, .inl (cI, 449, .inl s1_)), (yfa, .inl (cI, 100, .inl f1_)), (h0, .inr (9, [.ref ys, .ref yk, .ref yo, .ref yt, .int mk0, .ref yfa, .ref yfe, .int L1_, .int S1_, .int mM, .ref yro, .ref yhe, .ref ygr, .int mF, .int mC, .int mY, .ref yta, .int (nI (mz)), .int (nI (mf)), .int (nI (mt)), .int mv, .int mw, .ref ywa, .ref ybi, .ref ysi, .ref ynu, .ref ymo])), (yt, .inl (cI, 7, .inl mq2_16))] H := hP
            have hD : va_D A [(yfe, .inl (cI, 100, .inl g1_)), (ys, .inl (cI, 449, .inl s1_)), (yfa, .inl (cI, 100, .inl f1_)), (h0, .inr (9, [.ref ys, .ref yk, .ref yo, .ref yt, .int mk0, .ref yfa, .ref yfe, .int L1_, .int S1_, .int mM, .ref yro, .ref yhe, .ref ygr, .int mF, .int mC, .int mY, .ref yta, .int (nI (mz)), .int (nI (mf)), .int (nI (mt)), .int mv, .int mw, .ref ywa, .ref ybi, .ref ysi, .ref ynu, .ref ymo])), (yt, .inl (cI, 7, .inl mq2_16))] := hD
            subst hw_r_15
            refine lv_goto (tgt := 146) hx hb dX9_mend_142 (by decide) ?_
            exact W.iret (v := (-1000000004)) hx hb hr (fun t ht hW => ⟨⟨(-1000000004), (L1_, S1_, s1_, f1_, g1_, mq2_16), rfl, ⟨trivial, ht0, ht1, ht2, htS, htM, htp, htr, htw, htR, htG⟩, by rw [ht]; exact hP.sub [3, 1, 2, 0, 4] rfl, hD.sub [3, 1, 2, 0, 4] (by decide +kernel) rfl⟩, hS.F ht⟩) hS.2.2 dX9_mend_146 hlk
        · skip
          refine lv_iload hx hb dX9_mend_47 (lv_at hl 0 rfl) ?_
          refine lv_iconst (v := 1) hx hb dX9_mend_49 (by decide) ?_
          refine lv_iadd hx hb dX9_mend_50 ?_
          refine xl_i (y := nI (i + 1)) (nI_add i 1) ?_
          refine lv_istore (lv' := [(5, .int (nI (i + 1))), (4, .int (nI (i))), (3, .int u1_), (2, .int x1_), (1, .int r_7), (0, .ref h0)]) hx hb dX9_mend_51 hl (by decide) rfl (fun ls hl => ?_)
          suffices loop_53 : ∀ (n_53 : Nat) (i2 : Nat) (x2_ : Int32) (u2_ : Int32) (L2_ : Int32) (S2_ : Int32) (s2_ : Nat → Int32) (f2_ : Nat → Int32) (g2_ : Nat → Int32) (H : Heap) (locs : List Loc) (ls : Array Slot), P - i2 < n_53 → (i2 ≤ P) → (s2_ 0 = nI P) → (s2_ 1 = nI Rn) → (s2_ 2 = nI Wn) → (SI s2_) → (MI s2_) → (P ≤ 10) → (Rn ≤ 8) → (Wn ≤ 8) → (RI Rn s2_) → (FR P s2_ fae fal fau fao farn farp fak fawn fawp fat fas) → va_P D vwCl [(yt, .inl (cI, 7, .inl mq)), (yfe, .inl (cI, 100, .inl g2_)), (h0, .inr (9, [.ref ys, .ref yk, .ref yo, .ref yt, .int mk0, .ref yfa, .ref yfe, .int L2_, .int S2_, .int mM, .ref yro, .ref yhe, .ref ygr, .int mF, .int mC, .int mY, .ref yta, .int (nI (mz)), .int (nI (mf)), .int (nI (mt)), .int mv, .int mw, .ref ywa, .ref ybi, .ref ysi, .ref ynu, .ref ymo])), (ys, .inl (cI, 449, .inl s2_)), (yfa, .inl (cI, 100, .inl f2_))] H → va_D A [(yt, .inl (cI, 7, .inl mq)), (yfe, .inl (cI, 100, .inl g2_)), (h0, .inr (9, [.ref ys, .ref yk, .ref yo, .ref yt, .int mk0, .ref yfa, .ref yfe, .int L2_, .int S2_, .int mM, .ref yro, .ref yhe, .ref ygr, .int mF, .int mC, .int mY, .ref yta, .int (nI (mz)), .int (nI (mf)), .int (nI (mt)), .int mv, .int mw, .ref ywa, .ref ybi, .ref ysi, .ref ynu, .ref ymo])), (ys, .inl (cI, 449, .inl s2_)), (yfa, .inl (cI, 100, .inl f2_))] → va_S A s.heap H locs → lv_has ls 7 [(5, .int (nI (i2))), (4, .int (nI (i))), (3, .int u2_), (2, .int x2_), (1, .int r_7), (0, .ref h0)] → W p l e ({ frames := 5, cells := 0, slots := 0, locals := 118 }) s m ([.ref h0] : List Value).toArray below meth c H locs 0 0 (MQ below (XQi (fun (r : Int32) (u : Int32 × Int32 × (Nat → Int32) × (Nat → Int32) × (Nat → Int32) × (Nat → Int32)) => match u with | (mL2, mS2, ms2, fa2, fe2, mq2) => (True) ∧ (ms2 0 = nI P) ∧ (ms2 1 = nI Rn) ∧ (ms2 2 = nI Wn) ∧ (SI ms2) ∧ (MI ms2) ∧ (P ≤ 10) ∧ (Rn ≤ 8) ∧ (Wn ≤ 8) ∧ (RI Rn ms2) ∧ (FR P ms2 fae fal fau fao farn farp fak fawn fawp fat fas)) D (fun (u : Int32 × Int32 × (Nat → Int32) × (Nat → Int32) × (Nat → Int32) × (Nat → Int32)) => match u with | (mL2, mS2, ms2, fa2, fe2, mq2) => [(h0, .inr (9, [.ref ys, .ref yk, .ref yo, .ref yt, .int mk0, .ref yfa, .ref yfe, .int mL2, .int mS2, .int mM, .ref yro, .ref yhe, .ref ygr, .int mF, .int mC, .int mY, .ref yta, .int (nI (mz)), .int (nI (mf)), .int (nI (mt)), .int mv, .int mw, .ref ywa, .ref ybi, .ref ysi, .ref ynu, .ref ymo])), (ys, .inl (cI, 449, .inl ms2)), (yfa, .inl (cI, 100, .inl fa2)), (yfe, .inl (cI, 100, .inl fe2)), (yt, .inl (cI, 7, .inl mq2))]) A) ([.ref h0] : List Value).toArray s 0 0 A) (F0 m 53 ls []) by
            exact loop_53 _ (i + 1) x1_ u1_ L1_ S1_ s1_ f1_ g1_ _ _ _ (Nat.lt_succ_self _) (by omega) ht0 ht1 ht2 htS htM htp htr htw htR htG hP hD hS (lv_sub hl [0, 1, 2, 3, 4, 5] rfl)
          intro n_53
          induction n_53 with
          | zero =>
            intro i2 x2_ u2_ L2_ S2_ s2_ f2_ g2_ H locs ls hm_53
            exact absurd hm_53 (Nat.not_lt_zero _)
          | succ n_53 ih_53 =>
            intro i2 x2_ u2_ L2_ S2_ s2_ f2_ g2_ H locs ls hm_53 hi2 hv0 hv1 hv2 hvS hvM hvp hvr hvw hvR hvG hP hD hS hl
            refine lv_iload hx hb dX9_mend_53 (lv_at hl 0 rfl) ?_
            refine lv_aload_n hx hb dX9_mend_55 rfl (lv_at hl 5 rfl) ?_
            refine xg hF kf_X9_7 hK hP 2 rfl rfl dX9_mend_56 ?_
            refine lv_iconst (v := 0) hx hb dX9_mend_59 (by decide) ?_
            refine va_iald hx hb hK hP 3 0 rfl rfl (xin 0 449 (by decide) (by decide)) dX9_mend_60 ?_
            refine xl_i (y := nI (P)) hv0 ?_
            refine lv_icmp_ge (tgt := 126) hx hb dX9_mend_61 (by decide) (fun c_17 => ?_) (fun c_17 => ?_)
            · skip
              have nc_17 : P ≤ i2 := xn_le (a := P) (b := i2) (by omega) (by omega) c_17
              refine lv_iinc (v := nI (i + 1)) (lv' := [(4, .int (nI (i + 1))), (5, .int (nI (i2))), (3, .int u2_), (2, .int x2_), (1, .int r_7), (0, .ref h0)]) hx hb dX9_mend_126 hl (k := 1) rfl (nI_1 (i)) (by decide) rfl (fun ls hl => ?_)
              refine lv_goto (tgt := 30) hx hb dX9_mend_129 (by decide) ?_
              exact ih_30 (i + 1) x2_ u2_ L2_ S2_ s2_ f2_ g2_ _ _ _ (by omega) (by omega) hv0 hv1 hv2 hvS hvM hvp hvr hvw hvR hvG (hP.sub [0, 1, 2, 3, 4] rfl) (hD.sub [0, 1, 2, 3, 4] (by decide +kernel) rfl) hS (lv_sub hl [0, 2, 3, 4, 5] rfl)
            · skip
              have nc_17 : i2 < P := xn_nle (a := P) (b := i2) (by omega) (by omega) c_17
              refine lv_aload_n hx hb dX9_mend_64 rfl (lv_at hl 5 rfl) ?_
              refine lv_iload hx hb dX9_mend_65 (lv_at hl 1 rfl) ?_
              refine lv_iload hx hb dX9_mend_67 (lv_at hl 0 rfl) ?_
              refine xc_Vr hF (c_X9_areBoth l D cI cJ cZ cS ta sa sv H.size h0 ys yk yo yt mk0 yfa yfe L2_ S2_ mM yro yhe ygr mF mC mY yta mz mf mt mv mw ywa ybi ysi ynu ymo s2_ P Rn Wn fae fal fau fao farn farp fak fawn fawp fat fas i i2 (by omega) (by omega) hv0 hv1 hv2 hvS hvM hvp hvr hvw hvR hvG) kv_X9_183 ⟨rfl, rfl, Nat.le_of_ble_eq_true rfl, Nat.le_of_ble_eq_true rfl⟩ ⟨Nat.le_of_ble_eq_true rfl, Nat.le_of_ble_eq_true rfl⟩ hK hN hZ hP hD hS hA [2, 3] rfl rfl 0 rfl rfl rfl rfl hl.1 rfl (Nat.le_of_ble_eq_true rfl) dX9_mend_69 (fun r_18 hw_r_18 => ?_)
              rcases hw_r_18 with rfl | rfl
              · skip
                refine lv_if_eq (tgt := 87) hx hb dX9_mend_72 (by decide) (fun c_19 => absurd c_19 (by decide)) (fun c_19 => ?_)
                refine lv_aload_n hx hb dX9_mend_75 rfl (lv_at hl 5 rfl) ?_
                refine lv_iload hx hb dX9_mend_76 (lv_at hl 1 rfl) ?_
                refine lv_iload hx hb dX9_mend_78 (lv_at hl 0 rfl) ?_
                refine lv_iload_n hx hb dX9_mend_80 rfl (lv_at hl 4 rfl) ?_
                refine xc_Vi (wr := [(yt, .inl (cI, 7, .inl mq))]) hF (c_X9_saving l D cI cJ cZ cS ta sa sv H.size h0 ys yk yo yt mk0 yfa yfe L2_ S2_ mM yro yhe ygr mF mC mY yta mz mf mt mv mw ywa ybi ysi ynu ymo s2_ f2_ g2_ P Rn Wn fae fal fau fao farn farp fak fawn fawp fat fas i i2 r_7 (by omega) (by omega) hv0 hv1 hv2 hvS hvM hvp hvr hvw hvR hvG) kv_X9_229 ⟨rfl, rfl, Nat.le_of_ble_eq_true rfl, Nat.le_of_ble_eq_true rfl⟩ ⟨Nat.le_of_ble_eq_true rfl, Nat.le_of_ble_eq_true rfl⟩ hK hN hZ hP hD hS hA [2, 3, 4, 1] [0] rfl rfl rfl rfl (by decide) 0 rfl rfl rfl rfl hl.1 rfl (Nat.le_of_ble_eq_true rfl) dX9_mend_81 (fun r_20 u_r_20 H locs hw_r_20 hP hD hS => ?_)
                obtain ⟨mL2_21, mS2_22, ms2_23, fa2_24, fe2_25⟩ := u_r_20
                try dsimp only at hw_r_20
                obtain ⟨hw_r_20, i_26, i_27, i_28, i_29, i_30, i_31, i_32, i_33, i_34, i_35⟩ := hw_r_20
                have hP : va_P D vwCl [(yt, .inl (cI, 7, .inl mq)), (h0, .inr (9, [.ref ys, .ref yk, .ref yo, .ref yt, .int mk0, .ref yfa, .ref yfe, .int mL2_21, .int mS2_22, .int mM, .ref yro, .ref yhe, .ref ygr, .int mF, .int mC, .int mY, .ref yta, .int (nI (mz)), .int (nI (mf)), .int (nI (mt)), .int mv, .int mw, .ref ywa, .ref ybi, .ref ysi, .ref ynu, .ref ymo])), (ys, .inl (cI, 449, .inl ms2_23)), (yfa, .inl (cI, 100, .inl fa2_24)), (yfe, .inl (cI, 100, .inl fe2_25))] H := hP
                have hD : va_D A [(yt, .inl (cI, 7, .inl mq)), (h0, .inr (9, [.ref ys, .ref yk, .ref yo, .ref yt, .int mk0, .ref yfa, .ref yfe, .int mL2_21, .int mS2_22, .int mM, .ref yro, .ref yhe, .ref ygr, .int mF, .int mC, .int mY, .ref yta, .int (nI (mz)), .int (nI (mf)), .int (nI (mt)), .int mv, .int mw, .ref ywa, .ref ybi, .ref ysi, .ref ynu, .ref ymo])), (ys, .inl (cI, 449, .inl ms2_23)), (yfa, .inl (cI, 100, .inl fa2_24)), (yfe, .inl (cI, 100, .inl fe2_25))] := hD
                refine lv_goto (tgt := 89) hx hb dX9_mend_84 (by decide) ?_
                refine lv_istore (lv' := [(6, .int r_20), (5, .int (nI (i2))), (4, .int (nI (i))), (3, .int u2_), (2, .int x2_), (1, .int r_7), (0, .ref h0)]) hx hb dX9_mend_89 hl (by decide) rfl (fun ls hl => ?_)
                refine lv_iload hx hb dX9_mend_91 (lv_at hl 0 rfl) ?_
                refine lv_ldc (v := 100000000) hx hb hown (hu _ uw701) dX9_mend_93 ?_
                refine lv_icmp_eq (tgt := 120) hx hb dX9_mend_95 (by decide) (fun c_36 => ?_) (fun c_36 => ?_)
                · skip
                  refine lv_iinc (v := nI (i2 + 1)) (lv' := [(5, .int (nI (i2 + 1))), (6, .int r_20), (4, .int (nI (i))), (3, .int u2_), (2, .int x2_), (1, .int r_7), (0, .ref h0)]) hx hb dX9_mend_120 hl (k := 1) rfl (nI_1 (i2)) (by decide) rfl (fun ls hl => ?_)
                  refine lv_goto (tgt := 53) hx hb dX9_mend_123 (by decide) ?_
                  exact ih_53 (i2 + 1) x2_ u2_ mL2_21 mS2_22 ms2_23 fa2_24 fe2_25 _ _ _ (by omega) (by omega) i_26 i_27 i_28 i_29 i_30 i_31 i_32 i_33 i_34 i_35 (hP.sub [0, 4, 1, 2, 3] rfl) (hD.sub [0, 4, 1, 2, 3] (by decide +kernel) rfl) hS (lv_sub hl [0, 2, 3, 4, 5, 6] rfl)
                · skip
                  refine lv_iload_n hx hb dX9_mend_98 rfl (lv_at hl 4 rfl) ?_
                  refine lv_if_lt (tgt := 108) hx hb dX9_mend_99 (by decide) (fun c_37 => ?_) (fun c_37 => ?_)
                  · skip
                    refine lv_bipush (v := 10) hx hb dX9_mend_108 (by decide) ?_
                    refine lv_iload hx hb dX9_mend_110 (lv_at hl 2 rfl) ?_
                    refine lv_imul hx hb dX9_mend_112 ?_
                    refine xl_i (y := nI (10 * i)) (pk_mul 10 i) ?_
                    refine lv_iload hx hb dX9_mend_113 (lv_at hl 1 rfl) ?_
                    refine lv_iadd hx hb dX9_mend_115 ?_
                    refine xl_i (y := nI (10 * i + i2)) (nI_add (10 * i) i2) ?_
                    refine lv_istore_n (lv' := [(2, .int (nI (10 * i + i2))), (6, .int r_20), (5, .int (nI (i2))), (4, .int (nI (i))), (3, .int u2_), (1, .int r_7), (0, .ref h0)]) hx hb dX9_mend_116 rfl hl (by decide) rfl (fun ls hl => ?_)
                    refine lv_iload hx hb dX9_mend_117 (lv_at hl 1 rfl) ?_
                    refine lv_istore_n (lv' := [(3, .int r_20), (2, .int (nI (10 * i + i2))), (6, .int r_20), (5, .int (nI (i2))), (4, .int (nI (i))), (1, .int r_7), (0, .ref h0)]) hx hb dX9_mend_119 rfl hl (by decide) rfl (fun ls hl => ?_)
                    refine lv_iinc (v := nI (i2 + 1)) (lv' := [(5, .int (nI (i2 + 1))), (3, .int r_20), (2, .int (nI (10 * i + i2))), (6, .int r_20), (4, .int (nI (i))), (1, .int r_7), (0, .ref h0)]) hx hb dX9_mend_120 hl (k := 3) rfl (nI_1 (i2)) (by decide) rfl (fun ls hl => ?_)
                    refine lv_goto (tgt := 53) hx hb dX9_mend_123 (by decide) ?_
                    exact ih_53 (i2 + 1) (nI (10 * i + i2)) r_20 mL2_21 mS2_22 ms2_23 fa2_24 fe2_25 _ _ _ (by omega) (by omega) i_26 i_27 i_28 i_29 i_30 i_31 i_32 i_33 i_34 i_35 (hP.sub [0, 4, 1, 2, 3] rfl) (hD.sub [0, 4, 1, 2, 3] (by decide +kernel) rfl) hS (lv_sub hl [0, 4, 1, 2, 5, 6] rfl)
                  · skip
                    refine lv_iload hx hb dX9_mend_102 (lv_at hl 0 rfl) ?_
                    refine lv_iload_n hx hb dX9_mend_104 rfl (lv_at hl 3 rfl) ?_
                    refine lv_icmp_le (tgt := 120) hx hb dX9_mend_105 (by decide) (fun c_38 => ?_) (fun c_38 => ?_)
                    · skip
                      refine lv_iinc (v := nI (i2 + 1)) (lv' := [(5, .int (nI (i2 + 1))), (6, .int r_20), (4, .int (nI (i))), (3, .int u2_), (2, .int x2_), (1, .int r_7), (0, .ref h0)]) hx hb dX9_mend_120 hl (k := 1) rfl (nI_1 (i2)) (by decide) rfl (fun ls hl => ?_)
                      refine lv_goto (tgt := 53) hx hb dX9_mend_123 (by decide) ?_
                      exact ih_53 (i2 + 1) x2_ u2_ mL2_21 mS2_22 ms2_23 fa2_24 fe2_25 _ _ _ (by omega) (by omega) i_26 i_27 i_28 i_29 i_30 i_31 i_32 i_33 i_34 i_35 (hP.sub [0, 4, 1, 2, 3] rfl) (hD.sub [0, 4, 1, 2, 3] (by decide +kernel) rfl) hS (lv_sub hl [0, 2, 3, 4, 5, 6] rfl)
                    · skip
                      refine lv_bipush (v := 10) hx hb dX9_mend_108 (by decide) ?_
                      refine lv_iload hx hb dX9_mend_110 (lv_at hl 2 rfl) ?_
                      refine lv_imul hx hb dX9_mend_112 ?_
                      refine xl_i (y := nI (10 * i)) (pk_mul 10 i) ?_
                      refine lv_iload hx hb dX9_mend_113 (lv_at hl 1 rfl) ?_
                      refine lv_iadd hx hb dX9_mend_115 ?_
                      refine xl_i (y := nI (10 * i + i2)) (nI_add (10 * i) i2) ?_
                      refine lv_istore_n (lv' := [(2, .int (nI (10 * i + i2))), (6, .int r_20), (5, .int (nI (i2))), (4, .int (nI (i))), (3, .int u2_), (1, .int r_7), (0, .ref h0)]) hx hb dX9_mend_116 rfl hl (by decide) rfl (fun ls hl => ?_)
                      refine lv_iload hx hb dX9_mend_117 (lv_at hl 1 rfl) ?_
                      refine lv_istore_n (lv' := [(3, .int r_20), (2, .int (nI (10 * i + i2))), (6, .int r_20), (5, .int (nI (i2))), (4, .int (nI (i))), (1, .int r_7), (0, .ref h0)]) hx hb dX9_mend_119 rfl hl (by decide) rfl (fun ls hl => ?_)
                      refine lv_iinc (v := nI (i2 + 1)) (lv' := [(5, .int (nI (i2 + 1))), (3, .int r_20), (2, .int (nI (10 * i + i2))), (6, .int r_20), (4, .int (nI (i))), (1, .int r_7), (0, .ref h0)]) hx hb dX9_mend_120 hl (k := 3) rfl (nI_1 (i2)) (by decide) rfl (fun ls hl => ?_)
                      refine lv_goto (tgt := 53) hx hb dX9_mend_123 (by decide) ?_
                      exact ih_53 (i2 + 1) (nI (10 * i + i2)) r_20 mL2_21 mS2_22 ms2_23 fa2_24 fe2_25 _ _ _ (by omega) (by omega) i_26 i_27 i_28 i_29 i_30 i_31 i_32 i_33 i_34 i_35 (hP.sub [0, 4, 1, 2, 3] rfl) (hD.sub [0, 4, 1, 2, 3] (by decide +kernel) rfl) hS (lv_sub hl [0, 4, 1, 2, 5, 6] rfl)
              · skip
                refine lv_if_eq (tgt := 87) hx hb dX9_mend_72 (by decide) (fun c_39 => ?_) (fun c_39 => absurd (by decide) c_39)
                refine lv_ldc (v := 100000000) hx hb hown (hu _ uw701) dX9_mend_87 ?_
                refine lv_istore (lv' := [(6, .int 100000000), (5, .int (nI (i2))), (4, .int (nI (i))), (3, .int u2_), (2, .int x2_), (1, .int r_7), (0, .ref h0)]) hx hb dX9_mend_89 hl (by decide) rfl (fun ls hl => ?_)
                refine lv_iload hx hb dX9_mend_91 (lv_at hl 0 rfl) ?_
                refine lv_ldc (v := 100000000) hx hb hown (hu _ uw701) dX9_mend_93 ?_
                refine lv_icmp_eq (tgt := 120) hx hb dX9_mend_95 (by decide) (fun c_40 => ?_) (fun c_40 => absurd (by decide) c_40)
                refine lv_iinc (v := nI (i2 + 1)) (lv' := [(5, .int (nI (i2 + 1))), (6, .int 100000000), (4, .int (nI (i))), (3, .int u2_), (2, .int x2_), (1, .int r_7), (0, .ref h0)]) hx hb dX9_mend_120 hl (k := 1) rfl (nI_1 (i2)) (by decide) rfl (fun ls hl => ?_)
                refine lv_goto (tgt := 53) hx hb dX9_mend_123 (by decide) ?_
                exact ih_53 (i2 + 1) x2_ u2_ L2_ S2_ s2_ f2_ g2_ _ _ _ (by omega) (by omega) hv0 hv1 hv2 hvS hvM hvp hvr hvw hvR hvG (hP.sub [0, 1, 2, 3, 4] rfl) (hD.sub [0, 1, 2, 3, 4] (by decide +kernel) rfl) hS (lv_sub hl [0, 2, 3, 4, 5, 6] rfl)
  · skip
    refine lv_aload_n hx hb dX9_mend_11 rfl (lv_at hl 0 rfl) ?_
    refine lv_ldc (v := (-1000000005)) hx hb hown (hu _ uw716) dX9_mend_12 ?_
    refine xc_Vi (wr := [(ys, .inl (cI, 449, .inl ms)), (yfa, .inl (cI, 100, .inl fa2_3)), (yfe, .inl (cI, 100, .inl fe2_4))]) hF (c_X9_finds_T l D cI cJ cZ cS ta sa sv H.size h0 ys yk yo yt mk0 yfa yfe mL2_2 mS mM yro yhe ygr mF mC mY yta mz mf mt mv mw ywa ybi ysi ynu ymo mq ) kv_X9_70 ⟨rfl, rfl, Nat.le_of_ble_eq_true rfl, Nat.le_of_ble_eq_true rfl⟩ ⟨Nat.le_of_ble_eq_true rfl, Nat.le_of_ble_eq_true rfl⟩ hK hN hZ hP hD hS hA [1, 0] [2, 3, 4] rfl rfl rfl rfl (by decide) 0 rfl rfl rfl rfl hl.1 rfl (Nat.le_of_ble_eq_true rfl) dX9_mend_14 (fun r_41 u_r_41 H locs hw_r_41 hP hD hS => ?_)
    obtain ⟨mq2_42, rfl⟩ : ∃ z, z = u_r_41 := ⟨_, rfl⟩
    try dsimp only at hw_r_41
    have hP : va_P D vwCl [(ys, .inl (cI, 449, .inl ms)), (yfa, .inl (cI, 100, .inl fa2_3)), (yfe, .inl (cI, 100, .inl fe2_4)), (h0, .inr (9, [.ref ys, .ref yk, .ref yo, .ref yt, .int mk0, .ref yfa, .ref yfe, .int mL2_2, .int mS, .int mM, .ref yro, .ref yhe, .ref ygr, .int mF, .int mC, .int mY, .ref yta, .int (nI (mz)), .int (nI (mf)), .int (nI (mt)), .int mv, .int mw, .ref ywa, .ref ybi, .ref ysi, .ref ynu, .ref ymo])), (yt, .inl (cI, 7, .inl mq2_42))] H := hP
    have hD : va_D A [(ys, .inl (cI, 449, .inl ms)), (yfa, .inl (cI, 100, .inl fa2_3)), (yfe, .inl (cI, 100, .inl fe2_4)), (h0, .inr (9, [.ref ys, .ref yk, .ref yo, .ref yt, .int mk0, .ref yfa, .ref yfe, .int mL2_2, .int mS, .int mM, .ref yro, .ref yhe, .ref ygr, .int mF, .int mC, .int mY, .ref yta, .int (nI (mz)), .int (nI (mf)), .int (nI (mt)), .int mv, .int mw, .ref ywa, .ref ybi, .ref ysi, .ref ynu, .ref ymo])), (yt, .inl (cI, 7, .inl mq2_42))] := hD
    subst hw_r_41
    exact W.iret (v := (-1000000005)) hx hb hr (fun t ht hW => ⟨⟨(-1000000005), (mL2_2, mS, ms, fa2_3, fe2_4, mq2_42), rfl, ⟨trivial, hs0, hs1, hs2, hsS, hsM, hsp, hsr, hsw, hsR, hsG⟩, by rw [ht]; exact hP.sub [3, 0, 1, 2, 4] rfl, hD.sub [3, 0, 1, 2, 4] (by decide +kernel) rfl⟩, hS.F ht⟩) hS.2.2 dX9_mend_17 hlk
set_option maxHeartbeats 4000000 in
set_option maxRecDepth 100000 in
theorem c_X9_nearest (l : Launch) (D : va_G) (cI cJ cZ cS : ClassId) (ta : Nat) (sa sv : Nat → Nat) (sz : Nat) (h0 : Nat) (ys : Nat) (yk : Nat) (yo : Nat) (yt : Nat) (mk0 : Int32) (yfa : Nat) (yfe : Nat) (mL : Int32) (mS : Int32) (mM : Int32) (yro : Nat) (yhe : Nat) (ygr : Nat) (mF : Int32) (mC : Int32) (mY : Int32) (yta : Nat) (mz : Nat) (mf : Nat) (mt : Nat) (mv : Int32) (mw : Int32) (ywa : Nat) (ybi : Nat) (ysi : Nat) (ynu : Nat) (ymo : Nat) (ms : Nat → Int32) (P : Nat) (Rn : Nat) (Wn : Nat) (fae : Nat → Int32) (fal : Nat → Int32) (fau : Nat → Int32) (fao : Nat → Int32) (farn : Nat → Int32) (farp : Nat → Int32) (fak : Nat → Int32) (fawn : Nat → Int32) (fawp : Nat → Int32) (fat : Nat → Int32) (fas : Nat → Int32) (j : Nat) (hj : j < 10) (hs0 : ms 0 = nI P) (hs1 : ms 1 = nI Rn) (hs2 : ms 2 = nI Wn) (hsS : SI ms) (hsM : MI ms) (hsp : P ≤ 10) (hsr : Rn ≤ 8) (hsw : Wn ≤ 8) (hsR : RI Rn ms) (hsG : FR P ms fae fal fau fao farn farp fak fawn fawp fat fas) : Met l yX9_nearest (Cond.code yX9_nearest cX9_nearest 5 (some .int) :: wsU) ({ frames := 1, cells := 0, slots := 0, locals := 22 }) (va_Pc [.ref h0, .int (nI (j))] (XW D (xT cI cJ cZ cS) ta sa sv [(h0, .inr (9, [.ref ys, .ref yk, .ref yo, .ref yt, .int mk0, .ref yfa, .ref yfe, .int mL, .int mS, .int mM, .ref yro, .ref yhe, .ref ygr, .int mF, .int mC, .int mY, .ref yta, .int (nI (mz)), .int (nI (mf)), .int (nI (mt)), .int mv, .int mw, .ref ywa, .ref ybi, .ref ysi, .ref ynu, .ref ymo])), (ys, .inl (cI, 449, .inl ms))] sz)) (vp_Si (fun r : Int32 => (r = (-1)) ∨ (∃ (y : Nat), r = nI (y) ∧ (y < P)))) 0 0 (fun _ => False) := by
  refine xh (QA := fun _ => vp_Si (fun r : Int32 => (r = (-1)) ∨ (∃ (y : Nat), r = nI (y) ∧ (y < P)))) (fr := fun _ _ => False) (by decide) (Nat.le_of_ble_eq_true rfl) ?_
  intro p e s m below meth c ls A hF hr hlk hin hsz hP hK hD hN hZ hA hS hl
  have hF : CallFix p m c cX9_nearest 5 s _ _ RX9 := hF
  have hx := hF.1
  have hb := hF.2.1
  have hml := hF.2.2.1
  have hown := hF.2.2.2.1
  have hu : ∀ w ∈ wsU, w.before _ s = true := fun w h => hF.2.2.2.2 w (List.mem_cons_of_mem _ h)
  have hl : lv_has ls 5 [(0, .ref h0), (1, .int (nI (j)))] := hl
  refine lv_iconst (v := (-1)) hx hb dX9_nearest_0 (by decide) ?_
  refine lv_istore_n (lv' := [(2, .int (-1)), (0, .ref h0), (1, .int (nI (j)))]) hx hb dX9_nearest_1 rfl hl (by decide) rfl (fun ls hl => ?_)
  refine lv_iconst (v := 0) hx hb dX9_nearest_2 (by decide) ?_
  refine lv_istore_n (lv' := [(3, .int 0), (2, .int (-1)), (0, .ref h0), (1, .int (nI (j)))]) hx hb dX9_nearest_3 rfl hl (by decide) rfl (fun ls hl => ?_)
  suffices loop_4 : ∀ (n_4 : Nat) (i : Nat) (x8 : Int32) (ls : Array Slot), P - i < n_4 → (i ≤ P) → (x8 = -1 ∨ ∃ y, y < P ∧ x8 = nI y) → lv_has ls 5 [(3, .int (nI (i))), (2, .int x8), (0, .ref h0), (1, .int (nI (j)))] → W p l e ({ frames := 1, cells := 0, slots := 0, locals := 22 }) s m ([.ref h0, .int (nI (j))] : List Value).toArray below meth c s.heap [] 0 0 (MQ below (vp_Si (fun r : Int32 => (r = (-1)) ∨ (∃ (y : Nat), r = nI (y) ∧ (y < P)))) ([.ref h0, .int (nI (j))] : List Value).toArray s 0 0 (fun _ => False)) (F0 m 4 ls []) by
    exact loop_4 _ 0 (-1) _ (Nat.lt_succ_self _) (by omega) (Or.inl rfl) (lv_sub hl [0, 1, 2, 3] rfl)
  intro n_4
  induction n_4 with
  | zero =>
    intro i x8 ls hm_4
    exact absurd hm_4 (Nat.not_lt_zero _)
  | succ n_4 ih_4 =>
    intro i x8 ls hm_4 hi hx8 hl
    refine lv_iload_n hx hb dX9_nearest_4 rfl (lv_at hl 0 rfl) ?_
    refine lv_aload_n hx hb dX9_nearest_5 rfl (lv_at hl 2 rfl) ?_
    refine xg hF kf_X9_7 hK hP 0 rfl rfl dX9_nearest_6 ?_
    refine lv_iconst (v := 0) hx hb dX9_nearest_9 (by decide) ?_
    refine va_iald hx hb hK hP 1 0 rfl rfl (xin 0 449 (by decide) (by decide)) dX9_nearest_10 ?_
    refine xl_i (y := nI (P)) hs0 ?_
    refine lv_icmp_ge (tgt := 71) hx hb dX9_nearest_11 (by decide) (fun c_1 => ?_) (fun c_1 => ?_)
    · skip
      have nc_1 : P ≤ i := xn_le (a := P) (b := i) (by omega) (by omega) c_1
      refine lv_iload_n hx hb dX9_nearest_71 rfl (lv_at hl 1 rfl) ?_
      exact W.iret (v := x8) hx hb hr (fun t ht hW => ⟨x8, rfl, (xoptp hx8), ht⟩) (fun q h => by cases h) dX9_nearest_72 hlk
    · skip
      have nc_1 : i < P := xn_nle (a := P) (b := i) (by omega) (by omega) c_1
      refine lv_iload_n hx hb dX9_nearest_14 rfl (lv_at hl 0 rfl) ?_
      refine lv_iload_n hx hb dX9_nearest_15 rfl (lv_at hl 3 rfl) ?_
      refine lv_icmp_eq (tgt := 32) hx hb dX9_nearest_16 (by decide) (fun c_2 => ?_) (fun c_2 => ?_)
      · skip
        have nc_2 : i = j := xn_eq (a := i) (b := j) (by omega) (by omega) c_2
        refine lv_iconst (v := 0) hx hb dX9_nearest_32 (by decide) ?_
        refine lv_istore (lv' := [(4, .int 0), (3, .int (nI (i))), (2, .int x8), (0, .ref h0), (1, .int (nI (j)))]) hx hb dX9_nearest_33 hl (by decide) rfl (fun ls hl => ?_)
        refine lv_iload hx hb dX9_nearest_35 (lv_at hl 0 rfl) ?_
        refine lv_if_eq (tgt := 63) hx hb dX9_nearest_37 (by decide) (fun c_3 => ?_) (fun c_3 => absurd (by decide) c_3)
        refine lv_iload_n hx hb dX9_nearest_63 rfl (lv_at hl 2 rfl) ?_
        refine lv_istore_n (lv' := [(2, .int x8), (4, .int 0), (3, .int (nI (i))), (0, .ref h0), (1, .int (nI (j)))]) hx hb dX9_nearest_64 rfl hl (by decide) rfl (fun ls hl => ?_)
        refine lv_iinc (v := nI (i + 1)) (lv' := [(3, .int (nI (i + 1))), (2, .int x8), (4, .int 0), (0, .ref h0), (1, .int (nI (j)))]) hx hb dX9_nearest_65 hl (k := 2) rfl (nI_1 (i)) (by decide) rfl (fun ls hl => ?_)
        refine lv_goto (tgt := 4) hx hb dX9_nearest_68 (by decide) ?_
        exact ih_4 (i + 1) x8 _ (by omega) (by omega) hx8 (lv_sub hl [0, 1, 3, 4] rfl)
      · skip
        have nc_2 : i ≠ j := xn_ne (a := i) (b := j) (by omega) (by omega) c_2
        refine lv_aload_n hx hb dX9_nearest_19 rfl (lv_at hl 2 rfl) ?_
        refine lv_iload_n hx hb dX9_nearest_20 rfl (lv_at hl 3 rfl) ?_
        refine lv_iload_n hx hb dX9_nearest_21 rfl (lv_at hl 0 rfl) ?_
        refine xc_Vr hF (c_X9_isOpen l D cI cJ cZ cS ta sa sv s.heap.size h0 ys yk yo yt mk0 yfa yfe mL mS mM yro yhe ygr mF mC mY yta mz mf mt mv mw ywa ybi ysi ynu ymo ms P Rn Wn fae fal fau fao farn farp fak fawn fawp fat fas j i (by omega) (by omega) hs0 hs1 hs2 hsS hsM hsp hsr hsw hsR hsG) kv_X9_97 ⟨rfl, rfl, Nat.le_of_ble_eq_true rfl, Nat.le_of_ble_eq_true rfl⟩ ⟨Nat.le_of_ble_eq_true rfl, Nat.le_of_ble_eq_true rfl⟩ hK hN hZ hP hD hS hA [0, 1] rfl rfl 0 rfl rfl rfl rfl hl.1 rfl (Nat.le_of_ble_eq_true rfl) dX9_nearest_22 (fun r_4 hw_r_4 => ?_)
        rcases hw_r_4 with ⟨rfl, h_5⟩ | ⟨rfl, h_6⟩
        · skip
          refine lv_if_eq (tgt := 32) hx hb dX9_nearest_25 (by decide) (fun c_7 => absurd c_7 (by decide)) (fun c_7 => ?_)
          refine lv_iconst (v := 1) hx hb dX9_nearest_28 (by decide) ?_
          refine lv_goto (tgt := 33) hx hb dX9_nearest_29 (by decide) ?_
          refine lv_istore (lv' := [(4, .int 1), (3, .int (nI (i))), (2, .int x8), (0, .ref h0), (1, .int (nI (j)))]) hx hb dX9_nearest_33 hl (by decide) rfl (fun ls hl => ?_)
          refine lv_iload hx hb dX9_nearest_35 (lv_at hl 0 rfl) ?_
          refine lv_if_eq (tgt := 63) hx hb dX9_nearest_37 (by decide) (fun c_8 => absurd c_8 (by decide)) (fun c_8 => ?_)
          refine lv_iload_n hx hb dX9_nearest_40 rfl (lv_at hl 2 rfl) ?_
          refine lv_if_lt (tgt := 59) hx hb dX9_nearest_41 (by decide) (fun c_9 => ?_) (fun c_9 => ?_)
          · skip
            refine lv_iload_n hx hb dX9_nearest_59 rfl (lv_at hl 1 rfl) ?_
            refine lv_goto (tgt := 64) hx hb dX9_nearest_60 (by decide) ?_
            refine lv_istore_n (lv' := [(2, .int (nI (i))), (4, .int 1), (3, .int (nI (i))), (0, .ref h0), (1, .int (nI (j)))]) hx hb dX9_nearest_64 rfl hl (by decide) rfl (fun ls hl => ?_)
            refine lv_iinc (v := nI (i + 1)) (lv' := [(3, .int (nI (i + 1))), (2, .int (nI (i))), (4, .int 1), (0, .ref h0), (1, .int (nI (j)))]) hx hb dX9_nearest_65 hl (k := 2) rfl (nI_1 (i)) (by decide) rfl (fun ls hl => ?_)
            refine lv_goto (tgt := 4) hx hb dX9_nearest_68 (by decide) ?_
            exact ih_4 (i + 1) (nI (i)) _ (by omega) (by omega) (Or.inr ⟨i, by omega, rfl⟩) (lv_sub hl [0, 1, 3, 4] rfl)
          · skip
            obtain ⟨y_10, hy_10, rfl⟩ := xopt hx8 c_9
            refine lv_aload_n hx hb dX9_nearest_44 rfl (lv_at hl 3 rfl) ?_
            refine lv_iload_n hx hb dX9_nearest_45 rfl (lv_at hl 4 rfl) ?_
            refine lv_iload_n hx hb dX9_nearest_46 rfl (lv_at hl 1 rfl) ?_
            refine xc_Vr hF (c_X9_miles l D cI cJ cZ cS ta sa sv s.heap.size h0 ys yk yo yt mk0 yfa yfe mL mS mM yro yhe ygr mF mC mY yta mz mf mt mv mw ywa ybi ysi ynu ymo ms P Rn Wn fae fal fau fao farn farp fak fawn fawp fat fas j i (by omega) (by omega) hs0 hs1 hs2 hsS hsM hsp hsr hsw hsR hsG) kv_X9_100 ⟨rfl, rfl, Nat.le_of_ble_eq_true rfl, Nat.le_of_ble_eq_true rfl⟩ ⟨Nat.le_of_ble_eq_true rfl, Nat.le_of_ble_eq_true rfl⟩ hK hN hZ hP hD hS hA [0, 1] rfl rfl 0 rfl rfl rfl rfl hl.1 rfl (Nat.le_of_ble_eq_true rfl) dX9_nearest_47 (fun r_11 hw_r_11 => ?_)
            subst hw_r_11
            refine lv_aload_n hx hb dX9_nearest_50 rfl (lv_at hl 3 rfl) ?_
            refine lv_iload_n hx hb dX9_nearest_51 rfl (lv_at hl 4 rfl) ?_
            refine lv_iload_n hx hb dX9_nearest_52 rfl (lv_at hl 2 rfl) ?_
            refine xc_Vr hF (c_X9_miles l D cI cJ cZ cS ta sa sv s.heap.size h0 ys yk yo yt mk0 yfa yfe mL mS mM yro yhe ygr mF mC mY yta mz mf mt mv mw ywa ybi ysi ynu ymo ms P Rn Wn fae fal fau fao farn farp fak fawn fawp fat fas j y_10 (by omega) (by omega) hs0 hs1 hs2 hsS hsM hsp hsr hsw hsR hsG) kv_X9_100 ⟨rfl, rfl, Nat.le_of_ble_eq_true rfl, Nat.le_of_ble_eq_true rfl⟩ ⟨Nat.le_of_ble_eq_true rfl, Nat.le_of_ble_eq_true rfl⟩ hK hN hZ hP hD hS hA [0, 1] rfl rfl 0 rfl rfl rfl rfl hl.1 rfl (Nat.le_of_ble_eq_true rfl) dX9_nearest_53 (fun r_12 hw_r_12 => ?_)
            subst hw_r_12
            refine lv_icmp_ge (tgt := 63) hx hb dX9_nearest_56 (by decide) (fun c_13 => ?_) (fun c_13 => ?_)
            · skip
              refine lv_iload_n hx hb dX9_nearest_63 rfl (lv_at hl 2 rfl) ?_
              refine lv_istore_n (lv' := [(2, .int (nI (y_10))), (4, .int 1), (3, .int (nI (i))), (0, .ref h0), (1, .int (nI (j)))]) hx hb dX9_nearest_64 rfl hl (by decide) rfl (fun ls hl => ?_)
              refine lv_iinc (v := nI (i + 1)) (lv' := [(3, .int (nI (i + 1))), (2, .int (nI (y_10))), (4, .int 1), (0, .ref h0), (1, .int (nI (j)))]) hx hb dX9_nearest_65 hl (k := 2) rfl (nI_1 (i)) (by decide) rfl (fun ls hl => ?_)
              refine lv_goto (tgt := 4) hx hb dX9_nearest_68 (by decide) ?_
              exact ih_4 (i + 1) (nI (y_10)) _ (by omega) (by omega) (Or.inr ⟨y_10, by omega, rfl⟩) (lv_sub hl [0, 1, 3, 4] rfl)
            · skip
              refine lv_iload_n hx hb dX9_nearest_59 rfl (lv_at hl 1 rfl) ?_
              refine lv_goto (tgt := 64) hx hb dX9_nearest_60 (by decide) ?_
              refine lv_istore_n (lv' := [(2, .int (nI (i))), (4, .int 1), (3, .int (nI (i))), (0, .ref h0), (1, .int (nI (j)))]) hx hb dX9_nearest_64 rfl hl (by decide) rfl (fun ls hl => ?_)
              refine lv_iinc (v := nI (i + 1)) (lv' := [(3, .int (nI (i + 1))), (2, .int (nI (i))), (4, .int 1), (0, .ref h0), (1, .int (nI (j)))]) hx hb dX9_nearest_65 hl (k := 2) rfl (nI_1 (i)) (by decide) rfl (fun ls hl => ?_)
              refine lv_goto (tgt := 4) hx hb dX9_nearest_68 (by decide) ?_
              exact ih_4 (i + 1) (nI (i)) _ (by omega) (by omega) (Or.inr ⟨i, by omega, rfl⟩) (lv_sub hl [0, 1, 3, 4] rfl)
        · skip
          refine lv_if_eq (tgt := 32) hx hb dX9_nearest_25 (by decide) (fun c_14 => ?_) (fun c_14 => absurd (by decide) c_14)
          refine lv_iconst (v := 0) hx hb dX9_nearest_32 (by decide) ?_
          refine lv_istore (lv' := [(4, .int 0), (3, .int (nI (i))), (2, .int x8), (0, .ref h0), (1, .int (nI (j)))]) hx hb dX9_nearest_33 hl (by decide) rfl (fun ls hl => ?_)
          refine lv_iload hx hb dX9_nearest_35 (lv_at hl 0 rfl) ?_
          refine lv_if_eq (tgt := 63) hx hb dX9_nearest_37 (by decide) (fun c_15 => ?_) (fun c_15 => absurd (by decide) c_15)
          refine lv_iload_n hx hb dX9_nearest_63 rfl (lv_at hl 2 rfl) ?_
          refine lv_istore_n (lv' := [(2, .int x8), (4, .int 0), (3, .int (nI (i))), (0, .ref h0), (1, .int (nI (j)))]) hx hb dX9_nearest_64 rfl hl (by decide) rfl (fun ls hl => ?_)
          refine lv_iinc (v := nI (i + 1)) (lv' := [(3, .int (nI (i + 1))), (2, .int x8), (4, .int 0), (0, .ref h0), (1, .int (nI (j)))]) hx hb dX9_nearest_65 hl (k := 2) rfl (nI_1 (i)) (by decide) rfl (fun ls hl => ?_)
          refine lv_goto (tgt := 4) hx hb dX9_nearest_68 (by decide) ?_
          exact ih_4 (i + 1) x8 _ (by omega) (by omega) hx8 (lv_sub hl [0, 1, 3, 4] rfl)
set_option maxHeartbeats 4000000 in
set_option maxRecDepth 100000 in
theorem c_X9_goes (l : Launch) (D : va_G) (cI cJ cZ cS : ClassId) (ta : Nat) (sa sv : Nat → Nat) (sz : Nat) (h0 : Nat) (ys : Nat) (yk : Nat) (yo : Nat) (yt : Nat) (mk0 : Int32) (yfa : Nat) (yfe : Nat) (mL : Int32) (mS : Int32) (mM : Int32) (yro : Nat) (yhe : Nat) (ygr : Nat) (mF : Int32) (mC : Int32) (mY : Int32) (yta : Nat) (mz : Nat) (mf : Nat) (mt : Nat) (mv : Int32) (mw : Int32) (ywa : Nat) (ybi : Nat) (ysi : Nat) (ynu : Nat) (ymo : Nat) (ms : Nat → Int32) (mq : Nat → Int32) (P : Nat) (Rn : Nat) (Wn : Nat) (fae : Nat → Int32) (fal : Nat → Int32) (fau : Nat → Int32) (fao : Nat → Int32) (farn : Nat → Int32) (farp : Nat → Int32) (fak : Nat → Int32) (fawn : Nat → Int32) (fawp : Nat → Int32) (fat : Nat → Int32) (fas : Nat → Int32) (p0 : Int32) (p1 : Int32) (hs0 : ms 0 = nI P) (hs1 : ms 1 = nI Rn) (hs2 : ms 2 = nI Wn) (hsS : SI ms) (hsM : MI ms) (hsp : P ≤ 10) (hsr : Rn ≤ 8) (hsw : Wn ≤ 8) (hsR : RI Rn ms) (hsG : FR P ms fae fal fau fao farn farp fak fawn fawp fat fas) : Met l yX9_goes (Cond.code yX9_goes cX9_goes 5 (some .int) :: wsU) ({ frames := 2, cells := 0, slots := 0, locals := 46 }) (va_Pc [.ref h0, .int p0, .int p1] (XW D (xT cI cJ cZ cS) ta sa sv [(h0, .inr (9, [.ref ys, .ref yk, .ref yo, .ref yt, .int mk0, .ref yfa, .ref yfe, .int mL, .int mS, .int mM, .ref yro, .ref yhe, .ref ygr, .int mF, .int mC, .int mY, .ref yta, .int (nI (mz)), .int (nI (mf)), .int (nI (mt)), .int mv, .int mw, .ref ywa, .ref ybi, .ref ysi, .ref ynu, .ref ymo])), (ys, .inl (cI, 449, .inl ms)), (yt, .inl (cI, 7, .inl mq))] sz)) (XQi (fun (r : Int32) (mq2 : (Nat → Int32)) => (True)) D (fun (mq2 : Nat → Int32) => [(h0, .inr (9, [.ref ys, .ref yk, .ref yo, .ref yt, .int mk0, .ref yfa, .ref yfe, .int mL, .int mS, .int mM, .ref yro, .ref yhe, .ref ygr, .int mF, .int mC, .int mY, .ref yta, .int (nI (mz)), .int (nI (mf)), .int (nI (mt)), .int mv, .int mw, .ref ywa, .ref ybi, .ref ysi, .ref ynu, .ref ymo])), (ys, .inl (cI, 449, .inl ms)), (yt, .inl (cI, 7, .inl mq2))]) (va_A [(h0, .inr (9, [.ref ys, .ref yk, .ref yo, .ref yt, .int mk0, .ref yfa, .ref yfe, .int mL, .int mS, .int mM, .ref yro, .ref yhe, .ref ygr, .int mF, .int mC, .int mY, .ref yta, .int (nI (mz)), .int (nI (mf)), .int (nI (mt)), .int mv, .int mw, .ref ywa, .ref ybi, .ref ysi, .ref ynu, .ref ymo])), (ys, .inl (cI, 449, .inl ms)), (yt, .inl (cI, 7, .inl mq))] sz)) 0 0 (va_A [(h0, .inr (9, [.ref ys, .ref yk, .ref yo, .ref yt, .int mk0, .ref yfa, .ref yfe, .int mL, .int mS, .int mM, .ref yro, .ref yhe, .ref ygr, .int mF, .int mC, .int mY, .ref yta, .int (nI (mz)), .int (nI (mf)), .int (nI (mt)), .int mv, .int mw, .ref ywa, .ref ybi, .ref ysi, .ref ynu, .ref ymo])), (ys, .inl (cI, 449, .inl ms)), (yt, .inl (cI, 7, .inl mq))] sz) := by
  refine xh (QA := fun A => XQi (fun (r : Int32) (mq2 : (Nat → Int32)) => (True)) D (fun (mq2 : Nat → Int32) => [(h0, .inr (9, [.ref ys, .ref yk, .ref yo, .ref yt, .int mk0, .ref yfa, .ref yfe, .int mL, .int mS, .int mM, .ref yro, .ref yhe, .ref ygr, .int mF, .int mC, .int mY, .ref yta, .int (nI (mz)), .int (nI (mf)), .int (nI (mt)), .int mv, .int mw, .ref ywa, .ref ybi, .ref ysi, .ref ynu, .ref ymo])), (ys, .inl (cI, 449, .inl ms)), (yt, .inl (cI, 7, .inl mq2))]) A) (fr := fun A => A) (by decide) (Nat.le_of_ble_eq_true rfl) ?_
  intro p e s m below meth c ls A hF hr hlk hin hsz hP hK hD hN hZ hA hS hl
  have hF : CallFix p m c cX9_goes 5 s _ _ RX9 := hF
  have hx := hF.1
  have hb := hF.2.1
  have hml := hF.2.2.1
  have hown := hF.2.2.2.1
  have hu : ∀ w ∈ wsU, w.before _ s = true := fun w h => hF.2.2.2.2 w (List.mem_cons_of_mem _ h)
  have hl : lv_has ls 5 [(0, .ref h0), (1, .int p0), (2, .int p1)] := hl
  refine lv_aload_n hx hb dX9_goes_0 rfl (lv_at hl 0 rfl) ?_
  refine lv_iload_n hx hb dX9_goes_1 rfl (lv_at hl 1 rfl) ?_
  refine xc_Vr hF (c_X9_isPlace l D cI cJ cZ cS ta sa sv s.heap.size h0 ys yk yo yt mk0 yfa yfe mL mS mM yro yhe ygr mF mC mY yta mz mf mt mv mw ywa ybi ysi ynu ymo ms P Rn Wn fae fal fau fao farn farp fak fawn fawp fat fas p0 hs0 hs1 hs2 hsS hsM hsp hsr hsw hsR hsG) kv_X9_61 ⟨rfl, rfl, Nat.le_of_ble_eq_true rfl, Nat.le_of_ble_eq_true rfl⟩ ⟨Nat.le_of_ble_eq_true rfl, Nat.le_of_ble_eq_true rfl⟩ hK hN hZ hP hD hS hA [0, 1] rfl rfl 0 rfl rfl rfl rfl hl.1 rfl (Nat.le_of_ble_eq_true rfl) dX9_goes_2 (fun r_1 hw_r_1 => ?_)
  rcases hw_r_1 with ⟨k_2, rfl, rfl, h_4⟩ | ⟨rfl, h_5⟩
  · skip
    refine lv_if_eq (tgt := 20) hx hb dX9_goes_5 (by decide) (fun c_6 => absurd c_6 (by decide)) (fun c_6 => ?_)
    refine lv_iload_n hx hb dX9_goes_8 rfl (lv_at hl 2 rfl) ?_
    refine lv_i2l (v := p1.toInt64) hx hb dX9_goes_9 rfl ?_
    refine lv_lconst (v := 0) hx hb dX9_goes_10 (by decide) ?_
    refine xl_l (y := (0 : Int32).toInt64) (by decide) ?_
    refine lv_ldc2 (v := 1000) hx hb hown (hu _ uw840) dX9_goes_11 ?_
    refine xl_l (y := (1000 : Int32).toInt64) (by decide) ?_
    refine xc_Sr hF (c_X9_in l D cI cJ cZ cS ta sa sv s.heap.size p1 0 1000 ) ks_X9_57 ⟨rfl, rfl, Nat.le_of_ble_eq_true rfl, Nat.le_of_ble_eq_true rfl⟩ ⟨Nat.le_of_ble_eq_true rfl, Nat.le_of_ble_eq_true rfl⟩ hK hN hZ hP hD hS hA [] rfl rfl rfl hl.1 rfl (Nat.le_of_ble_eq_true rfl) dX9_goes_14 (fun r_7 hw_r_7 => ?_)
    rcases hw_r_7 with ⟨rfl, h_8, h_9⟩ | ⟨rfl, h_10⟩
    · skip
      refine lv_if_ne (tgt := 27) hx hb dX9_goes_17 (by decide) (fun c_11 => ?_) (fun c_11 => absurd c_11 (by decide))
      obtain ⟨y_12, hy_12, rfl⟩ := xrange (w := 1000) (by omega) h_8 h_9
      refine lv_iload_n hx hb dX9_goes_27 rfl (lv_at hl 1 rfl) ?_
      refine lv_istore_n (lv' := [(3, .int (nI (k_2))), (0, .ref h0), (1, .int (nI (k_2))), (2, .int (nI (y_12)))]) hx hb dX9_goes_28 rfl hl (by decide) rfl (fun ls hl => ?_)
      refine lv_iconst (v := 0) hx hb dX9_goes_29 (by decide) ?_
      refine lv_istore (lv' := [(4, .int 0), (3, .int (nI (k_2))), (0, .ref h0), (1, .int (nI (k_2))), (2, .int (nI (y_12)))]) hx hb dX9_goes_30 hl (by decide) rfl (fun ls hl => ?_)
      suffices loop_32 : ∀ (n_32 : Nat) (i : Nat) (x8 : Int32) (H : Heap) (locs : List Loc) (ls : Array Slot), y_12 - i < n_32 → (i ≤ y_12) → (x8 = -1 ∨ ∃ y, y < P ∧ x8 = nI y) → va_P D vwCl [(h0, .inr (9, [.ref ys, .ref yk, .ref yo, .ref yt, .int mk0, .ref yfa, .ref yfe, .int mL, .int mS, .int mM, .ref yro, .ref yhe, .ref ygr, .int mF, .int mC, .int mY, .ref yta, .int (nI (mz)), .int (nI (mf)), .int (nI (mt)), .int mv, .int mw, .ref ywa, .ref ybi, .ref ysi, .ref ynu, .ref ymo])), (ys, .inl (cI, 449, .inl ms)), (yt, .inl (cI, 7, .inl mq))] H → va_D A [(h0, .inr (9, [.ref ys, .ref yk, .ref yo, .ref yt, .int mk0, .ref yfa, .ref yfe, .int mL, .int mS, .int mM, .ref yro, .ref yhe, .ref ygr, .int mF, .int mC, .int mY, .ref yta, .int (nI (mz)), .int (nI (mf)), .int (nI (mt)), .int mv, .int mw, .ref ywa, .ref ybi, .ref ysi, .ref ynu, .ref ymo])), (ys, .inl (cI, 449, .inl ms)), (yt, .inl (cI, 7, .inl mq))] → va_S A s.heap H locs → lv_has ls 5 [(4, .int (nI (i))), (3, .int x8), (0, .ref h0), (1, .int (nI (k_2))), (2, .int (nI (y_12)))] → W p l e ({ frames := 2, cells := 0, slots := 0, locals := 46 }) s m ([.ref h0, .int (nI (k_2)), .int (nI (y_12))] : List Value).toArray below meth c H locs 0 0 (MQ below (XQi (fun (r : Int32) (mq2 : (Nat → Int32)) => (True)) D (fun (mq2 : Nat → Int32) => [(h0, .inr (9, [.ref ys, .ref yk, .ref yo, .ref yt, .int mk0, .ref yfa, .ref yfe, .int mL, .int mS, .int mM, .ref yro, .ref yhe, .ref ygr, .int mF, .int mC, .int mY, .ref yta, .int (nI (mz)), .int (nI (mf)), .int (nI (mt)), .int mv, .int mw, .ref ywa, .ref ybi, .ref ysi, .ref ynu, .ref ymo])), (ys, .inl (cI, 449, .inl ms)), (yt, .inl (cI, 7, .inl mq2))]) A) ([.ref h0, .int (nI (k_2)), .int (nI (y_12))] : List Value).toArray s 0 0 A) (F0 m 32 ls []) by
        exact loop_32 _ 0 (nI (k_2)) _ _ _ (Nat.lt_succ_self _) (by omega) (Or.inr ⟨k_2, by omega, rfl⟩) hP hD hS (lv_sub hl [0, 1, 2, 3, 4] rfl)
      intro n_32
      induction n_32 with
      | zero =>
        intro i x8 H locs ls hm_32
        exact absurd hm_32 (Nat.not_lt_zero _)
      | succ n_32 ih_32 =>
        intro i x8 H locs ls hm_32 hi hx8 hP hD hS hl
        refine lv_iload hx hb dX9_goes_32 (lv_at hl 0 rfl) ?_
        refine lv_iload_n hx hb dX9_goes_34 rfl (lv_at hl 4 rfl) ?_
        refine lv_icmp_ge (tgt := 54) hx hb dX9_goes_35 (by decide) (fun c_13 => ?_) (fun c_13 => ?_)
        · skip
          have nc_13 : y_12 ≤ i := xn_le (a := y_12) (b := i) (by omega) (by omega) c_13
          refine lv_iload_n hx hb dX9_goes_54 rfl (lv_at hl 1 rfl) ?_
          refine lv_if_ge (tgt := 67) hx hb dX9_goes_55 (by decide) (fun c_14 => ?_) (fun c_14 => ?_)
          · skip
            refine lv_iload_n hx hb dX9_goes_67 rfl (lv_at hl 1 rfl) ?_
            exact W.iret (v := x8) hx hb hr (fun t ht hW => ⟨⟨x8, mq, rfl, trivial, by rw [ht]; exact hP.sub [0, 1, 2] rfl, hD.sub [0, 1, 2] (by decide) rfl⟩, hS.F ht⟩) hS.2.2 dX9_goes_68 hlk
          · skip
            refine lv_aload_n hx hb dX9_goes_58 rfl (lv_at hl 2 rfl) ?_
            refine lv_ldc (v := (-1000000004)) hx hb hown (hu _ uw699) dX9_goes_59 ?_
            refine xc_Vi (wr := [(ys, .inl (cI, 449, .inl ms))]) hF (c_X9_finds_N l D cI cJ cZ cS ta sa sv H.size h0 ys yk yo yt mk0 yfa yfe mL mS mM yro yhe ygr mF mC mY yta mz mf mt mv mw ywa ybi ysi ynu ymo mq ) kv_X9_70 ⟨rfl, rfl, Nat.le_of_ble_eq_true rfl, Nat.le_of_ble_eq_true rfl⟩ ⟨Nat.le_of_ble_eq_true rfl, Nat.le_of_ble_eq_true rfl⟩ hK hN hZ hP hD hS hA [0, 2] [1] rfl rfl rfl rfl (by decide) 0 rfl rfl rfl rfl hl.1 rfl (Nat.le_of_ble_eq_true rfl) dX9_goes_61 (fun r_15 u_r_15 H locs hw_r_15 hP hD hS => ?_)
            obtain ⟨mq2_16, rfl⟩ : ∃ z, z = u_r_15 := ⟨_, rfl⟩
            try dsimp only at hw_r_15
            have hP : va_P D vwCl [(ys, .inl (cI, 449, .inl ms)), (h0, .inr (9, [.ref ys, .ref yk, .ref yo, .ref yt, .int mk0, .ref yfa, .ref yfe, .int mL, .int mS, .int mM, .ref yro, .ref yhe, .ref ygr, .int mF, .int mC, .int mY, .ref yta, .int (nI (mz)), .int (nI (mf)), .int (nI (mt)), .int mv, .int mw, .ref ywa, .ref ybi, .ref ysi, .ref ynu, .ref ymo])), (yt, .inl (cI, 7, .inl mq2_16))] H := hP
            have hD : va_D A [(ys, .inl (cI, 449, .inl ms)), (h0, .inr (9, [.ref ys, .ref yk, .ref yo, .ref yt, .int mk0, .ref yfa, .ref yfe, .int mL, .int mS, .int mM, .ref yro, .ref yhe, .ref ygr, .int mF, .int mC, .int mY, .ref yta, .int (nI (mz)), .int (nI (mf)), .int (nI (mt)), .int mv, .int mw, .ref ywa, .ref ybi, .ref ysi, .ref ynu, .ref ymo])), (yt, .inl (cI, 7, .inl mq2_16))] := hD
            subst hw_r_15
            refine lv_goto (tgt := 68) hx hb dX9_goes_64 (by decide) ?_
            exact W.iret (v := (-1000000004)) hx hb hr (fun t ht hW => ⟨⟨(-1000000004), mq2_16, rfl, trivial, by rw [ht]; exact hP.sub [1, 0, 2] rfl, hD.sub [1, 0, 2] (by decide) rfl⟩, hS.F ht⟩) hS.2.2 dX9_goes_68 hlk
        · skip
          have nc_13 : i < y_12 := xn_nle (a := y_12) (b := i) (by omega) (by omega) c_13
          refine lv_iload_n hx hb dX9_goes_38 rfl (lv_at hl 1 rfl) ?_
          refine lv_if_lt (tgt := 54) hx hb dX9_goes_39 (by decide) (fun c_17 => ?_) (fun c_17 => ?_)
          · skip
            refine lv_iload_n hx hb dX9_goes_54 rfl (lv_at hl 1 rfl) ?_
            refine lv_if_ge (tgt := 67) hx hb dX9_goes_55 (by decide) (fun c_18 => ?_) (fun c_18 => ?_)
            · skip
              refine lv_iload_n hx hb dX9_goes_67 rfl (lv_at hl 1 rfl) ?_
              exact W.iret (v := x8) hx hb hr (fun t ht hW => ⟨⟨x8, mq, rfl, trivial, by rw [ht]; exact hP.sub [0, 1, 2] rfl, hD.sub [0, 1, 2] (by decide) rfl⟩, hS.F ht⟩) hS.2.2 dX9_goes_68 hlk
            · skip
              refine lv_aload_n hx hb dX9_goes_58 rfl (lv_at hl 2 rfl) ?_
              refine lv_ldc (v := (-1000000004)) hx hb hown (hu _ uw699) dX9_goes_59 ?_
              refine xc_Vi (wr := [(ys, .inl (cI, 449, .inl ms))]) hF (c_X9_finds_N l D cI cJ cZ cS ta sa sv H.size h0 ys yk yo yt mk0 yfa yfe mL mS mM yro yhe ygr mF mC mY yta mz mf mt mv mw ywa ybi ysi ynu ymo mq ) kv_X9_70 ⟨rfl, rfl, Nat.le_of_ble_eq_true rfl, Nat.le_of_ble_eq_true rfl⟩ ⟨Nat.le_of_ble_eq_true rfl, Nat.le_of_ble_eq_true rfl⟩ hK hN hZ hP hD hS hA [0, 2] [1] rfl rfl rfl rfl (by decide) 0 rfl rfl rfl rfl hl.1 rfl (Nat.le_of_ble_eq_true rfl) dX9_goes_61 (fun r_19 u_r_19 H locs hw_r_19 hP hD hS => ?_)
              obtain ⟨mq2_20, rfl⟩ : ∃ z, z = u_r_19 := ⟨_, rfl⟩
              try dsimp only at hw_r_19
              have hP : va_P D vwCl [(ys, .inl (cI, 449, .inl ms)), (h0, .inr (9, [.ref ys, .ref yk, .ref yo, .ref yt, .int mk0, .ref yfa, .ref yfe, .int mL, .int mS, .int mM, .ref yro, .ref yhe, .ref ygr, .int mF, .int mC, .int mY, .ref yta, .int (nI (mz)), .int (nI (mf)), .int (nI (mt)), .int mv, .int mw, .ref ywa, .ref ybi, .ref ysi, .ref ynu, .ref ymo])), (yt, .inl (cI, 7, .inl mq2_20))] H := hP
              have hD : va_D A [(ys, .inl (cI, 449, .inl ms)), (h0, .inr (9, [.ref ys, .ref yk, .ref yo, .ref yt, .int mk0, .ref yfa, .ref yfe, .int mL, .int mS, .int mM, .ref yro, .ref yhe, .ref ygr, .int mF, .int mC, .int mY, .ref yta, .int (nI (mz)), .int (nI (mf)), .int (nI (mt)), .int mv, .int mw, .ref ywa, .ref ybi, .ref ysi, .ref ynu, .ref ymo])), (yt, .inl (cI, 7, .inl mq2_20))] := hD
              subst hw_r_19
              refine lv_goto (tgt := 68) hx hb dX9_goes_64 (by decide) ?_
              exact W.iret (v := (-1000000004)) hx hb hr (fun t ht hW => ⟨⟨(-1000000004), mq2_20, rfl, trivial, by rw [ht]; exact hP.sub [1, 0, 2] rfl, hD.sub [1, 0, 2] (by decide) rfl⟩, hS.F ht⟩) hS.2.2 dX9_goes_68 hlk
          · skip
            obtain ⟨y_21, hy_21, rfl⟩ := xopt hx8 c_17
            refine lv_aload_n hx hb dX9_goes_42 rfl (lv_at hl 2 rfl) ?_
            refine lv_iload_n hx hb dX9_goes_43 rfl (lv_at hl 1 rfl) ?_
            refine xc_Vr hF (c_X9_nearest l D cI cJ cZ cS ta sa sv H.size h0 ys yk yo yt mk0 yfa yfe mL mS mM yro yhe ygr mF mC mY yta mz mf mt mv mw ywa ybi ysi ynu ymo ms P Rn Wn fae fal fau fao farn farp fak fawn fawp fat fas y_21 (by omega) hs0 hs1 hs2 hsS hsM hsp hsr hsw hsR hsG) kv_X9_235 ⟨rfl, rfl, Nat.le_of_ble_eq_true rfl, Nat.le_of_ble_eq_true rfl⟩ ⟨Nat.le_of_ble_eq_true rfl, Nat.le_of_ble_eq_true rfl⟩ hK hN hZ hP hD hS hA [0, 1] rfl rfl 0 rfl rfl rfl rfl hl.1 rfl (Nat.le_of_ble_eq_true rfl) dX9_goes_44 (fun r_22 hw_r_22 => ?_)
            rcases hw_r_22 with rfl | ⟨y_23, rfl, h_24⟩
            · skip
              refine lv_istore_n (lv' := [(3, .int (-1)), (4, .int (nI (i))), (0, .ref h0), (1, .int (nI (k_2))), (2, .int (nI (y_12)))]) hx hb dX9_goes_47 rfl hl (by decide) rfl (fun ls hl => ?_)
              refine lv_iinc (v := nI (i + 1)) (lv' := [(4, .int (nI (i + 1))), (3, .int (-1)), (0, .ref h0), (1, .int (nI (k_2))), (2, .int (nI (y_12)))]) hx hb dX9_goes_48 hl (k := 1) rfl (nI_1 (i)) (by decide) rfl (fun ls hl => ?_)
              refine lv_goto (tgt := 32) hx hb dX9_goes_51 (by decide) ?_
              exact ih_32 (i + 1) (-1) _ _ _ (by omega) (by omega) (Or.inl rfl) (hP.sub [0, 1, 2] rfl) (hD.sub [0, 1, 2] (by decide) rfl) hS (lv_sub hl [0, 1, 2, 3, 4] rfl)
            · skip
              refine lv_istore_n (lv' := [(3, .int (nI (y_23))), (4, .int (nI (i))), (0, .ref h0), (1, .int (nI (k_2))), (2, .int (nI (y_12)))]) hx hb dX9_goes_47 rfl hl (by decide) rfl (fun ls hl => ?_)
              refine lv_iinc (v := nI (i + 1)) (lv' := [(4, .int (nI (i + 1))), (3, .int (nI (y_23))), (0, .ref h0), (1, .int (nI (k_2))), (2, .int (nI (y_12)))]) hx hb dX9_goes_48 hl (k := 1) rfl (nI_1 (i)) (by decide) rfl (fun ls hl => ?_)
              refine lv_goto (tgt := 32) hx hb dX9_goes_51 (by decide) ?_
              exact ih_32 (i + 1) (nI (y_23)) _ _ _ (by omega) (by omega) (Or.inr ⟨y_23, by omega, rfl⟩) (hP.sub [0, 1, 2] rfl) (hD.sub [0, 1, 2] (by decide) rfl) hS (lv_sub hl [0, 1, 2, 3, 4] rfl)
    · skip
      refine lv_if_ne (tgt := 27) hx hb dX9_goes_17 (by decide) (fun c_25 => absurd (by decide) c_25) (fun c_25 => ?_)
      refine lv_aload_n hx hb dX9_goes_20 rfl (lv_at hl 0 rfl) ?_
      refine lv_ldc (v := (-1000000001)) hx hb hown (hu _ uw648) dX9_goes_21 ?_
      refine xc_Vi (wr := [(ys, .inl (cI, 449, .inl ms))]) hF (c_X9_finds_B l D cI cJ cZ cS ta sa sv s.heap.size h0 ys yk yo yt mk0 yfa yfe mL mS mM yro yhe ygr mF mC mY yta mz mf mt mv mw ywa ybi ysi ynu ymo mq ) kv_X9_70 ⟨rfl, rfl, Nat.le_of_ble_eq_true rfl, Nat.le_of_ble_eq_true rfl⟩ ⟨Nat.le_of_ble_eq_true rfl, Nat.le_of_ble_eq_true rfl⟩ hK hN hZ hP hD hS hA [0, 2] [1] rfl rfl rfl rfl (by decide) 0 rfl rfl rfl rfl hl.1 rfl (Nat.le_of_ble_eq_true rfl) dX9_goes_23 (fun r_26 u_r_26 H locs hw_r_26 hP hD hS => ?_)
      obtain ⟨mq2_27, rfl⟩ : ∃ z, z = u_r_26 := ⟨_, rfl⟩
      try dsimp only at hw_r_26
      have hP : va_P D vwCl [(ys, .inl (cI, 449, .inl ms)), (h0, .inr (9, [.ref ys, .ref yk, .ref yo, .ref yt, .int mk0, .ref yfa, .ref yfe, .int mL, .int mS, .int mM, .ref yro, .ref yhe, .ref ygr, .int mF, .int mC, .int mY, .ref yta, .int (nI (mz)), .int (nI (mf)), .int (nI (mt)), .int mv, .int mw, .ref ywa, .ref ybi, .ref ysi, .ref ynu, .ref ymo])), (yt, .inl (cI, 7, .inl mq2_27))] H := hP
      have hD : va_D A [(ys, .inl (cI, 449, .inl ms)), (h0, .inr (9, [.ref ys, .ref yk, .ref yo, .ref yt, .int mk0, .ref yfa, .ref yfe, .int mL, .int mS, .int mM, .ref yro, .ref yhe, .ref ygr, .int mF, .int mC, .int mY, .ref yta, .int (nI (mz)), .int (nI (mf)), .int (nI (mt)), .int mv, .int mw, .ref ywa, .ref ybi, .ref ysi, .ref ynu, .ref ymo])), (yt, .inl (cI, 7, .inl mq2_27))] := hD
      subst hw_r_26
      exact W.iret (v := (-1000000001)) hx hb hr (fun t ht hW => ⟨⟨(-1000000001), mq2_27, rfl, trivial, by rw [ht]; exact hP.sub [1, 0, 2] rfl, hD.sub [1, 0, 2] (by decide) rfl⟩, hS.F ht⟩) hS.2.2 dX9_goes_26 hlk
  · skip
    refine lv_if_eq (tgt := 20) hx hb dX9_goes_5 (by decide) (fun c_28 => ?_) (fun c_28 => absurd (by decide) c_28)
    refine lv_aload_n hx hb dX9_goes_20 rfl (lv_at hl 0 rfl) ?_
    refine lv_ldc (v := (-1000000001)) hx hb hown (hu _ uw648) dX9_goes_21 ?_
    refine xc_Vi (wr := [(ys, .inl (cI, 449, .inl ms))]) hF (c_X9_finds_B l D cI cJ cZ cS ta sa sv s.heap.size h0 ys yk yo yt mk0 yfa yfe mL mS mM yro yhe ygr mF mC mY yta mz mf mt mv mw ywa ybi ysi ynu ymo mq ) kv_X9_70 ⟨rfl, rfl, Nat.le_of_ble_eq_true rfl, Nat.le_of_ble_eq_true rfl⟩ ⟨Nat.le_of_ble_eq_true rfl, Nat.le_of_ble_eq_true rfl⟩ hK hN hZ hP hD hS hA [0, 2] [1] rfl rfl rfl rfl (by decide) 0 rfl rfl rfl rfl hl.1 rfl (Nat.le_of_ble_eq_true rfl) dX9_goes_23 (fun r_29 u_r_29 H locs hw_r_29 hP hD hS => ?_)
    obtain ⟨mq2_30, rfl⟩ : ∃ z, z = u_r_29 := ⟨_, rfl⟩
    try dsimp only at hw_r_29
    have hP : va_P D vwCl [(ys, .inl (cI, 449, .inl ms)), (h0, .inr (9, [.ref ys, .ref yk, .ref yo, .ref yt, .int mk0, .ref yfa, .ref yfe, .int mL, .int mS, .int mM, .ref yro, .ref yhe, .ref ygr, .int mF, .int mC, .int mY, .ref yta, .int (nI (mz)), .int (nI (mf)), .int (nI (mt)), .int mv, .int mw, .ref ywa, .ref ybi, .ref ysi, .ref ynu, .ref ymo])), (yt, .inl (cI, 7, .inl mq2_30))] H := hP
    have hD : va_D A [(ys, .inl (cI, 449, .inl ms)), (h0, .inr (9, [.ref ys, .ref yk, .ref yo, .ref yt, .int mk0, .ref yfa, .ref yfe, .int mL, .int mS, .int mM, .ref yro, .ref yhe, .ref ygr, .int mF, .int mC, .int mY, .ref yta, .int (nI (mz)), .int (nI (mf)), .int (nI (mt)), .int mv, .int mw, .ref ywa, .ref ybi, .ref ysi, .ref ynu, .ref ymo])), (yt, .inl (cI, 7, .inl mq2_30))] := hD
    subst hw_r_29
    exact W.iret (v := (-1000000001)) hx hb hr (fun t ht hW => ⟨⟨(-1000000001), mq2_30, rfl, trivial, by rw [ht]; exact hP.sub [1, 0, 2] rfl, hD.sub [1, 0, 2] (by decide) rfl⟩, hS.F ht⟩) hS.2.2 dX9_goes_26 hlk
set_option maxHeartbeats 4000000 in
set_option maxRecDepth 100000 in
theorem c_X9_hollow (l : Launch) (D : va_G) (cI cJ cZ cS : ClassId) (ta : Nat) (sa sv : Nat → Nat) (sz : Nat) (h0 : Nat) (ys : Nat) (yk : Nat) (yo : Nat) (yt : Nat) (mk0 : Int32) (yfa : Nat) (yfe : Nat) (mL : Int32) (mS : Int32) (mM : Int32) (yro : Nat) (yhe : Nat) (ygr : Nat) (mF : Int32) (mC : Int32) (mY : Int32) (yta : Nat) (mz : Nat) (mf : Nat) (mt : Nat) (mv : Int32) (mw : Int32) (ywa : Nat) (ybi : Nat) (ysi : Nat) (ynu : Nat) (ymo : Nat) (ms : Nat → Int32) (P : Nat) (Rn : Nat) (Wn : Nat) (fae : Nat → Int32) (fal : Nat → Int32) (fau : Nat → Int32) (fao : Nat → Int32) (farn : Nat → Int32) (farp : Nat → Int32) (fak : Nat → Int32) (fawn : Nat → Int32) (fawp : Nat → Int32) (fat : Nat → Int32) (fas : Nat → Int32) (hs0 : ms 0 = nI P) (hs1 : ms 1 = nI Rn) (hs2 : ms 2 = nI Wn) (hsS : SI ms) (hsM : MI ms) (hsp : P ≤ 10) (hsr : Rn ≤ 8) (hsw : Wn ≤ 8) (hsR : RI Rn ms) (hsG : FR P ms fae fal fau fao farn farp fak fawn fawp fat fas) : Met l yX9_hollow (Cond.code yX9_hollow cX9_hollow 5 (some .int) :: wsU) ({ frames := 2, cells := 0, slots := 0, locals := 46 }) (va_Pc [.ref h0] (XW D (xT cI cJ cZ cS) ta sa sv [(h0, .inr (9, [.ref ys, .ref yk, .ref yo, .ref yt, .int mk0, .ref yfa, .ref yfe, .int mL, .int mS, .int mM, .ref yro, .ref yhe, .ref ygr, .int mF, .int mC, .int mY, .ref yta, .int (nI (mz)), .int (nI (mf)), .int (nI (mt)), .int mv, .int mw, .ref ywa, .ref ybi, .ref ysi, .ref ynu, .ref ymo])), (ys, .inl (cI, 449, .inl ms))] sz)) (vp_Si (fun r : Int32 => True)) 0 0 (fun _ => False) := by
  refine xh (QA := fun _ => vp_Si (fun r : Int32 => True)) (fr := fun _ _ => False) (by decide) (Nat.le_of_ble_eq_true rfl) ?_
  intro p e s m below meth c ls A hF hr hlk hin hsz hP hK hD hN hZ hA hS hl
  have hF : CallFix p m c cX9_hollow 5 s _ _ RX9 := hF
  have hx := hF.1
  have hb := hF.2.1
  have hml := hF.2.2.1
  have hown := hF.2.2.2.1
  have hu : ∀ w ∈ wsU, w.before _ s = true := fun w h => hF.2.2.2.2 w (List.mem_cons_of_mem _ h)
  have hl : lv_has ls 5 [(0, .ref h0)] := hl
  refine lv_iconst (v := 0) hx hb dX9_hollow_0 (by decide) ?_
  refine lv_istore_n (lv' := [(1, .int 0), (0, .ref h0)]) hx hb dX9_hollow_1 rfl hl (by decide) rfl (fun ls hl => ?_)
  refine lv_iconst (v := 0) hx hb dX9_hollow_2 (by decide) ?_
  refine lv_istore_n (lv' := [(2, .int 0), (1, .int 0), (0, .ref h0)]) hx hb dX9_hollow_3 rfl hl (by decide) rfl (fun ls hl => ?_)
  suffices loop_4 : ∀ (n_4 : Nat) (i : Nat) (u : Int32) (ls : Array Slot), P - i < n_4 → (i ≤ P) → lv_has ls 5 [(2, .int (nI (i))), (1, .int u), (0, .ref h0)] → W p l e ({ frames := 2, cells := 0, slots := 0, locals := 46 }) s m ([.ref h0] : List Value).toArray below meth c s.heap [] 0 0 (MQ below (vp_Si (fun r : Int32 => True)) ([.ref h0] : List Value).toArray s 0 0 (fun _ => False)) (F0 m 4 ls []) by
    exact loop_4 _ 0 0 _ (Nat.lt_succ_self _) (by omega) (lv_sub hl [0, 1, 2] rfl)
  intro n_4
  induction n_4 with
  | zero =>
    intro i u ls hm_4
    exact absurd hm_4 (Nat.not_lt_zero _)
  | succ n_4 ih_4 =>
    intro i u ls hm_4 hi hl
    refine lv_iload_n hx hb dX9_hollow_4 rfl (lv_at hl 0 rfl) ?_
    refine lv_aload_n hx hb dX9_hollow_5 rfl (lv_at hl 2 rfl) ?_
    refine xg hF kf_X9_7 hK hP 0 rfl rfl dX9_hollow_6 ?_
    refine lv_iconst (v := 0) hx hb dX9_hollow_9 (by decide) ?_
    refine va_iald hx hb hK hP 1 0 rfl rfl (xin 0 449 (by decide) (by decide)) dX9_hollow_10 ?_
    refine xl_i (y := nI (P)) hs0 ?_
    refine lv_icmp_ge (tgt := 66) hx hb dX9_hollow_11 (by decide) (fun c_1 => ?_) (fun c_1 => ?_)
    · skip
      have nc_1 : P ≤ i := xn_le (a := P) (b := i) (by omega) (by omega) c_1
      refine lv_iconst (v := (-1)) hx hb dX9_hollow_66 (by decide) ?_
      refine lv_istore_n (lv' := [(2, .int (-1)), (1, .int u), (0, .ref h0)]) hx hb dX9_hollow_67 rfl hl (by decide) rfl (fun ls hl => ?_)
      suffices loop_68 : ∀ (n_68 : Nat) (u1 : Int32) (u2 : Int32) (ls : Array Slot), hl_W u1 u2 < n_68 → lv_has ls 5 [(2, .int u2), (1, .int u1), (0, .ref h0)] → W p l e ({ frames := 2, cells := 0, slots := 0, locals := 46 }) s m ([.ref h0] : List Value).toArray below meth c s.heap [] 0 0 (MQ below (vp_Si (fun r : Int32 => True)) ([.ref h0] : List Value).toArray s 0 0 (fun _ => False)) (F0 m 68 ls []) by
        exact loop_68 _ u (-1) _ (Nat.lt_succ_self _)  (lv_sub hl [0, 1, 2] rfl)
      intro n_68
      induction n_68 with
      | zero =>
        intro u1 u2 ls hm_68
        exact absurd hm_68 (Nat.not_lt_zero _)
      | succ n_68 ih_68 =>
        intro u1 u2 ls hm_68  hl
        refine lv_iload_n hx hb dX9_hollow_68 rfl (lv_at hl 0 rfl) ?_
        refine lv_iload_n hx hb dX9_hollow_69 rfl (lv_at hl 1 rfl) ?_
        refine lv_icmp_eq (tgt := 119) hx hb dX9_hollow_70 (by decide) (fun c_2 => ?_) (fun c_2 => ?_)
        · skip
          refine lv_iload_n hx hb dX9_hollow_119 rfl (lv_at hl 1 rfl) ?_
          exact W.iret (v := u1) hx hb hr (fun t ht hW => ⟨u1, rfl, trivial, ht⟩) (fun q h => by cases h) dX9_hollow_120 hlk
        · skip
          refine lv_iload_n hx hb dX9_hollow_73 rfl (lv_at hl 1 rfl) ?_
          refine lv_istore_n (lv' := [(2, .int u1), (1, .int u1), (0, .ref h0)]) hx hb dX9_hollow_74 rfl hl (by decide) rfl (fun ls hl => ?_)
          refine lv_iconst (v := 0) hx hb dX9_hollow_75 (by decide) ?_
          refine lv_istore_n (lv' := [(3, .int 0), (2, .int u1), (1, .int u1), (0, .ref h0)]) hx hb dX9_hollow_76 rfl hl (by decide) rfl (fun ls hl => ?_)
          suffices loop_77 : ∀ (n_77 : Nat) (i3 : Nat) (u3 : Int32) (ls : Array Slot), P - i3 < n_77 → (i3 ≤ P) → (hl_M u3 ≤ hl_M u1) → lv_has ls 5 [(3, .int (nI (i3))), (2, .int u1), (1, .int u3), (0, .ref h0)] → W p l e ({ frames := 2, cells := 0, slots := 0, locals := 46 }) s m ([.ref h0] : List Value).toArray below meth c s.heap [] 0 0 (MQ below (vp_Si (fun r : Int32 => True)) ([.ref h0] : List Value).toArray s 0 0 (fun _ => False)) (F0 m 77 ls []) by
            exact loop_77 _ 0 u1 _ (Nat.lt_succ_self _) (by omega) (Nat.le_refl _) (lv_sub hl [0, 1, 2, 3] rfl)
          intro n_77
          induction n_77 with
          | zero =>
            intro i3 u3 ls hm_77
            exact absurd hm_77 (Nat.not_lt_zero _)
          | succ n_77 ih_77 =>
            intro i3 u3 ls hm_77 hi3 hm3 hl
            refine lv_iload_n hx hb dX9_hollow_77 rfl (lv_at hl 0 rfl) ?_
            refine lv_aload_n hx hb dX9_hollow_78 rfl (lv_at hl 3 rfl) ?_
            refine xg hF kf_X9_7 hK hP 0 rfl rfl dX9_hollow_79 ?_
            refine lv_iconst (v := 0) hx hb dX9_hollow_82 (by decide) ?_
            refine va_iald hx hb hK hP 1 0 rfl rfl (xin 0 449 (by decide) (by decide)) dX9_hollow_83 ?_
            refine xl_i (y := nI (P)) hs0 ?_
            refine lv_icmp_ge (tgt := 116) hx hb dX9_hollow_84 (by decide) (fun c_3 => ?_) (fun c_3 => ?_)
            · skip
              have nc_3 : P ≤ i3 := xn_le (a := P) (b := i3) (by omega) (by omega) c_3
              refine lv_goto (tgt := 68) hx hb dX9_hollow_116 (by decide) ?_
              have hd9 := hl_dec c_2 hm3
              exact ih_68 u3 u1 _ (by omega)  (lv_sub hl [1, 2, 3] rfl)
            · skip
              have nc_3 : i3 < P := xn_nle (a := P) (b := i3) (by omega) (by omega) c_3
              refine lv_iload_n hx hb dX9_hollow_87 rfl (lv_at hl 2 rfl) ?_
              refine lv_iload_n hx hb dX9_hollow_88 rfl (lv_at hl 2 rfl) ?_
              refine lv_iload_n hx hb dX9_hollow_89 rfl (lv_at hl 0 rfl) ?_
              refine lv_ishr hx hb dX9_hollow_90 ?_
              refine lv_topi (fun x_4 ex_4 => ?_)
              refine lv_iconst (v := 1) hx hb dX9_hollow_91 (by decide) ?_
              refine lv_iand hx hb dX9_hollow_92 ?_
              refine lv_topi (fun x_5 ex_5 => ?_)
              refine lv_iconst (v := 1) hx hb dX9_hollow_93 (by decide) ?_
              refine lv_icmp_ne (tgt := 107) hx hb dX9_hollow_94 (by decide) (fun c_6 => ?_) (fun c_6 => ?_)
              · skip
                refine lv_iconst (v := 0) hx hb dX9_hollow_107 (by decide) ?_
                refine lv_ior hx hb dX9_hollow_108 ?_
                refine lv_istore_n (lv' := [(1, .int (u3 ||| 0)), (3, .int (nI (i3))), (2, .int u1), (0, .ref h0)]) hx hb dX9_hollow_109 rfl hl (by decide) rfl (fun ls hl => ?_)
                refine lv_iinc (v := nI (i3 + 1)) (lv' := [(3, .int (nI (i3 + 1))), (1, .int (u3 ||| 0)), (2, .int u1), (0, .ref h0)]) hx hb dX9_hollow_110 hl (k := 1) rfl (nI_1 (i3)) (by decide) rfl (fun ls hl => ?_)
                refine lv_goto (tgt := 77) hx hb dX9_hollow_113 (by decide) ?_
                exact ih_77 (i3 + 1) (u3 ||| 0) _ (by omega) (by omega) (Nat.le_trans (hl_or _ _) hm3) (lv_sub hl [0, 2, 1, 3] rfl)
              · skip
                refine lv_iconst (v := 1) hx hb dX9_hollow_97 (by decide) ?_
                refine lv_aload_n hx hb dX9_hollow_98 rfl (lv_at hl 3 rfl) ?_
                refine lv_iload_n hx hb dX9_hollow_99 rfl (lv_at hl 0 rfl) ?_
                refine xc_Vr hF (c_X9_nearest l D cI cJ cZ cS ta sa sv s.heap.size h0 ys yk yo yt mk0 yfa yfe mL mS mM yro yhe ygr mF mC mY yta mz mf mt mv mw ywa ybi ysi ynu ymo ms P Rn Wn fae fal fau fao farn farp fak fawn fawp fat fas i3 (by omega) hs0 hs1 hs2 hsS hsM hsp hsr hsw hsR hsG) kv_X9_235 ⟨rfl, rfl, Nat.le_of_ble_eq_true rfl, Nat.le_of_ble_eq_true rfl⟩ ⟨Nat.le_of_ble_eq_true rfl, Nat.le_of_ble_eq_true rfl⟩ hK hN hZ hP hD hS hA [0, 1] rfl rfl 0 rfl rfl rfl rfl hl.1 rfl (Nat.le_of_ble_eq_true rfl) dX9_hollow_100 (fun r_7 hw_r_7 => ?_)
                rcases hw_r_7 with rfl | ⟨y_8, rfl, h_9⟩
                · skip
                  refine lv_ishl hx hb dX9_hollow_103 ?_
                  refine lv_topi (fun x_10 ex_10 => ?_)
                  refine lv_goto (tgt := 108) hx hb dX9_hollow_104 (by decide) ?_
                  refine lv_ior hx hb dX9_hollow_108 ?_
                  refine lv_istore_n (lv' := [(1, .int (u3 ||| x_10)), (3, .int (nI (i3))), (2, .int u1), (0, .ref h0)]) hx hb dX9_hollow_109 rfl hl (by decide) rfl (fun ls hl => ?_)
                  refine lv_iinc (v := nI (i3 + 1)) (lv' := [(3, .int (nI (i3 + 1))), (1, .int (u3 ||| x_10)), (2, .int u1), (0, .ref h0)]) hx hb dX9_hollow_110 hl (k := 1) rfl (nI_1 (i3)) (by decide) rfl (fun ls hl => ?_)
                  refine lv_goto (tgt := 77) hx hb dX9_hollow_113 (by decide) ?_
                  exact ih_77 (i3 + 1) (u3 ||| x_10) _ (by omega) (by omega) (Nat.le_trans (hl_or _ _) hm3) (lv_sub hl [0, 2, 1, 3] rfl)
                · skip
                  refine lv_ishl hx hb dX9_hollow_103 ?_
                  refine lv_topi (fun x_11 ex_11 => ?_)
                  refine lv_goto (tgt := 108) hx hb dX9_hollow_104 (by decide) ?_
                  refine lv_ior hx hb dX9_hollow_108 ?_
                  refine lv_istore_n (lv' := [(1, .int (u3 ||| x_11)), (3, .int (nI (i3))), (2, .int u1), (0, .ref h0)]) hx hb dX9_hollow_109 rfl hl (by decide) rfl (fun ls hl => ?_)
                  refine lv_iinc (v := nI (i3 + 1)) (lv' := [(3, .int (nI (i3 + 1))), (1, .int (u3 ||| x_11)), (2, .int u1), (0, .ref h0)]) hx hb dX9_hollow_110 hl (k := 1) rfl (nI_1 (i3)) (by decide) rfl (fun ls hl => ?_)
                  refine lv_goto (tgt := 77) hx hb dX9_hollow_113 (by decide) ?_
                  exact ih_77 (i3 + 1) (u3 ||| x_11) _ (by omega) (by omega) (Nat.le_trans (hl_or _ _) hm3) (lv_sub hl [0, 2, 1, 3] rfl)
    · skip
      have nc_1 : i < P := xn_nle (a := P) (b := i) (by omega) (by omega) c_1
      refine lv_iload_n hx hb dX9_hollow_14 rfl (lv_at hl 0 rfl) ?_
      refine lv_istore_n (lv' := [(3, .int (nI (i))), (2, .int (nI (i))), (1, .int u), (0, .ref h0)]) hx hb dX9_hollow_15 rfl hl (by decide) rfl (fun ls hl => ?_)
      refine lv_iconst (v := 0) hx hb dX9_hollow_16 (by decide) ?_
      refine lv_istore (lv' := [(4, .int 0), (3, .int (nI (i))), (2, .int (nI (i))), (1, .int u), (0, .ref h0)]) hx hb dX9_hollow_17 hl (by decide) rfl (fun ls hl => ?_)
      suffices loop_19 : ∀ (n_19 : Nat) (i2 : Nat) (x8 : Int32) (ls : Array Slot), P - i2 < n_19 → (i2 ≤ P) → (x8 = -1 ∨ ∃ y, y < P ∧ x8 = nI y) → lv_has ls 5 [(4, .int (nI (i2))), (3, .int x8), (2, .int (nI (i))), (1, .int u), (0, .ref h0)] → W p l e ({ frames := 2, cells := 0, slots := 0, locals := 46 }) s m ([.ref h0] : List Value).toArray below meth c s.heap [] 0 0 (MQ below (vp_Si (fun r : Int32 => True)) ([.ref h0] : List Value).toArray s 0 0 (fun _ => False)) (F0 m 19 ls []) by
        exact loop_19 _ 0 (nI (i)) _ (Nat.lt_succ_self _) (by omega) (Or.inr ⟨i, by omega, rfl⟩) (lv_sub hl [0, 1, 2, 3, 4] rfl)
      intro n_19
      induction n_19 with
      | zero =>
        intro i2 x8 ls hm_19
        exact absurd hm_19 (Nat.not_lt_zero _)
      | succ n_19 ih_19 =>
        intro i2 x8 ls hm_19 hi2 hx8 hl
        refine lv_iload hx hb dX9_hollow_19 (lv_at hl 0 rfl) ?_
        refine lv_aload_n hx hb dX9_hollow_21 rfl (lv_at hl 4 rfl) ?_
        refine xg hF kf_X9_7 hK hP 0 rfl rfl dX9_hollow_22 ?_
        refine lv_iconst (v := 0) hx hb dX9_hollow_25 (by decide) ?_
        refine va_iald hx hb hK hP 1 0 rfl rfl (xin 0 449 (by decide) (by decide)) dX9_hollow_26 ?_
        refine xl_i (y := nI (P)) hs0 ?_
        refine lv_icmp_ge (tgt := 46) hx hb dX9_hollow_27 (by decide) (fun c_12 => ?_) (fun c_12 => ?_)
        · skip
          have nc_12 : P ≤ i2 := xn_le (a := P) (b := i2) (by omega) (by omega) c_12
          refine lv_iload_n hx hb dX9_hollow_46 rfl (lv_at hl 3 rfl) ?_
          refine lv_iload_n hx hb dX9_hollow_47 rfl (lv_at hl 1 rfl) ?_
          refine lv_if_ge (tgt := 55) hx hb dX9_hollow_48 (by decide) (fun c_13 => ?_) (fun c_13 => ?_)
          · skip
            refine lv_iconst (v := 1) hx hb dX9_hollow_55 (by decide) ?_
            refine lv_iload_n hx hb dX9_hollow_56 rfl (lv_at hl 1 rfl) ?_
            refine lv_ishl hx hb dX9_hollow_57 ?_
            refine lv_topi (fun x_14 ex_14 => ?_)
            refine lv_ior hx hb dX9_hollow_58 ?_
            refine lv_topi (fun x_15 ex_15 => ?_)
            refine lv_istore_n (lv' := [(1, .int x_15), (4, .int (nI (i2))), (3, .int x8), (2, .int (nI (i))), (0, .ref h0)]) hx hb dX9_hollow_59 rfl hl (by decide) rfl (fun ls hl => ?_)
            refine lv_iinc (v := nI (i + 1)) (lv' := [(2, .int (nI (i + 1))), (1, .int x_15), (4, .int (nI (i2))), (3, .int x8), (0, .ref h0)]) hx hb dX9_hollow_60 hl (k := 3) rfl (nI_1 (i)) (by decide) rfl (fun ls hl => ?_)
            refine lv_goto (tgt := 4) hx hb dX9_hollow_63 (by decide) ?_
            exact ih_4 (i + 1) x_15 _ (by omega) (by omega) (lv_sub hl [0, 1, 4] rfl)
          · skip
            refine lv_iconst (v := 0) hx hb dX9_hollow_51 (by decide) ?_
            refine lv_goto (tgt := 58) hx hb dX9_hollow_52 (by decide) ?_
            refine lv_ior hx hb dX9_hollow_58 ?_
            refine lv_topi (fun x_16 ex_16 => ?_)
            refine lv_istore_n (lv' := [(1, .int x_16), (4, .int (nI (i2))), (3, .int x8), (2, .int (nI (i))), (0, .ref h0)]) hx hb dX9_hollow_59 rfl hl (by decide) rfl (fun ls hl => ?_)
            refine lv_iinc (v := nI (i + 1)) (lv' := [(2, .int (nI (i + 1))), (1, .int x_16), (4, .int (nI (i2))), (3, .int x8), (0, .ref h0)]) hx hb dX9_hollow_60 hl (k := 3) rfl (nI_1 (i)) (by decide) rfl (fun ls hl => ?_)
            refine lv_goto (tgt := 4) hx hb dX9_hollow_63 (by decide) ?_
            exact ih_4 (i + 1) x_16 _ (by omega) (by omega) (lv_sub hl [0, 1, 4] rfl)
        · skip
          have nc_12 : i2 < P := xn_nle (a := P) (b := i2) (by omega) (by omega) c_12
          refine lv_iload_n hx hb dX9_hollow_30 rfl (lv_at hl 1 rfl) ?_
          refine lv_if_lt (tgt := 46) hx hb dX9_hollow_31 (by decide) (fun c_17 => ?_) (fun c_17 => ?_)
          · skip
            refine lv_iload_n hx hb dX9_hollow_46 rfl (lv_at hl 3 rfl) ?_
            refine lv_iload_n hx hb dX9_hollow_47 rfl (lv_at hl 1 rfl) ?_
            refine lv_if_ge (tgt := 55) hx hb dX9_hollow_48 (by decide) (fun c_18 => ?_) (fun c_18 => ?_)
            · skip
              refine lv_iconst (v := 1) hx hb dX9_hollow_55 (by decide) ?_
              refine lv_iload_n hx hb dX9_hollow_56 rfl (lv_at hl 1 rfl) ?_
              refine lv_ishl hx hb dX9_hollow_57 ?_
              refine lv_topi (fun x_19 ex_19 => ?_)
              refine lv_ior hx hb dX9_hollow_58 ?_
              refine lv_topi (fun x_20 ex_20 => ?_)
              refine lv_istore_n (lv' := [(1, .int x_20), (4, .int (nI (i2))), (3, .int x8), (2, .int (nI (i))), (0, .ref h0)]) hx hb dX9_hollow_59 rfl hl (by decide) rfl (fun ls hl => ?_)
              refine lv_iinc (v := nI (i + 1)) (lv' := [(2, .int (nI (i + 1))), (1, .int x_20), (4, .int (nI (i2))), (3, .int x8), (0, .ref h0)]) hx hb dX9_hollow_60 hl (k := 3) rfl (nI_1 (i)) (by decide) rfl (fun ls hl => ?_)
              refine lv_goto (tgt := 4) hx hb dX9_hollow_63 (by decide) ?_
              exact ih_4 (i + 1) x_20 _ (by omega) (by omega) (lv_sub hl [0, 1, 4] rfl)
            · skip
              refine lv_iconst (v := 0) hx hb dX9_hollow_51 (by decide) ?_
              refine lv_goto (tgt := 58) hx hb dX9_hollow_52 (by decide) ?_
              refine lv_ior hx hb dX9_hollow_58 ?_
              refine lv_topi (fun x_21 ex_21 => ?_)
              refine lv_istore_n (lv' := [(1, .int x_21), (4, .int (nI (i2))), (3, .int x8), (2, .int (nI (i))), (0, .ref h0)]) hx hb dX9_hollow_59 rfl hl (by decide) rfl (fun ls hl => ?_)
              refine lv_iinc (v := nI (i + 1)) (lv' := [(2, .int (nI (i + 1))), (1, .int x_21), (4, .int (nI (i2))), (3, .int x8), (0, .ref h0)]) hx hb dX9_hollow_60 hl (k := 3) rfl (nI_1 (i)) (by decide) rfl (fun ls hl => ?_)
              refine lv_goto (tgt := 4) hx hb dX9_hollow_63 (by decide) ?_
              exact ih_4 (i + 1) x_21 _ (by omega) (by omega) (lv_sub hl [0, 1, 4] rfl)
          · skip
            obtain ⟨y_22, hy_22, rfl⟩ := xopt hx8 c_17
            refine lv_aload_n hx hb dX9_hollow_34 rfl (lv_at hl 4 rfl) ?_
            refine lv_iload_n hx hb dX9_hollow_35 rfl (lv_at hl 1 rfl) ?_
            refine xc_Vr hF (c_X9_nearest l D cI cJ cZ cS ta sa sv s.heap.size h0 ys yk yo yt mk0 yfa yfe mL mS mM yro yhe ygr mF mC mY yta mz mf mt mv mw ywa ybi ysi ynu ymo ms P Rn Wn fae fal fau fao farn farp fak fawn fawp fat fas y_22 (by omega) hs0 hs1 hs2 hsS hsM hsp hsr hsw hsR hsG) kv_X9_235 ⟨rfl, rfl, Nat.le_of_ble_eq_true rfl, Nat.le_of_ble_eq_true rfl⟩ ⟨Nat.le_of_ble_eq_true rfl, Nat.le_of_ble_eq_true rfl⟩ hK hN hZ hP hD hS hA [0, 1] rfl rfl 0 rfl rfl rfl rfl hl.1 rfl (Nat.le_of_ble_eq_true rfl) dX9_hollow_36 (fun r_23 hw_r_23 => ?_)
            rcases hw_r_23 with rfl | ⟨y_24, rfl, h_25⟩
            · skip
              refine lv_istore_n (lv' := [(3, .int (-1)), (4, .int (nI (i2))), (2, .int (nI (i))), (1, .int u), (0, .ref h0)]) hx hb dX9_hollow_39 rfl hl (by decide) rfl (fun ls hl => ?_)
              refine lv_iinc (v := nI (i2 + 1)) (lv' := [(4, .int (nI (i2 + 1))), (3, .int (-1)), (2, .int (nI (i))), (1, .int u), (0, .ref h0)]) hx hb dX9_hollow_40 hl (k := 1) rfl (nI_1 (i2)) (by decide) rfl (fun ls hl => ?_)
              refine lv_goto (tgt := 19) hx hb dX9_hollow_43 (by decide) ?_
              exact ih_19 (i2 + 1) (-1) _ (by omega) (by omega) (Or.inl rfl) (lv_sub hl [0, 1, 2, 3, 4] rfl)
            · skip
              refine lv_istore_n (lv' := [(3, .int (nI (y_24))), (4, .int (nI (i2))), (2, .int (nI (i))), (1, .int u), (0, .ref h0)]) hx hb dX9_hollow_39 rfl hl (by decide) rfl (fun ls hl => ?_)
              refine lv_iinc (v := nI (i2 + 1)) (lv' := [(4, .int (nI (i2 + 1))), (3, .int (nI (y_24))), (2, .int (nI (i))), (1, .int u), (0, .ref h0)]) hx hb dX9_hollow_40 hl (k := 1) rfl (nI_1 (i2)) (by decide) rfl (fun ls hl => ?_)
              refine lv_goto (tgt := 19) hx hb dX9_hollow_43 (by decide) ?_
              exact ih_19 (i2 + 1) (nI (y_24)) _ (by omega) (by omega) (Or.inr ⟨y_24, by omega, rfl⟩) (lv_sub hl [0, 1, 2, 3, 4] rfl)
