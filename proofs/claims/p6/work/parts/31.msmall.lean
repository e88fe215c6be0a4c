def LRX9_in_2 : List UInt8 := []
def LBX9_in_1 : List UInt8 := [0x04, 0x03, 0xac]
def LRX9_in_1 : List UInt8 := LBX9_in_1 ++ LRX9_in_2
def LBX9_in_0 : List UInt8 := [0x1e, 0x20, 0x94, 0x9b, 0x00, 0x0e, 0x1e, 0x16, 0x04, 0x94, 0x9d, 0x00, 0x07, 0x04, 0xa7, 0x00]
def LRX9_in_0 : List UInt8 := LBX9_in_0 ++ LRX9_in_1
set_option maxRecDepth 100000 in
theorem LBX9_in_eq : cX9_in.data.toList = LRX9_in_0 := by decide +kernel
theorem LBX9_inr_0 (k : Nat) : cX9_in.data.toList[0 + k]? = LRX9_in_0[k]? := by rw [LBX9_in_eq, Nat.zero_add]
theorem LBX9_inr_1 (k : Nat) : cX9_in.data.toList[16 + k]? = LRX9_in_1[k]? := by
  have h := LBX9_inr_0 (16 + k)
  rw [show 0 + (16 + k) = 16 + k by omega] at h
  rw [h]
  exact (List.getElem?_append_right (l₁ := LBX9_in_0) (l₂ := LRX9_in_1) (show 16 ≤ 16 + k by omega)).trans (congrArg (fun i => LRX9_in_1[i]?) (show 16 + k - 16 = k by omega))
theorem dX9_in_0 : decode cX9_in 0 = .ok (.lload_n 0, 1) := dk_30_ (show cX9_in.data.toList[0]? = some 0x1e from (LBX9_inr_0 0).trans (by decide +kernel))
theorem dX9_in_1 : decode cX9_in 1 = .ok (.lload_n 2, 1) := dk_32_ (show cX9_in.data.toList[1]? = some 0x20 from (LBX9_inr_0 1).trans (by decide +kernel))
theorem dX9_in_2 : decode cX9_in 2 = .ok (.lcmp, 1) := dk_148_ (show cX9_in.data.toList[2]? = some 0x94 from (LBX9_inr_0 2).trans (by decide +kernel))
theorem dX9_in_3 : decode cX9_in 3 = .ok (.ifCond .lt 14, 3) := dk_155_ (show cX9_in.data.toList[3]? = some 0x9b from (LBX9_inr_0 3).trans (by decide +kernel)) (show cX9_in.data.toList[4]? = some 0x00 from (LBX9_inr_0 4).trans (by decide +kernel)) (show cX9_in.data.toList[5]? = some 0x0e from (LBX9_inr_0 5).trans (by decide +kernel)) (by decide)
theorem dX9_in_6 : decode cX9_in 6 = .ok (.lload_n 0, 1) := dk_30_ (show cX9_in.data.toList[6]? = some 0x1e from (LBX9_inr_0 6).trans (by decide +kernel))
theorem dX9_in_7 : decode cX9_in 7 = .ok (.lload 4, 2) := dk_22_ (show cX9_in.data.toList[7]? = some 0x16 from (LBX9_inr_0 7).trans (by decide +kernel)) (show cX9_in.data.toList[8]? = some 0x04 from (LBX9_inr_0 8).trans (by decide +kernel)) (by decide)
theorem dX9_in_9 : decode cX9_in 9 = .ok (.lcmp, 1) := dk_148_ (show cX9_in.data.toList[9]? = some 0x94 from (LBX9_inr_0 9).trans (by decide +kernel))
theorem dX9_in_10 : decode cX9_in 10 = .ok (.ifCond .gt 7, 3) := dk_157_ (show cX9_in.data.toList[10]? = some 0x9d from (LBX9_inr_0 10).trans (by decide +kernel)) (show cX9_in.data.toList[11]? = some 0x00 from (LBX9_inr_0 11).trans (by decide +kernel)) (show cX9_in.data.toList[12]? = some 0x07 from (LBX9_inr_0 12).trans (by decide +kernel)) (by decide)
theorem dX9_in_13 : decode cX9_in 13 = .ok (.iconst 1, 1) := dk_4_ (show cX9_in.data.toList[13]? = some 0x04 from (LBX9_inr_0 13).trans (by decide +kernel))
theorem dX9_in_14 : decode cX9_in 14 = .ok (.goto 4, 3) := dk_167_ (show cX9_in.data.toList[14]? = some 0xa7 from (LBX9_inr_0 14).trans (by decide +kernel)) (show cX9_in.data.toList[15]? = some 0x00 from (LBX9_inr_0 15).trans (by decide +kernel)) (show cX9_in.data.toList[16]? = some 0x04 from (LBX9_inr_1 0).trans (by decide +kernel)) (by decide)
theorem dX9_in_17 : decode cX9_in 17 = .ok (.iconst 0, 1) := dk_3_ (show cX9_in.data.toList[17]? = some 0x03 from (LBX9_inr_1 1).trans (by decide +kernel))
theorem dX9_in_18 : decode cX9_in 18 = .ok (.ireturn, 1) := dk_172_ (show cX9_in.data.toList[18]? = some 0xac from (LBX9_inr_1 2).trans (by decide +kernel))
theorem dX9_finds_0 : decode cX9_finds 0 = .ok (.aload_n 0, 1) := dk_42_ (show cX9_finds.data.toList[0]? = some 0x2a from by decide +kernel)
theorem dX9_finds_1 : decode cX9_finds 1 = .ok (.getfield 19, 3) := dk_180_ (show cX9_finds.data.toList[1]? = some 0xb4 from by decide +kernel) (show cX9_finds.data.toList[2]? = some 0x00 from by decide +kernel) (show cX9_finds.data.toList[3]? = some 0x13 from by decide +kernel) (by decide)
theorem dX9_finds_4 : decode cX9_finds 4 = .ok (.ldc 56, 2) := dk_18_ (show cX9_finds.data.toList[4]? = some 0x12 from by decide +kernel) (show cX9_finds.data.toList[5]? = some 0x38 from by decide +kernel) (by decide)
theorem dX9_finds_6 : decode cX9_finds 6 = .ok (.iload_n 1, 1) := dk_27_ (show cX9_finds.data.toList[6]? = some 0x1b from by decide +kernel)
theorem dX9_finds_7 : decode cX9_finds 7 = .ok (.isub, 1) := dk_100_ (show cX9_finds.data.toList[7]? = some 0x64 from by decide +kernel)
theorem dX9_finds_8 : decode cX9_finds 8 = .ok (.dup2, 1) := dk_92_ (show cX9_finds.data.toList[8]? = some 0x5c from by decide +kernel)
theorem dX9_finds_9 : decode cX9_finds 9 = .ok (.iaload, 1) := dk_46_ (show cX9_finds.data.toList[9]? = some 0x2e from by decide +kernel)
theorem dX9_finds_10 : decode cX9_finds 10 = .ok (.iconst 1, 1) := dk_4_ (show cX9_finds.data.toList[10]? = some 0x04 from by decide +kernel)
theorem dX9_finds_11 : decode cX9_finds 11 = .ok (.iadd, 1) := dk_96_ (show cX9_finds.data.toList[11]? = some 0x60 from by decide +kernel)
theorem dX9_finds_12 : decode cX9_finds 12 = .ok (.iastore, 1) := dk_79_ (show cX9_finds.data.toList[12]? = some 0x4f from by decide +kernel)
theorem dX9_finds_13 : decode cX9_finds 13 = .ok (.iload_n 1, 1) := dk_27_ (show cX9_finds.data.toList[13]? = some 0x1b from by decide +kernel)
theorem dX9_finds_14 : decode cX9_finds 14 = .ok (.ireturn, 1) := dk_172_ (show cX9_finds.data.toList[14]? = some 0xac from by decide +kernel)
theorem dX9_isPlace_0 : decode cX9_isPlace 0 = .ok (.iload_n 1, 1) := dk_27_ (show cX9_isPlace.data.toList[0]? = some 0x1b from by decide +kernel)
theorem dX9_isPlace_1 : decode cX9_isPlace 1 = .ok (.i2l, 1) := dk_133_ (show cX9_isPlace.data.toList[1]? = some 0x85 from by decide +kernel)
theorem dX9_isPlace_2 : decode cX9_isPlace 2 = .ok (.lconst 0, 1) := dk_9_ (show cX9_isPlace.data.toList[2]? = some 0x09 from by decide +kernel)
theorem dX9_isPlace_3 : decode cX9_isPlace 3 = .ok (.aload_n 0, 1) := dk_42_ (show cX9_isPlace.data.toList[3]? = some 0x2a from by decide +kernel)
theorem dX9_isPlace_4 : decode cX9_isPlace 4 = .ok (.getfield 7, 3) := dk_180_ (show cX9_isPlace.data.toList[4]? = some 0xb4 from by decide +kernel) (show cX9_isPlace.data.toList[5]? = some 0x00 from by decide +kernel) (show cX9_isPlace.data.toList[6]? = some 0x07 from by decide +kernel) (by decide)
theorem dX9_isPlace_7 : decode cX9_isPlace 7 = .ok (.iconst 0, 1) := dk_3_ (show cX9_isPlace.data.toList[7]? = some 0x03 from by decide +kernel)
theorem dX9_isPlace_8 : decode cX9_isPlace 8 = .ok (.iaload, 1) := dk_46_ (show cX9_isPlace.data.toList[8]? = some 0x2e from by decide +kernel)
theorem dX9_isPlace_9 : decode cX9_isPlace 9 = .ok (.iconst 1, 1) := dk_4_ (show cX9_isPlace.data.toList[9]? = some 0x04 from by decide +kernel)
theorem dX9_isPlace_10 : decode cX9_isPlace 10 = .ok (.isub, 1) := dk_100_ (show cX9_isPlace.data.toList[10]? = some 0x64 from by decide +kernel)
theorem dX9_isPlace_11 : decode cX9_isPlace 11 = .ok (.i2l, 1) := dk_133_ (show cX9_isPlace.data.toList[11]? = some 0x85 from by decide +kernel)
theorem dX9_isPlace_12 : decode cX9_isPlace 12 = .ok (.invokestatic 57, 3) := dk_184_ (show cX9_isPlace.data.toList[12]? = some 0xb8 from by decide +kernel) (show cX9_isPlace.data.toList[13]? = some 0x00 from by decide +kernel) (show cX9_isPlace.data.toList[14]? = some 0x39 from by decide +kernel) (by decide)
theorem dX9_isPlace_15 : decode cX9_isPlace 15 = .ok (.ireturn, 1) := dk_172_ (show cX9_isPlace.data.toList[15]? = some 0xac from by decide +kernel)
theorem dX9_isRound_0 : decode cX9_isRound 0 = .ok (.iload_n 1, 1) := dk_27_ (show cX9_isRound.data.toList[0]? = some 0x1b from by decide +kernel)
theorem dX9_isRound_1 : decode cX9_isRound 1 = .ok (.i2l, 1) := dk_133_ (show cX9_isRound.data.toList[1]? = some 0x85 from by decide +kernel)
theorem dX9_isRound_2 : decode cX9_isRound 2 = .ok (.lconst 0, 1) := dk_9_ (show cX9_isRound.data.toList[2]? = some 0x09 from by decide +kernel)
theorem dX9_isRound_3 : decode cX9_isRound 3 = .ok (.aload_n 0, 1) := dk_42_ (show cX9_isRound.data.toList[3]? = some 0x2a from by decide +kernel)
theorem dX9_isRound_4 : decode cX9_isRound 4 = .ok (.getfield 7, 3) := dk_180_ (show cX9_isRound.data.toList[4]? = some 0xb4 from by decide +kernel) (show cX9_isRound.data.toList[5]? = some 0x00 from by decide +kernel) (show cX9_isRound.data.toList[6]? = some 0x07 from by decide +kernel) (by decide)
theorem dX9_isRound_7 : decode cX9_isRound 7 = .ok (.iconst 1, 1) := dk_4_ (show cX9_isRound.data.toList[7]? = some 0x04 from by decide +kernel)
theorem dX9_isRound_8 : decode cX9_isRound 8 = .ok (.iaload, 1) := dk_46_ (show cX9_isRound.data.toList[8]? = some 0x2e from by decide +kernel)
theorem dX9_isRound_9 : decode cX9_isRound 9 = .ok (.iconst 1, 1) := dk_4_ (show cX9_isRound.data.toList[9]? = some 0x04 from by decide +kernel)
theorem dX9_isRound_10 : decode cX9_isRound 10 = .ok (.isub, 1) := dk_100_ (show cX9_isRound.data.toList[10]? = some 0x64 from by decide +kernel)
theorem dX9_isRound_11 : decode cX9_isRound 11 = .ok (.i2l, 1) := dk_133_ (show cX9_isRound.data.toList[11]? = some 0x85 from by decide +kernel)
theorem dX9_isRound_12 : decode cX9_isRound 12 = .ok (.invokestatic 57, 3) := dk_184_ (show cX9_isRound.data.toList[12]? = some 0xb8 from by decide +kernel) (show cX9_isRound.data.toList[13]? = some 0x00 from by decide +kernel) (show cX9_isRound.data.toList[14]? = some 0x39 from by decide +kernel) (by decide)
theorem dX9_isRound_15 : decode cX9_isRound 15 = .ok (.ireturn, 1) := dk_172_ (show cX9_isRound.data.toList[15]? = some 0xac from by decide +kernel)
def LRX9_areTwo_2 : List UInt8 := []
def LBX9_areTwo_1 : List UInt8 := [0x1b, 0x1c, 0x9f, 0x00, 0x07, 0x04, 0xa7, 0x00, 0x04, 0x03, 0xac]
def LRX9_areTwo_1 : List UInt8 := LBX9_areTwo_1 ++ LRX9_areTwo_2
def LBX9_areTwo_0 : List UInt8 := [0x2a, 0x1b, 0xb6, 0x00, 0x3d, 0x99, 0x00, 0x14, 0x2a, 0x1c, 0xb6, 0x00, 0x3d, 0x99, 0x00, 0x0c]
def LRX9_areTwo_0 : List UInt8 := LBX9_areTwo_0 ++ LRX9_areTwo_1
set_option maxRecDepth 100000 in
theorem LBX9_areTwo_eq : cX9_areTwo.data.toList = LRX9_areTwo_0 := by decide +kernel
theorem LBX9_areTwor_0 (k : Nat) : cX9_areTwo.data.toList[0 + k]? = LRX9_areTwo_0[k]? := by rw [LBX9_areTwo_eq, Nat.zero_add]
theorem LBX9_areTwor_1 (k : Nat) : cX9_areTwo.data.toList[16 + k]? = LRX9_areTwo_1[k]? := by
  have h := LBX9_areTwor_0 (16 + k)
  rw [show 0 + (16 + k) = 16 + k by omega] at h
  rw [h]
  exact (List.getElem?_append_right (l₁ := LBX9_areTwo_0) (l₂ := LRX9_areTwo_1) (show 16 ≤ 16 + k by omega)).trans (congrArg (fun i => LRX9_areTwo_1[i]?) (show 16 + k - 16 = k by omega))
theorem dX9_areTwo_0 : decode cX9_areTwo 0 = .ok (.aload_n 0, 1) := dk_42_ (show cX9_areTwo.data.toList[0]? = some 0x2a from (LBX9_areTwor_0 0).trans (by decide +kernel))
theorem dX9_areTwo_1 : decode cX9_areTwo 1 = .ok (.iload_n 1, 1) := dk_27_ (show cX9_areTwo.data.toList[1]? = some 0x1b from (LBX9_areTwor_0 1).trans (by decide +kernel))
theorem dX9_areTwo_2 : decode cX9_areTwo 2 = .ok (.invokevirtual 61, 3) := dk_182_ (show cX9_areTwo.data.toList[2]? = some 0xb6 from (LBX9_areTwor_0 2).trans (by decide +kernel)) (show cX9_areTwo.data.toList[3]? = some 0x00 from (LBX9_areTwor_0 3).trans (by decide +kernel)) (show cX9_areTwo.data.toList[4]? = some 0x3d from (LBX9_areTwor_0 4).trans (by decide +kernel)) (by decide)
theorem dX9_areTwo_5 : decode cX9_areTwo 5 = .ok (.ifCond .eq 20, 3) := dk_153_ (show cX9_areTwo.data.toList[5]? = some 0x99 from (LBX9_areTwor_0 5).trans (by decide +kernel)) (show cX9_areTwo.data.toList[6]? = some 0x00 from (LBX9_areTwor_0 6).trans (by decide +kernel)) (show cX9_areTwo.data.toList[7]? = some 0x14 from (LBX9_areTwor_0 7).trans (by decide +kernel)) (by decide)
theorem dX9_areTwo_8 : decode cX9_areTwo 8 = .ok (.aload_n 0, 1) := dk_42_ (show cX9_areTwo.data.toList[8]? = some 0x2a from (LBX9_areTwor_0 8).trans (by decide +kernel))
theorem dX9_areTwo_9 : decode cX9_areTwo 9 = .ok (.iload_n 2, 1) := dk_28_ (show cX9_areTwo.data.toList[9]? = some 0x1c from (LBX9_areTwor_0 9).trans (by decide +kernel))
theorem dX9_areTwo_10 : decode cX9_areTwo 10 = .ok (.invokevirtual 61, 3) := dk_182_ (show cX9_areTwo.data.toList[10]? = some 0xb6 from (LBX9_areTwor_0 10).trans (by decide +kernel)) (show cX9_areTwo.data.toList[11]? = some 0x00 from (LBX9_areTwor_0 11).trans (by decide +kernel)) (show cX9_areTwo.data.toList[12]? = some 0x3d from (LBX9_areTwor_0 12).trans (by decide +kernel)) (by decide)
theorem dX9_areTwo_13 : decode cX9_areTwo 13 = .ok (.ifCond .eq 12, 3) := dk_153_ (show cX9_areTwo.data.toList[13]? = some 0x99 from (LBX9_areTwor_0 13).trans (by decide +kernel)) (show cX9_areTwo.data.toList[14]? = some 0x00 from (LBX9_areTwor_0 14).trans (by decide +kernel)) (show cX9_areTwo.data.toList[15]? = some 0x0c from (LBX9_areTwor_0 15).trans (by decide +kernel)) (by decide)
theorem dX9_areTwo_16 : decode cX9_areTwo 16 = .ok (.iload_n 1, 1) := dk_27_ (show cX9_areTwo.data.toList[16]? = some 0x1b from (LBX9_areTwor_1 0).trans (by decide +kernel))
theorem dX9_areTwo_17 : decode cX9_areTwo 17 = .ok (.iload_n 2, 1) := dk_28_ (show cX9_areTwo.data.toList[17]? = some 0x1c from (LBX9_areTwor_1 1).trans (by decide +kernel))
theorem dX9_areTwo_18 : decode cX9_areTwo 18 = .ok (.if_icmp .eq 7, 3) := dk_159_ (show cX9_areTwo.data.toList[18]? = some 0x9f from (LBX9_areTwor_1 2).trans (by decide +kernel)) (show cX9_areTwo.data.toList[19]? = some 0x00 from (LBX9_areTwor_1 3).trans (by decide +kernel)) (show cX9_areTwo.data.toList[20]? = some 0x07 from (LBX9_areTwor_1 4).trans (by decide +kernel)) (by decide)
theorem dX9_areTwo_21 : decode cX9_areTwo 21 = .ok (.iconst 1, 1) := dk_4_ (show cX9_areTwo.data.toList[21]? = some 0x04 from (LBX9_areTwor_1 5).trans (by decide +kernel))
theorem dX9_areTwo_22 : decode cX9_areTwo 22 = .ok (.goto 4, 3) := dk_167_ (show cX9_areTwo.data.toList[22]? = some 0xa7 from (LBX9_areTwor_1 6).trans (by decide +kernel)) (show cX9_areTwo.data.toList[23]? = some 0x00 from (LBX9_areTwor_1 7).trans (by decide +kernel)) (show cX9_areTwo.data.toList[24]? = some 0x04 from (LBX9_areTwor_1 8).trans (by decide +kernel)) (by decide)
theorem dX9_areTwo_25 : decode cX9_areTwo 25 = .ok (.iconst 0, 1) := dk_3_ (show cX9_areTwo.data.toList[25]? = some 0x03 from (LBX9_areTwor_1 9).trans (by decide +kernel))
theorem dX9_areTwo_26 : decode cX9_areTwo 26 = .ok (.ireturn, 1) := dk_172_ (show cX9_areTwo.data.toList[26]? = some 0xac from (LBX9_areTwor_1 10).trans (by decide +kernel))
def LRX9_isOpen_2 : List UInt8 := []
def LBX9_isOpen_1 : List UInt8 := [0xa0, 0x00, 0x07, 0x04, 0xa7, 0x00, 0x04, 0x03, 0xac]
def LRX9_isOpen_1 : List UInt8 := LBX9_isOpen_1 ++ LRX9_isOpen_2
def LBX9_isOpen_0 : List UInt8 := [0x2a, 0xb4, 0x00, 0x07, 0x11, 0x00, 0xd5, 0x10, 0x0a, 0x1b, 0x68, 0x60, 0x1c, 0x60, 0x2e, 0x04]
def LRX9_isOpen_0 : List UInt8 := LBX9_isOpen_0 ++ LRX9_isOpen_1
set_option maxRecDepth 100000 in
theorem LBX9_isOpen_eq : cX9_isOpen.data.toList = LRX9_isOpen_0 := by decide +kernel
theorem LBX9_isOpenr_0 (k : Nat) : cX9_isOpen.data.toList[0 + k]? = LRX9_isOpen_0[k]? := by rw [LBX9_isOpen_eq, Nat.zero_add]
theorem LBX9_isOpenr_1 (k : Nat) : cX9_isOpen.data.toList[16 + k]? = LRX9_isOpen_1[k]? := by
  have h := LBX9_isOpenr_0 (16 + k)
  rw [show 0 + (16 + k) = 16 + k by omega] at h
  rw [h]
  exact (List.getElem?_append_right (l₁ := LBX9_isOpen_0) (l₂ := LRX9_isOpen_1) (show 16 ≤ 16 + k by omega)).trans (congrArg (fun i => LRX9_isOpen_1[i]?) (show 16 + k - 16 = k by omega))
theorem dX9_isOpen_0 : decode cX9_isOpen 0 = .ok (.aload_n 0, 1) := dk_42_ (show cX9_isOpen.data.toList[0]? = some 0x2a from (LBX9_isOpenr_0 0).trans (by decide +kernel))
theorem dX9_isOpen_1 : decode cX9_isOpen 1 = .ok (.getfield 7, 3) := dk_180_ (show cX9_isOpen.data.toList[1]? = some 0xb4 from (LBX9_isOpenr_0 1).trans (by decide +kernel)) (show cX9_isOpen.data.toList[2]? = some 0x00 from (LBX9_isOpenr_0 2).trans (by decide +kernel)) (show cX9_isOpen.data.toList[3]? = some 0x07 from (LBX9_isOpenr_0 3).trans (by decide +kernel)) (by decide)
theorem dX9_isOpen_4 : decode cX9_isOpen 4 = .ok (.sipush 213, 3) := dk_17_ (show cX9_isOpen.data.toList[4]? = some 0x11 from (LBX9_isOpenr_0 4).trans (by decide +kernel)) (show cX9_isOpen.data.toList[5]? = some 0x00 from (LBX9_isOpenr_0 5).trans (by decide +kernel)) (show cX9_isOpen.data.toList[6]? = some 0xd5 from (LBX9_isOpenr_0 6).trans (by decide +kernel)) (by decide)
theorem dX9_isOpen_7 : decode cX9_isOpen 7 = .ok (.bipush 10, 2) := dk_16_ (show cX9_isOpen.data.toList[7]? = some 0x10 from (LBX9_isOpenr_0 7).trans (by decide +kernel)) (show cX9_isOpen.data.toList[8]? = some 0x0a from (LBX9_isOpenr_0 8).trans (by decide +kernel)) (by decide)
theorem dX9_isOpen_9 : decode cX9_isOpen 9 = .ok (.iload_n 1, 1) := dk_27_ (show cX9_isOpen.data.toList[9]? = some 0x1b from (LBX9_isOpenr_0 9).trans (by decide +kernel))
theorem dX9_isOpen_10 : decode cX9_isOpen 10 = .ok (.imul, 1) := dk_104_ (show cX9_isOpen.data.toList[10]? = some 0x68 from (LBX9_isOpenr_0 10).trans (by decide +kernel))
theorem dX9_isOpen_11 : decode cX9_isOpen 11 = .ok (.iadd, 1) := dk_96_ (show cX9_isOpen.data.toList[11]? = some 0x60 from (LBX9_isOpenr_0 11).trans (by decide +kernel))
theorem dX9_isOpen_12 : decode cX9_isOpen 12 = .ok (.iload_n 2, 1) := dk_28_ (show cX9_isOpen.data.toList[12]? = some 0x1c from (LBX9_isOpenr_0 12).trans (by decide +kernel))
theorem dX9_isOpen_13 : decode cX9_isOpen 13 = .ok (.iadd, 1) := dk_96_ (show cX9_isOpen.data.toList[13]? = some 0x60 from (LBX9_isOpenr_0 13).trans (by decide +kernel))
theorem dX9_isOpen_14 : decode cX9_isOpen 14 = .ok (.iaload, 1) := dk_46_ (show cX9_isOpen.data.toList[14]? = some 0x2e from (LBX9_isOpenr_0 14).trans (by decide +kernel))
theorem dX9_isOpen_15 : decode cX9_isOpen 15 = .ok (.iconst 1, 1) := dk_4_ (show cX9_isOpen.data.toList[15]? = some 0x04 from (LBX9_isOpenr_0 15).trans (by decide +kernel))
theorem dX9_isOpen_16 : decode cX9_isOpen 16 = .ok (.if_icmp .ne 7, 3) := dk_160_ (show cX9_isOpen.data.toList[16]? = some 0xa0 from (LBX9_isOpenr_1 0).trans (by decide +kernel)) (show cX9_isOpen.data.toList[17]? = some 0x00 from (LBX9_isOpenr_1 1).trans (by decide +kernel)) (show cX9_isOpen.data.toList[18]? = some 0x07 from (LBX9_isOpenr_1 2).trans (by decide +kernel)) (by decide)
theorem dX9_isOpen_19 : decode cX9_isOpen 19 = .ok (.iconst 1, 1) := dk_4_ (show cX9_isOpen.data.toList[19]? = some 0x04 from (LBX9_isOpenr_1 3).trans (by decide +kernel))
theorem dX9_isOpen_20 : decode cX9_isOpen 20 = .ok (.goto 4, 3) := dk_167_ (show cX9_isOpen.data.toList[20]? = some 0xa7 from (LBX9_isOpenr_1 4).trans (by decide +kernel)) (show cX9_isOpen.data.toList[21]? = some 0x00 from (LBX9_isOpenr_1 5).trans (by decide +kernel)) (show cX9_isOpen.data.toList[22]? = some 0x04 from (LBX9_isOpenr_1 6).trans (by decide +kernel)) (by decide)
theorem dX9_isOpen_23 : decode cX9_isOpen 23 = .ok (.iconst 0, 1) := dk_3_ (show cX9_isOpen.data.toList[23]? = some 0x03 from (LBX9_isOpenr_1 7).trans (by decide +kernel))
theorem dX9_isOpen_24 : decode cX9_isOpen 24 = .ok (.ireturn, 1) := dk_172_ (show cX9_isOpen.data.toList[24]? = some 0xac from (LBX9_isOpenr_1 8).trans (by decide +kernel))
def LRX9_isWay_2 : List UInt8 := []
def LBX9_isWay_1 : List UInt8 := [0x00, 0x07, 0x04, 0xa7, 0x00, 0x04, 0x03, 0xac]
def LRX9_isWay_1 : List UInt8 := LBX9_isWay_1 ++ LRX9_isWay_2
def LBX9_isWay_0 : List UInt8 := [0x2a, 0xb4, 0x00, 0x07, 0x11, 0x00, 0xd5, 0x10, 0x0a, 0x1b, 0x68, 0x60, 0x1c, 0x60, 0x2e, 0x9e]
def LRX9_isWay_0 : List UInt8 := LBX9_isWay_0 ++ LRX9_isWay_1
set_option maxRecDepth 100000 in
theorem LBX9_isWay_eq : cX9_isWay.data.toList = LRX9_isWay_0 := by decide +kernel
theorem LBX9_isWayr_0 (k : Nat) : cX9_isWay.data.toList[0 + k]? = LRX9_isWay_0[k]? := by rw [LBX9_isWay_eq, Nat.zero_add]
theorem LBX9_isWayr_1 (k : Nat) : cX9_isWay.data.toList[16 + k]? = LRX9_isWay_1[k]? := by
  have h := LBX9_isWayr_0 (16 + k)
  rw [show 0 + (16 + k) = 16 + k by omega] at h
  rw [h]
  exact (List.getElem?_append_right (l₁ := LBX9_isWay_0) (l₂ := LRX9_isWay_1) (show 16 ≤ 16 + k by omega)).trans (congrArg (fun i => LRX9_isWay_1[i]?) (show 16 + k - 16 = k by omega))
theorem dX9_isWay_0 : decode cX9_isWay 0 = .ok (.aload_n 0, 1) := dk_42_ (show cX9_isWay.data.toList[0]? = some 0x2a from (LBX9_isWayr_0 0).trans (by decide +kernel))
theorem dX9_isWay_1 : decode cX9_isWay 1 = .ok (.getfield 7, 3) := dk_180_ (show cX9_isWay.data.toList[1]? = some 0xb4 from (LBX9_isWayr_0 1).trans (by decide +kernel)) (show cX9_isWay.data.toList[2]? = some 0x00 from (LBX9_isWayr_0 2).trans (by decide +kernel)) (show cX9_isWay.data.toList[3]? = some 0x07 from (LBX9_isWayr_0 3).trans (by decide +kernel)) (by decide)
theorem dX9_isWay_4 : decode cX9_isWay 4 = .ok (.sipush 213, 3) := dk_17_ (show cX9_isWay.data.toList[4]? = some 0x11 from (LBX9_isWayr_0 4).trans (by decide +kernel)) (show cX9_isWay.data.toList[5]? = some 0x00 from (LBX9_isWayr_0 5).trans (by decide +kernel)) (show cX9_isWay.data.toList[6]? = some 0xd5 from (LBX9_isWayr_0 6).trans (by decide +kernel)) (by decide)
theorem dX9_isWay_7 : decode cX9_isWay 7 = .ok (.bipush 10, 2) := dk_16_ (show cX9_isWay.data.toList[7]? = some 0x10 from (LBX9_isWayr_0 7).trans (by decide +kernel)) (show cX9_isWay.data.toList[8]? = some 0x0a from (LBX9_isWayr_0 8).trans (by decide +kernel)) (by decide)
theorem dX9_isWay_9 : decode cX9_isWay 9 = .ok (.iload_n 1, 1) := dk_27_ (show cX9_isWay.data.toList[9]? = some 0x1b from (LBX9_isWayr_0 9).trans (by decide +kernel))
theorem dX9_isWay_10 : decode cX9_isWay 10 = .ok (.imul, 1) := dk_104_ (show cX9_isWay.data.toList[10]? = some 0x68 from (LBX9_isWayr_0 10).trans (by decide +kernel))
theorem dX9_isWay_11 : decode cX9_isWay 11 = .ok (.iadd, 1) := dk_96_ (show cX9_isWay.data.toList[11]? = some 0x60 from (LBX9_isWayr_0 11).trans (by decide +kernel))
theorem dX9_isWay_12 : decode cX9_isWay 12 = .ok (.iload_n 2, 1) := dk_28_ (show cX9_isWay.data.toList[12]? = some 0x1c from (LBX9_isWayr_0 12).trans (by decide +kernel))
theorem dX9_isWay_13 : decode cX9_isWay 13 = .ok (.iadd, 1) := dk_96_ (show cX9_isWay.data.toList[13]? = some 0x60 from (LBX9_isWayr_0 13).trans (by decide +kernel))
theorem dX9_isWay_14 : decode cX9_isWay 14 = .ok (.iaload, 1) := dk_46_ (show cX9_isWay.data.toList[14]? = some 0x2e from (LBX9_isWayr_0 14).trans (by decide +kernel))
theorem dX9_isWay_15 : decode cX9_isWay 15 = .ok (.ifCond .le 7, 3) := dk_158_ (show cX9_isWay.data.toList[15]? = some 0x9e from (LBX9_isWayr_0 15).trans (by decide +kernel)) (show cX9_isWay.data.toList[16]? = some 0x00 from (LBX9_isWayr_1 0).trans (by decide +kernel)) (show cX9_isWay.data.toList[17]? = some 0x07 from (LBX9_isWayr_1 1).trans (by decide +kernel)) (by decide)
theorem dX9_isWay_18 : decode cX9_isWay 18 = .ok (.iconst 1, 1) := dk_4_ (show cX9_isWay.data.toList[18]? = some 0x04 from (LBX9_isWayr_1 2).trans (by decide +kernel))
theorem dX9_isWay_19 : decode cX9_isWay 19 = .ok (.goto 4, 3) := dk_167_ (show cX9_isWay.data.toList[19]? = some 0xa7 from (LBX9_isWayr_1 3).trans (by decide +kernel)) (show cX9_isWay.data.toList[20]? = some 0x00 from (LBX9_isWayr_1 4).trans (by decide +kernel)) (show cX9_isWay.data.toList[21]? = some 0x04 from (LBX9_isWayr_1 5).trans (by decide +kernel)) (by decide)
theorem dX9_isWay_22 : decode cX9_isWay 22 = .ok (.iconst 0, 1) := dk_3_ (show cX9_isWay.data.toList[22]? = some 0x03 from (LBX9_isWayr_1 6).trans (by decide +kernel))
theorem dX9_isWay_23 : decode cX9_isWay 23 = .ok (.ireturn, 1) := dk_172_ (show cX9_isWay.data.toList[23]? = some 0xac from (LBX9_isWayr_1 7).trans (by decide +kernel))
theorem dX9_miles_0 : decode cX9_miles 0 = .ok (.aload_n 0, 1) := dk_42_ (show cX9_miles.data.toList[0]? = some 0x2a from by decide +kernel)
theorem dX9_miles_1 : decode cX9_miles 1 = .ok (.getfield 7, 3) := dk_180_ (show cX9_miles.data.toList[1]? = some 0xb4 from by decide +kernel) (show cX9_miles.data.toList[2]? = some 0x00 from by decide +kernel) (show cX9_miles.data.toList[3]? = some 0x07 from by decide +kernel) (by decide)
theorem dX9_miles_4 : decode cX9_miles 4 = .ok (.bipush 13, 2) := dk_16_ (show cX9_miles.data.toList[4]? = some 0x10 from by decide +kernel) (show cX9_miles.data.toList[5]? = some 0x0d from by decide +kernel) (by decide)
theorem dX9_miles_6 : decode cX9_miles 6 = .ok (.bipush 10, 2) := dk_16_ (show cX9_miles.data.toList[6]? = some 0x10 from by decide +kernel) (show cX9_miles.data.toList[7]? = some 0x0a from by decide +kernel) (by decide)
theorem dX9_miles_8 : decode cX9_miles 8 = .ok (.iload_n 1, 1) := dk_27_ (show cX9_miles.data.toList[8]? = some 0x1b from by decide +kernel)
theorem dX9_miles_9 : decode cX9_miles 9 = .ok (.imul, 1) := dk_104_ (show cX9_miles.data.toList[9]? = some 0x68 from by decide +kernel)
theorem dX9_miles_10 : decode cX9_miles 10 = .ok (.iadd, 1) := dk_96_ (show cX9_miles.data.toList[10]? = some 0x60 from by decide +kernel)
theorem dX9_miles_11 : decode cX9_miles 11 = .ok (.iload_n 2, 1) := dk_28_ (show cX9_miles.data.toList[11]? = some 0x1c from by decide +kernel)
theorem dX9_miles_12 : decode cX9_miles 12 = .ok (.iadd, 1) := dk_96_ (show cX9_miles.data.toList[12]? = some 0x60 from by decide +kernel)
theorem dX9_miles_13 : decode cX9_miles 13 = .ok (.iaload, 1) := dk_46_ (show cX9_miles.data.toList[13]? = some 0x2e from by decide +kernel)
theorem dX9_miles_14 : decode cX9_miles 14 = .ok (.ireturn, 1) := dk_172_ (show cX9_miles.data.toList[14]? = some 0xac from by decide +kernel)
def LRX9_areEnds_3 : List UInt8 := []
def LBX9_areEnds_2 : List UInt8 := [0xac]
def LRX9_areEnds_2 : List UInt8 := LBX9_areEnds_2 ++ LRX9_areEnds_3
def LBX9_areEnds_1 : List UInt8 := [0x1a, 0x85, 0x14, 0x00, 0x43, 0xb8, 0x00, 0x39, 0x99, 0x00, 0x07, 0x04, 0xa7, 0x00, 0x04, 0x03]
def LRX9_areEnds_1 : List UInt8 := LBX9_areEnds_1 ++ LRX9_areEnds_2
def LBX9_areEnds_0 : List UInt8 := [0x1a, 0x85, 0x14, 0x00, 0x41, 0x14, 0x00, 0x43, 0xb8, 0x00, 0x39, 0x99, 0x00, 0x14, 0x1b, 0x85]
def LRX9_areEnds_0 : List UInt8 := LBX9_areEnds_0 ++ LRX9_areEnds_1
set_option maxRecDepth 100000 in
theorem LBX9_areEnds_eq : cX9_areEnds.data.toList = LRX9_areEnds_0 := by decide +kernel
theorem LBX9_areEndsr_0 (k : Nat) : cX9_areEnds.data.toList[0 + k]? = LRX9_areEnds_0[k]? := by rw [LBX9_areEnds_eq, Nat.zero_add]
theorem LBX9_areEndsr_1 (k : Nat) : cX9_areEnds.data.toList[16 + k]? = LRX9_areEnds_1[k]? := by
  have h := LBX9_areEndsr_0 (16 + k)
  rw [show 0 + (16 + k) = 16 + k by omega] at h
  rw [h]
  exact (List.getElem?_append_right (l₁ := LBX9_areEnds_0) (l₂ := LRX9_areEnds_1) (show 16 ≤ 16 + k by omega)).trans (congrArg (fun i => LRX9_areEnds_1[i]?) (show 16 + k - 16 = k by omega))
theorem LBX9_areEndsr_2 (k : Nat) : cX9_areEnds.data.toList[32 + k]? = LRX9_areEnds_2[k]? := by
  have h := LBX9_areEndsr_1 (16 + k)
  rw [show 16 + (16 + k) = 32 + k by omega] at h
  rw [h]
  exact (List.getElem?_append_right (l₁ := LBX9_areEnds_1) (l₂ := LRX9_areEnds_2) (show 16 ≤ 16 + k by omega)).trans (congrArg (fun i => LRX9_areEnds_2[i]?) (show 16 + k - 16 = k by omega))
theorem dX9_areEnds_0 : decode cX9_areEnds 0 = .ok (.iload_n 0, 1) := dk_26_ (show cX9_areEnds.data.toList[0]? = some 0x1a from (LBX9_areEndsr_0 0).trans (by decide +kernel))
theorem dX9_areEnds_1 : decode cX9_areEnds 1 = .ok (.i2l, 1) := dk_133_ (show cX9_areEnds.data.toList[1]? = some 0x85 from (LBX9_areEndsr_0 1).trans (by decide +kernel))
theorem dX9_areEnds_2 : decode cX9_areEnds 2 = .ok (.ldc2_w 65, 3) := dk_20_ (show cX9_areEnds.data.toList[2]? = some 0x14 from (LBX9_areEndsr_0 2).trans (by decide +kernel)) (show cX9_areEnds.data.toList[3]? = some 0x00 from (LBX9_areEndsr_0 3).trans (by decide +kernel)) (show cX9_areEnds.data.toList[4]? = some 0x41 from (LBX9_areEndsr_0 4).trans (by decide +kernel)) (by decide)
theorem dX9_areEnds_5 : decode cX9_areEnds 5 = .ok (.ldc2_w 67, 3) := dk_20_ (show cX9_areEnds.data.toList[5]? = some 0x14 from (LBX9_areEndsr_0 5).trans (by decide +kernel)) (show cX9_areEnds.data.toList[6]? = some 0x00 from (LBX9_areEndsr_0 6).trans (by decide +kernel)) (show cX9_areEnds.data.toList[7]? = some 0x43 from (LBX9_areEndsr_0 7).trans (by decide +kernel)) (by decide)
theorem dX9_areEnds_8 : decode cX9_areEnds 8 = .ok (.invokestatic 57, 3) := dk_184_ (show cX9_areEnds.data.toList[8]? = some 0xb8 from (LBX9_areEndsr_0 8).trans (by decide +kernel)) (show cX9_areEnds.data.toList[9]? = some 0x00 from (LBX9_areEndsr_0 9).trans (by decide +kernel)) (show cX9_areEnds.data.toList[10]? = some 0x39 from (LBX9_areEndsr_0 10).trans (by decide +kernel)) (by decide)
theorem dX9_areEnds_11 : decode cX9_areEnds 11 = .ok (.ifCond .eq 20, 3) := dk_153_ (show cX9_areEnds.data.toList[11]? = some 0x99 from (LBX9_areEndsr_0 11).trans (by decide +kernel)) (show cX9_areEnds.data.toList[12]? = some 0x00 from (LBX9_areEndsr_0 12).trans (by decide +kernel)) (show cX9_areEnds.data.toList[13]? = some 0x14 from (LBX9_areEndsr_0 13).trans (by decide +kernel)) (by decide)
theorem dX9_areEnds_14 : decode cX9_areEnds 14 = .ok (.iload_n 1, 1) := dk_27_ (show cX9_areEnds.data.toList[14]? = some 0x1b from (LBX9_areEndsr_0 14).trans (by decide +kernel))
theorem dX9_areEnds_15 : decode cX9_areEnds 15 = .ok (.i2l, 1) := dk_133_ (show cX9_areEnds.data.toList[15]? = some 0x85 from (LBX9_areEndsr_0 15).trans (by decide +kernel))
theorem dX9_areEnds_16 : decode cX9_areEnds 16 = .ok (.iload_n 0, 1) := dk_26_ (show cX9_areEnds.data.toList[16]? = some 0x1a from (LBX9_areEndsr_1 0).trans (by decide +kernel))
theorem dX9_areEnds_17 : decode cX9_areEnds 17 = .ok (.i2l, 1) := dk_133_ (show cX9_areEnds.data.toList[17]? = some 0x85 from (LBX9_areEndsr_1 1).trans (by decide +kernel))
theorem dX9_areEnds_18 : decode cX9_areEnds 18 = .ok (.ldc2_w 67, 3) := dk_20_ (show cX9_areEnds.data.toList[18]? = some 0x14 from (LBX9_areEndsr_1 2).trans (by decide +kernel)) (show cX9_areEnds.data.toList[19]? = some 0x00 from (LBX9_areEndsr_1 3).trans (by decide +kernel)) (show cX9_areEnds.data.toList[20]? = some 0x43 from (LBX9_areEndsr_1 4).trans (by decide +kernel)) (by decide)
theorem dX9_areEnds_21 : decode cX9_areEnds 21 = .ok (.invokestatic 57, 3) := dk_184_ (show cX9_areEnds.data.toList[21]? = some 0xb8 from (LBX9_areEndsr_1 5).trans (by decide +kernel)) (show cX9_areEnds.data.toList[22]? = some 0x00 from (LBX9_areEndsr_1 6).trans (by decide +kernel)) (show cX9_areEnds.data.toList[23]? = some 0x39 from (LBX9_areEndsr_1 7).trans (by decide +kernel)) (by decide)
theorem dX9_areEnds_24 : decode cX9_areEnds 24 = .ok (.ifCond .eq 7, 3) := dk_153_ (show cX9_areEnds.data.toList[24]? = some 0x99 from (LBX9_areEndsr_1 8).trans (by decide +kernel)) (show cX9_areEnds.data.toList[25]? = some 0x00 from (LBX9_areEndsr_1 9).trans (by decide +kernel)) (show cX9_areEnds.data.toList[26]? = some 0x07 from (LBX9_areEndsr_1 10).trans (by decide +kernel)) (by decide)
theorem dX9_areEnds_27 : decode cX9_areEnds 27 = .ok (.iconst 1, 1) := dk_4_ (show cX9_areEnds.data.toList[27]? = some 0x04 from (LBX9_areEndsr_1 11).trans (by decide +kernel))
theorem dX9_areEnds_28 : decode cX9_areEnds 28 = .ok (.goto 4, 3) := dk_167_ (show cX9_areEnds.data.toList[28]? = some 0xa7 from (LBX9_areEndsr_1 12).trans (by decide +kernel)) (show cX9_areEnds.data.toList[29]? = some 0x00 from (LBX9_areEndsr_1 13).trans (by decide +kernel)) (show cX9_areEnds.data.toList[30]? = some 0x04 from (LBX9_areEndsr_1 14).trans (by decide +kernel)) (by decide)
theorem dX9_areEnds_31 : decode cX9_areEnds 31 = .ok (.iconst 0, 1) := dk_3_ (show cX9_areEnds.data.toList[31]? = some 0x03 from (LBX9_areEndsr_1 15).trans (by decide +kernel))
theorem dX9_areEnds_32 : decode cX9_areEnds 32 = .ok (.ireturn, 1) := dk_172_ (show cX9_areEnds.data.toList[32]? = some 0xac from (LBX9_areEndsr_2 0).trans (by decide +kernel))
def LRX9_areBoth_2 : List UInt8 := []
def LBX9_areBoth_1 : List UInt8 := [0x1b, 0xb6, 0x00, 0x61, 0x99, 0x00, 0x07, 0x04, 0xa7, 0x00, 0x04, 0x03, 0xac]
def LRX9_areBoth_1 : List UInt8 := LBX9_areBoth_1 ++ LRX9_areBoth_2
def LBX9_areBoth_0 : List UInt8 := [0x1b, 0x1c, 0x9f, 0x00, 0x19, 0x2a, 0x1b, 0x1c, 0xb6, 0x00, 0x61, 0x99, 0x00, 0x10, 0x2a, 0x1c]
def LRX9_areBoth_0 : List UInt8 := LBX9_areBoth_0 ++ LRX9_areBoth_1
set_option maxRecDepth 100000 in
theorem LBX9_areBoth_eq : cX9_areBoth.data.toList = LRX9_areBoth_0 := by decide +kernel
theorem LBX9_areBothr_0 (k : Nat) : cX9_areBoth.data.toList[0 + k]? = LRX9_areBoth_0[k]? := by rw [LBX9_areBoth_eq, Nat.zero_add]
theorem LBX9_areBothr_1 (k : Nat) : cX9_areBoth.data.toList[16 + k]? = LRX9_areBoth_1[k]? := by
  have h := LBX9_areBothr_0 (16 + k)
  rw [show 0 + (16 + k) = 16 + k by omega] at h
  rw [h]
  exact (List.getElem?_append_right (l₁ := LBX9_areBoth_0) (l₂ := LRX9_areBoth_1) (show 16 ≤ 16 + k by omega)).trans (congrArg (fun i => LRX9_areBoth_1[i]?) (show 16 + k - 16 = k by omega))
theorem dX9_areBoth_0 : decode cX9_areBoth 0 = .ok (.iload_n 1, 1) := dk_27_ (show cX9_areBoth.data.toList[0]? = some 0x1b from (LBX9_areBothr_0 0).trans (by decide +kernel))
theorem dX9_areBoth_1 : decode cX9_areBoth 1 = .ok (.iload_n 2, 1) := dk_28_ (show cX9_areBoth.data.toList[1]? = some 0x1c from (LBX9_areBothr_0 1).trans (by decide +kernel))
theorem dX9_areBoth_2 : decode cX9_areBoth 2 = .ok (.if_icmp .eq 25, 3) := dk_159_ (show cX9_areBoth.data.toList[2]? = some 0x9f from (LBX9_areBothr_0 2).trans (by decide +kernel)) (show cX9_areBoth.data.toList[3]? = some 0x00 from (LBX9_areBothr_0 3).trans (by decide +kernel)) (show cX9_areBoth.data.toList[4]? = some 0x19 from (LBX9_areBothr_0 4).trans (by decide +kernel)) (by decide)
theorem dX9_areBoth_5 : decode cX9_areBoth 5 = .ok (.aload_n 0, 1) := dk_42_ (show cX9_areBoth.data.toList[5]? = some 0x2a from (LBX9_areBothr_0 5).trans (by decide +kernel))
theorem dX9_areBoth_6 : decode cX9_areBoth 6 = .ok (.iload_n 1, 1) := dk_27_ (show cX9_areBoth.data.toList[6]? = some 0x1b from (LBX9_areBothr_0 6).trans (by decide +kernel))
theorem dX9_areBoth_7 : decode cX9_areBoth 7 = .ok (.iload_n 2, 1) := dk_28_ (show cX9_areBoth.data.toList[7]? = some 0x1c from (LBX9_areBothr_0 7).trans (by decide +kernel))
theorem dX9_areBoth_8 : decode cX9_areBoth 8 = .ok (.invokevirtual 97, 3) := dk_182_ (show cX9_areBoth.data.toList[8]? = some 0xb6 from (LBX9_areBothr_0 8).trans (by decide +kernel)) (show cX9_areBoth.data.toList[9]? = some 0x00 from (LBX9_areBothr_0 9).trans (by decide +kernel)) (show cX9_areBoth.data.toList[10]? = some 0x61 from (LBX9_areBothr_0 10).trans (by decide +kernel)) (by decide)
theorem dX9_areBoth_11 : decode cX9_areBoth 11 = .ok (.ifCond .eq 16, 3) := dk_153_ (show cX9_areBoth.data.toList[11]? = some 0x99 from (LBX9_areBothr_0 11).trans (by decide +kernel)) (show cX9_areBoth.data.toList[12]? = some 0x00 from (LBX9_areBothr_0 12).trans (by decide +kernel)) (show cX9_areBoth.data.toList[13]? = some 0x10 from (LBX9_areBothr_0 13).trans (by decide +kernel)) (by decide)
theorem dX9_areBoth_14 : decode cX9_areBoth 14 = .ok (.aload_n 0, 1) := dk_42_ (show cX9_areBoth.data.toList[14]? = some 0x2a from (LBX9_areBothr_0 14).trans (by decide +kernel))
theorem dX9_areBoth_15 : decode cX9_areBoth 15 = .ok (.iload_n 2, 1) := dk_28_ (show cX9_areBoth.data.toList[15]? = some 0x1c from (LBX9_areBothr_0 15).trans (by decide +kernel))
theorem dX9_areBoth_16 : decode cX9_areBoth 16 = .ok (.iload_n 1, 1) := dk_27_ (show cX9_areBoth.data.toList[16]? = some 0x1b from (LBX9_areBothr_1 0).trans (by decide +kernel))
theorem dX9_areBoth_17 : decode cX9_areBoth 17 = .ok (.invokevirtual 97, 3) := dk_182_ (show cX9_areBoth.data.toList[17]? = some 0xb6 from (LBX9_areBothr_1 1).trans (by decide +kernel)) (show cX9_areBoth.data.toList[18]? = some 0x00 from (LBX9_areBothr_1 2).trans (by decide +kernel)) (show cX9_areBoth.data.toList[19]? = some 0x61 from (LBX9_areBothr_1 3).trans (by decide +kernel)) (by decide)
theorem dX9_areBoth_20 : decode cX9_areBoth 20 = .ok (.ifCond .eq 7, 3) := dk_153_ (show cX9_areBoth.data.toList[20]? = some 0x99 from (LBX9_areBothr_1 4).trans (by decide +kernel)) (show cX9_areBoth.data.toList[21]? = some 0x00 from (LBX9_areBothr_1 5).trans (by decide +kernel)) (show cX9_areBoth.data.toList[22]? = some 0x07 from (LBX9_areBothr_1 6).trans (by decide +kernel)) (by decide)
theorem dX9_areBoth_23 : decode cX9_areBoth 23 = .ok (.iconst 1, 1) := dk_4_ (show cX9_areBoth.data.toList[23]? = some 0x04 from (LBX9_areBothr_1 7).trans (by decide +kernel))
theorem dX9_areBoth_24 : decode cX9_areBoth 24 = .ok (.goto 4, 3) := dk_167_ (show cX9_areBoth.data.toList[24]? = some 0xa7 from (LBX9_areBothr_1 8).trans (by decide +kernel)) (show cX9_areBoth.data.toList[25]? = some 0x00 from (LBX9_areBothr_1 9).trans (by decide +kernel)) (show cX9_areBoth.data.toList[26]? = some 0x04 from (LBX9_areBothr_1 10).trans (by decide +kernel)) (by decide)
theorem dX9_areBoth_27 : decode cX9_areBoth 27 = .ok (.iconst 0, 1) := dk_3_ (show cX9_areBoth.data.toList[27]? = some 0x03 from (LBX9_areBothr_1 11).trans (by decide +kernel))
theorem dX9_areBoth_28 : decode cX9_areBoth 28 = .ok (.ireturn, 1) := dk_172_ (show cX9_areBoth.data.toList[28]? = some 0xac from (LBX9_areBothr_1 12).trans (by decide +kernel))
theorem dX9_isTotal_0 : decode cX9_isTotal 0 = .ok (.iload_n 0, 1) := dk_26_ (show cX9_isTotal.data.toList[0]? = some 0x1a from by decide +kernel)
theorem dX9_isTotal_1 : decode cX9_isTotal 1 = .ok (.i2l, 1) := dk_133_ (show cX9_isTotal.data.toList[1]? = some 0x85 from by decide +kernel)
theorem dX9_isTotal_2 : decode cX9_isTotal 2 = .ok (.ldc2_w 189, 3) := dk_20_ (show cX9_isTotal.data.toList[2]? = some 0x14 from by decide +kernel) (show cX9_isTotal.data.toList[3]? = some 0x00 from by decide +kernel) (show cX9_isTotal.data.toList[4]? = some 0xbd from by decide +kernel) (by decide)
theorem dX9_isTotal_5 : decode cX9_isTotal 5 = .ok (.ldc2_w 191, 3) := dk_20_ (show cX9_isTotal.data.toList[5]? = some 0x14 from by decide +kernel) (show cX9_isTotal.data.toList[6]? = some 0x00 from by decide +kernel) (show cX9_isTotal.data.toList[7]? = some 0xbf from by decide +kernel) (by decide)
theorem dX9_isTotal_8 : decode cX9_isTotal 8 = .ok (.invokestatic 57, 3) := dk_184_ (show cX9_isTotal.data.toList[8]? = some 0xb8 from by decide +kernel) (show cX9_isTotal.data.toList[9]? = some 0x00 from by decide +kernel) (show cX9_isTotal.data.toList[10]? = some 0x39 from by decide +kernel) (by decide)
theorem dX9_isTotal_11 : decode cX9_isTotal 11 = .ok (.ireturn, 1) := dk_172_ (show cX9_isTotal.data.toList[11]? = some 0xac from by decide +kernel)
theorem dX9_isOne_0 : decode cX9_isOne 0 = .ok (.iload_n 0, 1) := dk_26_ (show cX9_isOne.data.toList[0]? = some 0x1a from by decide +kernel)
theorem dX9_isOne_1 : decode cX9_isOne 1 = .ok (.i2l, 1) := dk_133_ (show cX9_isOne.data.toList[1]? = some 0x85 from by decide +kernel)
theorem dX9_isOne_2 : decode cX9_isOne 2 = .ok (.lconst 0, 1) := dk_9_ (show cX9_isOne.data.toList[2]? = some 0x09 from by decide +kernel)
theorem dX9_isOne_3 : decode cX9_isOne 3 = .ok (.ldc2_w 303, 3) := dk_20_ (show cX9_isOne.data.toList[3]? = some 0x14 from by decide +kernel) (show cX9_isOne.data.toList[4]? = some 0x01 from by decide +kernel) (show cX9_isOne.data.toList[5]? = some 0x2f from by decide +kernel) (by decide)
theorem dX9_isOne_6 : decode cX9_isOne 6 = .ok (.invokestatic 57, 3) := dk_184_ (show cX9_isOne.data.toList[6]? = some 0xb8 from by decide +kernel) (show cX9_isOne.data.toList[7]? = some 0x00 from by decide +kernel) (show cX9_isOne.data.toList[8]? = some 0x39 from by decide +kernel) (by decide)
theorem dX9_isOne_9 : decode cX9_isOne 9 = .ok (.ireturn, 1) := dk_172_ (show cX9_isOne.data.toList[9]? = some 0xac from by decide +kernel)
theorem dX9_isLetter_0 : decode cX9_isLetter 0 = .ok (.iload_n 0, 1) := dk_26_ (show cX9_isLetter.data.toList[0]? = some 0x1a from by decide +kernel)
theorem dX9_isLetter_1 : decode cX9_isLetter 1 = .ok (.i2l, 1) := dk_133_ (show cX9_isLetter.data.toList[1]? = some 0x85 from by decide +kernel)
theorem dX9_isLetter_2 : decode cX9_isLetter 2 = .ok (.ldc2_w 243, 3) := dk_20_ (show cX9_isLetter.data.toList[2]? = some 0x14 from by decide +kernel) (show cX9_isLetter.data.toList[3]? = some 0x00 from by decide +kernel) (show cX9_isLetter.data.toList[4]? = some 0xf3 from by decide +kernel) (by decide)
theorem dX9_isLetter_5 : decode cX9_isLetter 5 = .ok (.ldc2_w 245, 3) := dk_20_ (show cX9_isLetter.data.toList[5]? = some 0x14 from by decide +kernel) (show cX9_isLetter.data.toList[6]? = some 0x00 from by decide +kernel) (show cX9_isLetter.data.toList[7]? = some 0xf5 from by decide +kernel) (by decide)
theorem dX9_isLetter_8 : decode cX9_isLetter 8 = .ok (.invokestatic 57, 3) := dk_184_ (show cX9_isLetter.data.toList[8]? = some 0xb8 from by decide +kernel) (show cX9_isLetter.data.toList[9]? = some 0x00 from by decide +kernel) (show cX9_isLetter.data.toList[10]? = some 0x39 from by decide +kernel) (by decide)
theorem dX9_isLetter_11 : decode cX9_isLetter 11 = .ok (.ireturn, 1) := dk_172_ (show cX9_isLetter.data.toList[11]? = some 0xac from by decide +kernel)
theorem dX9_isDigit_0 : decode cX9_isDigit 0 = .ok (.iload_n 0, 1) := dk_26_ (show cX9_isDigit.data.toList[0]? = some 0x1a from by decide +kernel)
theorem dX9_isDigit_1 : decode cX9_isDigit 1 = .ok (.i2l, 1) := dk_133_ (show cX9_isDigit.data.toList[1]? = some 0x85 from by decide +kernel)
theorem dX9_isDigit_2 : decode cX9_isDigit 2 = .ok (.ldc2_w 247, 3) := dk_20_ (show cX9_isDigit.data.toList[2]? = some 0x14 from by decide +kernel) (show cX9_isDigit.data.toList[3]? = some 0x00 from by decide +kernel) (show cX9_isDigit.data.toList[4]? = some 0xf7 from by decide +kernel) (by decide)
theorem dX9_isDigit_5 : decode cX9_isDigit 5 = .ok (.ldc2_w 249, 3) := dk_20_ (show cX9_isDigit.data.toList[5]? = some 0x14 from by decide +kernel) (show cX9_isDigit.data.toList[6]? = some 0x00 from by decide +kernel) (show cX9_isDigit.data.toList[7]? = some 0xf9 from by decide +kernel) (by decide)
theorem dX9_isDigit_8 : decode cX9_isDigit 8 = .ok (.invokestatic 57, 3) := dk_184_ (show cX9_isDigit.data.toList[8]? = some 0xb8 from by decide +kernel) (show cX9_isDigit.data.toList[9]? = some 0x00 from by decide +kernel) (show cX9_isDigit.data.toList[10]? = some 0x39 from by decide +kernel) (by decide)
theorem dX9_isDigit_11 : decode cX9_isDigit 11 = .ok (.ireturn, 1) := dk_172_ (show cX9_isDigit.data.toList[11]? = some 0xac from by decide +kernel)
theorem uw620 : Cond.fieldLink RX9 19 "LongerBackModel" "statuses" "[I" ∈ wsU := ut4 (List.mem_of_getElem? (i := 211) rfl) rfl
theorem uw621 : Cond.laysFinal RX9 "LongerBackModel" "s" "[I" ∈ wsU := ut4 (List.mem_of_getElem? (i := 235) rfl) rfl
theorem uw622 : Cond.laysFinal RX9 "LongerBackModel" "keptS" "[I" ∈ wsU := ut4 (List.mem_of_getElem? (i := 237) rfl) rfl
theorem uw623 : Cond.laysFinal RX9 "LongerBackModel" "other" "[I" ∈ wsU := ut4 (List.mem_of_getElem? (i := 239) rfl) rfl
theorem uw624 : Cond.laysFinal RX9 "LongerBackModel" "statuses" "[I" ∈ wsU := ut5 (List.mem_of_getElem? (i := 1) rfl) rfl
theorem uw625 : Cond.lays RX9 "LongerBackModel" "isKept" "Z" ∈ wsU := ut5 (List.mem_of_getElem? (i := 3) rfl) rfl
theorem uw626 : Cond.laysFinal RX9 "LongerBackModel" "far" "[I" ∈ wsU := ut5 (List.mem_of_getElem? (i := 5) rfl) rfl
theorem uw627 : Cond.laysFinal RX9 "LongerBackModel" "few" "[I" ∈ wsU := ut5 (List.mem_of_getElem? (i := 7) rfl) rfl
theorem uw628 : Cond.lays RX9 "LongerBackModel" "isLooped" "Z" ∈ wsU := ut5 (List.mem_of_getElem? (i := 9) rfl) rfl
theorem uw629 : Cond.lays RX9 "LongerBackModel" "sumOf" "I" ∈ wsU := ut5 (List.mem_of_getElem? (i := 11) rfl) rfl
theorem uw630 : Cond.lays RX9 "LongerBackModel" "least" "I" ∈ wsU := ut5 (List.mem_of_getElem? (i := 13) rfl) rfl
theorem uw631 : Cond.laysFinal RX9 "LongerBackModel" "row" "[I" ∈ wsU := ut5 (List.mem_of_getElem? (i := 15) rfl) rfl
theorem uw632 : Cond.laysFinal RX9 "LongerBackModel" "height" "[I" ∈ wsU := ut5 (List.mem_of_getElem? (i := 17) rfl) rfl
theorem uw633 : Cond.laysFinal RX9 "LongerBackModel" "group" "[I" ∈ wsU := ut5 (List.mem_of_getElem? (i := 19) rfl) rfl
theorem uw634 : Cond.lays RX9 "LongerBackModel" "isFit" "Z" ∈ wsU := ut5 (List.mem_of_getElem? (i := 21) rfl) rfl
theorem uw635 : Cond.lays RX9 "LongerBackModel" "changes" "Z" ∈ wsU := ut5 (List.mem_of_getElem? (i := 23) rfl) rfl
theorem uw636 : Cond.lays RX9 "LongerBackModel" "lying" "I" ∈ wsU := ut5 (List.mem_of_getElem? (i := 25) rfl) rfl
theorem uw637 : Cond.laysFinal RX9 "LongerBackModel" "tape" "[I" ∈ wsU := ut5 (List.mem_of_getElem? (i := 27) rfl) rfl
theorem uw638 : Cond.lays RX9 "LongerBackModel" "taped" "I" ∈ wsU := ut5 (List.mem_of_getElem? (i := 29) rfl) rfl
theorem uw639 : Cond.lays RX9 "LongerBackModel" "from" "I" ∈ wsU := ut5 (List.mem_of_getElem? (i := 31) rfl) rfl
theorem uw640 : Cond.lays RX9 "LongerBackModel" "to" "I" ∈ wsU := ut5 (List.mem_of_getElem? (i := 33) rfl) rfl
theorem uw641 : Cond.lays RX9 "LongerBackModel" "value" "I" ∈ wsU := ut5 (List.mem_of_getElem? (i := 35) rfl) rfl
theorem uw642 : Cond.lays RX9 "LongerBackModel" "isWrong" "Z" ∈ wsU := ut5 (List.mem_of_getElem? (i := 37) rfl) rfl
theorem uw643 : Cond.laysFinal RX9 "LongerBackModel" "walked" "[I" ∈ wsU := ut5 (List.mem_of_getElem? (i := 39) rfl) rfl
theorem uw644 : Cond.laysFinal RX9 "LongerBackModel" "bitsOf" "[I" ∈ wsU := ut5 (List.mem_of_getElem? (i := 41) rfl) rfl
theorem uw645 : Cond.laysFinal RX9 "LongerBackModel" "sizeOf" "[I" ∈ wsU := ut5 (List.mem_of_getElem? (i := 43) rfl) rfl
theorem uw646 : Cond.laysFinal RX9 "LongerBackModel" "number" "[J" ∈ wsU := ut5 (List.mem_of_getElem? (i := 45) rfl) rfl
theorem uw647 : Cond.laysFinal RX9 "LongerBackModel" "moved" "[J" ∈ wsU := ut5 (List.mem_of_getElem? (i := 47) rfl) rfl
theorem uw648 : Cond.constant RX9 56 (-1000000001) ∈ wsU := ut5 (List.mem_of_getElem? (i := 59) rfl) rfl
theorem uw649 : Cond.fieldLink RX9 7 "LongerBackModel" "s" "[I" ∈ wsU := ut4 (List.mem_of_getElem? (i := 208) rfl) rfl
theorem uw650 : Cond.methodLink RX9 57 yX9_in ∈ wsU := ut5 (List.mem_of_getElem? (i := 72) rfl) rfl
theorem uw651 : Cond.static yX9_in ∈ wsU := ut5 (List.mem_of_getElem? (i := 73) rfl) rfl
theorem uw652 : Cond.initialized yX9_in.cls ∈ wsU := ut1 (List.mem_of_getElem? (i := 10) rfl) rfl
theorem uw653 : Cond.code yX9_in cX9_in 6 (some .boolean) ∈ wsU := ut5 (List.mem_of_getElem? (i := 74) rfl) rfl
theorem uw654 : Cond.methodLink RX9 61 yX9_isPlace ∈ wsU := ut5 (List.mem_of_getElem? (i := 68) rfl) rfl
theorem uw655 : Cond.instanceMethod yX9_isPlace ∈ wsU := ut5 (List.mem_of_getElem? (i := 70) rfl) rfl
theorem uw656 : Cond.selects RX9 yX9_isPlace yX9_isPlace ∈ wsU := us_sel (q := (yX9_isPlace, 27)) (List.mem_of_getElem? (i := 31) (by decide +kernel)) rfl
theorem uw657 : Cond.initialized RX9 ∈ wsU := ut1 (List.mem_of_getElem? (i := 10) rfl) rfl
theorem uw658 : Cond.code yX9_isPlace cX9_isPlace 2 (some .boolean) ∈ wsU := ut5 (List.mem_of_getElem? (i := 71) rfl) rfl
theorem uw659 : Cond.constantLong RX9 65 (-99) ∈ wsU := ut5 (List.mem_of_getElem? (i := 87) rfl) rfl
theorem uw660 : Cond.constantLong RX9 67 999 ∈ wsU := ut5 (List.mem_of_getElem? (i := 88) rfl) rfl
theorem uw661 : Cond.methodLink RX9 97 yX9_isOpen ∈ wsU := ut5 (List.mem_of_getElem? (i := 115) rfl) rfl
theorem uw662 : Cond.instanceMethod yX9_isOpen ∈ wsU := ut5 (List.mem_of_getElem? (i := 117) rfl) rfl
theorem uw663 : Cond.selects RX9 yX9_isOpen yX9_isOpen ∈ wsU := us_sel (q := (yX9_isOpen, 27)) (List.mem_of_getElem? (i := 36) (by decide +kernel)) rfl
theorem uw664 : Cond.code yX9_isOpen cX9_isOpen 3 (some .boolean) ∈ wsU := ut5 (List.mem_of_getElem? (i := 118) rfl) rfl
theorem uw665 : Cond.constantLong RX9 189 (-9999) ∈ wsU := ut6 (List.mem_of_getElem? (i := 26) rfl) rfl
theorem uw666 : Cond.constantLong RX9 191 9999 ∈ wsU := ut6 (List.mem_of_getElem? (i := 27) rfl) rfl
theorem uw667 : Cond.constantLong RX9 303 3 ∈ wsU := ut6 (List.mem_of_getElem? (i := 183) rfl) rfl
theorem uw668 : Cond.constantLong RX9 243 97 ∈ wsU := ut6 (List.mem_of_getElem? (i := 133) rfl) rfl
theorem uw669 : Cond.constantLong RX9 245 122 ∈ wsU := ut6 (List.mem_of_getElem? (i := 134) rfl) rfl
theorem uw670 : Cond.constantLong RX9 247 48 ∈ wsU := ut6 (List.mem_of_getElem? (i := 138) rfl) rfl
theorem uw671 : Cond.constantLong RX9 249 57 ∈ wsU := ut6 (List.mem_of_getElem? (i := 139) rfl) rfl
theorem inUX9 : ∀ w ∈ u_ws RX9 TX9 27, w ∈ wsU := List.forall_mem_cons.mpr ⟨uw621, List.forall_mem_cons.mpr ⟨uw622, List.forall_mem_cons.mpr ⟨uw623, List.forall_mem_cons.mpr ⟨uw624, List.forall_mem_cons.mpr ⟨uw625, List.forall_mem_cons.mpr ⟨uw626, List.forall_mem_cons.mpr ⟨uw627, List.forall_mem_cons.mpr ⟨uw628, List.forall_mem_cons.mpr ⟨uw629, List.forall_mem_cons.mpr ⟨uw630, List.forall_mem_cons.mpr ⟨uw631, List.forall_mem_cons.mpr ⟨uw632, List.forall_mem_cons.mpr ⟨uw633, List.forall_mem_cons.mpr ⟨uw634, List.forall_mem_cons.mpr ⟨uw635, List.forall_mem_cons.mpr ⟨uw636, List.forall_mem_cons.mpr ⟨uw637, List.forall_mem_cons.mpr ⟨uw638, List.forall_mem_cons.mpr ⟨uw639, List.forall_mem_cons.mpr ⟨uw640, List.forall_mem_cons.mpr ⟨uw641, List.forall_mem_cons.mpr ⟨uw642, List.forall_mem_cons.mpr ⟨uw643, List.forall_mem_cons.mpr ⟨uw644, List.forall_mem_cons.mpr ⟨uw645, List.forall_mem_cons.mpr ⟨uw646, List.forall_mem_cons.mpr ⟨uw647, fun _ h => absurd h List.not_mem_nil⟩⟩⟩⟩⟩⟩⟩⟩⟩⟩⟩⟩⟩⟩⟩⟩⟩⟩⟩⟩⟩⟩⟩⟩⟩⟩⟩
theorem kf_X9_19 : xWF RX9 19 9 3 RX9 TX9 27 := ⟨inUX9, rfl, by decide, uw620⟩
theorem kf_X9_7 : xWF RX9 7 9 0 RX9 TX9 27 := ⟨inUX9, rfl, by decide, uw649⟩
theorem ks_X9_57 : xWS RX9 57 yX9_in cX9_in 6 (some .boolean) 3 := ⟨⟨uw650, uw651, uw652, uw653⟩, by decide +kernel⟩
theorem kv_X9_61 : xWV RX9 61 RX9 yX9_isPlace cX9_isPlace 2 (some .boolean) 1 := ⟨⟨uw654, uw655, uw656, uw657, uw658⟩, by decide +kernel⟩
theorem kv_X9_97 : xWV RX9 97 RX9 yX9_isOpen cX9_isOpen 3 (some .boolean) 2 := ⟨⟨uw661, uw662, uw663, uw657, uw664⟩, by decide +kernel⟩
set_option maxHeartbeats 4000000 in
set_option maxRecDepth 100000 in
theorem c_X9_inL (l : Launch) (D : va_G) (cI cJ cZ cS : ClassId) (ta : Nat) (sa sv : Nat → Nat) (sz : Nat) (p0 : Int64) (p1 : Int32) (p2 : Int32) : Met l yX9_in (Cond.code yX9_in cX9_in 6 (some .boolean) :: wsU) ({ frames := 0, cells := 0, slots := 0, locals := 0 }) (va_Pc [.long p0, .long p1.toInt64, .long p2.toInt64] (XW D (xT cI cJ cZ cS) ta sa sv [] sz)) (vp_Si (fun r : Int32 => (r = 1 ∧ (¬ p0 < p1.toInt64) ∧ (¬ p2.toInt64 < p0)) ∨ (r = 0 ∧ (p0 < p1.toInt64 ∨ p2.toInt64 < p0)))) 0 0 (fun _ => False) := by
  refine xh (QA := fun _ => vp_Si (fun r : Int32 => (r = 1 ∧ (¬ p0 < p1.toInt64) ∧ (¬ p2.toInt64 < p0)) ∨ (r = 0 ∧ (p0 < p1.toInt64 ∨ p2.toInt64 < p0)))) (fr := fun _ _ => False) (by decide) (Nat.le_of_ble_eq_true rfl) ?_
  intro p e s m below meth c ls A hF hr hlk hin hsz hP hK hD hN hZ hA hS hl
  have hF : CallFix p m c cX9_in 6 s _ _ RX9 := hF
  have hx := hF.1
  have hb := hF.2.1
  have hml := hF.2.2.1
  have hown := hF.2.2.2.1
  have hu : ∀ w ∈ wsU, w.before _ s = true := fun w h => hF.2.2.2.2 w (List.mem_cons_of_mem _ h)
  have hl : lv_has ls 6 [(0, .long p0), (2, .long p1.toInt64), (4, .long p2.toInt64)] := hl
  refine lv_lload_n hx hb dX9_in_0 rfl (lv_at hl 0 rfl) ?_
  refine lv_lload_n hx hb dX9_in_1 rfl (lv_at hl 1 rfl) ?_
  refine W.lcmp hx hb dX9_in_2 ?_
  refine lv_if_lt (tgt := 17) hx hb dX9_in_3 (by decide) (fun c_1 => ?_) (fun c_1 => ?_)
  · skip
    refine lv_iconst (v := 0) hx hb dX9_in_17 (by decide) ?_
    exact W.zret (v := 0) hx hb hr rfl (fun t ht hW => ⟨0, rfl, Or.inr ⟨rfl, Or.inl ((xq_lt _ _).mp c_1)⟩, ht⟩) (fun q h => by cases h) dX9_in_18 hlk
  · skip
    refine lv_lload_n hx hb dX9_in_6 rfl (lv_at hl 0 rfl) ?_
    refine lv_lload hx hb dX9_in_7 (lv_at hl 2 rfl) ?_
    refine W.lcmp hx hb dX9_in_9 ?_
    refine lv_if_gt (tgt := 17) hx hb dX9_in_10 (by decide) (fun c_2 => ?_) (fun c_2 => ?_)
    · skip
      refine lv_iconst (v := 0) hx hb dX9_in_17 (by decide) ?_
      exact W.zret (v := 0) hx hb hr rfl (fun t ht hW => ⟨0, rfl, Or.inr ⟨rfl, Or.inr ((xq_gt _ _).mp c_2)⟩, ht⟩) (fun q h => by cases h) dX9_in_18 hlk
    · skip
      refine lv_iconst (v := 1) hx hb dX9_in_13 (by decide) ?_
      refine lv_goto (tgt := 18) hx hb dX9_in_14 (by decide) ?_
      exact W.zret (v := 1) hx hb hr rfl (fun t ht hW => ⟨1, rfl, Or.inl ⟨rfl, fun h => c_1 ((xq_lt _ _).mpr h), fun h => c_2 ((xq_gt _ _).mpr h)⟩, ht⟩) (fun q h => by cases h) dX9_in_18 hlk
set_option maxHeartbeats 4000000 in
set_option maxRecDepth 100000 in
theorem c_X9_in (l : Launch) (D : va_G) (cI cJ cZ cS : ClassId) (ta : Nat) (sa sv : Nat → Nat) (sz : Nat) (p0 : Int32) (p1 : Int32) (p2 : Int32) : Met l yX9_in (Cond.code yX9_in cX9_in 6 (some .boolean) :: wsU) ({ frames := 0, cells := 0, slots := 0, locals := 0 }) (va_Pc [.long p0.toInt64, .long p1.toInt64, .long p2.toInt64] (XW D (xT cI cJ cZ cS) ta sa sv [] sz)) (vp_Si (fun r : Int32 => (r = 1 ∧ (¬ p0 < p1) ∧ (¬ p2 < p0)) ∨ (r = 0 ∧ (p0 < p1 ∨ p2 < p0)))) 0 0 (fun _ => False) := by
  refine xh (QA := fun _ => vp_Si (fun r : Int32 => (r = 1 ∧ (¬ p0 < p1) ∧ (¬ p2 < p0)) ∨ (r = 0 ∧ (p0 < p1 ∨ p2 < p0)))) (fr := fun _ _ => False) (by decide) (Nat.le_of_ble_eq_true rfl) ?_
  intro p e s m below meth c ls A hF hr hlk hin hsz hP hK hD hN hZ hA hS hl
  have hF : CallFix p m c cX9_in 6 s _ _ RX9 := hF
  have hx := hF.1
  have hb := hF.2.1
  have hml := hF.2.2.1
  have hown := hF.2.2.2.1
  have hu : ∀ w ∈ wsU, w.before _ s = true := fun w h => hF.2.2.2.2 w (List.mem_cons_of_mem _ h)
  have hl : lv_has ls 6 [(0, .long p0.toInt64), (2, .long p1.toInt64), (4, .long p2.toInt64)] := hl
  refine lv_lload_n hx hb dX9_in_0 rfl (lv_at hl 0 rfl) ?_
  refine lv_lload_n hx hb dX9_in_1 rfl (lv_at hl 1 rfl) ?_
  refine W.lcmp hx hb dX9_in_2 ?_
  refine lv_if_lt (tgt := 17) hx hb dX9_in_3 (by decide) (fun c_1 => ?_) (fun c_1 => ?_)
  · skip
    refine lv_iconst (v := 0) hx hb dX9_in_17 (by decide) ?_
    exact W.zret (v := 0) hx hb hr rfl (fun t ht hW => ⟨0, rfl, Or.inr ⟨rfl, Or.inl (xq1.mp c_1)⟩, ht⟩) (fun q h => by cases h) dX9_in_18 hlk
  · skip
    refine lv_lload_n hx hb dX9_in_6 rfl (lv_at hl 0 rfl) ?_
    refine lv_lload hx hb dX9_in_7 (lv_at hl 2 rfl) ?_
    refine W.lcmp hx hb dX9_in_9 ?_
    refine lv_if_gt (tgt := 17) hx hb dX9_in_10 (by decide) (fun c_2 => ?_) (fun c_2 => ?_)
    · skip
      refine lv_iconst (v := 0) hx hb dX9_in_17 (by decide) ?_
      exact W.zret (v := 0) hx hb hr rfl (fun t ht hW => ⟨0, rfl, Or.inr ⟨rfl, Or.inr (xq2.mp c_2)⟩, ht⟩) (fun q h => by cases h) dX9_in_18 hlk
    · skip
      refine lv_iconst (v := 1) hx hb dX9_in_13 (by decide) ?_
      refine lv_goto (tgt := 18) hx hb dX9_in_14 (by decide) ?_
      exact W.zret (v := 1) hx hb hr rfl (fun t ht hW => ⟨1, rfl, Or.inl ⟨rfl, fun h => c_1 (xq1.mpr h), fun h => c_2 (xq2.mpr h)⟩, ht⟩) (fun q h => by cases h) dX9_in_18 hlk
set_option maxHeartbeats 4000000 in
set_option maxRecDepth 100000 in
theorem c_X9_finds_B (l : Launch) (D : va_G) (cI cJ cZ cS : ClassId) (ta : Nat) (sa sv : Nat → Nat) (sz : Nat) (h0 : Nat) (ys : Nat) (yk : Nat) (yo : Nat) (yt : Nat) (mk0 : Int32) (yfa : Nat) (yfe : Nat) (mL : Int32) (mS : Int32) (mM : Int32) (yro : Nat) (yhe : Nat) (ygr : Nat) (mF : Int32) (mC : Int32) (mY : Int32) (yta : Nat) (mz : Nat) (mf : Nat) (mt : Nat) (mv : Int32) (mw : Int32) (ywa : Nat) (ybi : Nat) (ysi : Nat) (ynu : Nat) (ymo : Nat) (mq : Nat → Int32) : Met l yX9_finds (Cond.code yX9_finds cX9_finds 2 (some .int) :: wsU) ({ frames := 0, cells := 0, slots := 0, locals := 0 }) (va_Pc [.ref h0, .int (-1000000001)] (XW D (xT cI cJ cZ cS) ta sa sv [(h0, .inr (9, [.ref ys, .ref yk, .ref yo, .ref yt, .int mk0, .ref yfa, .ref yfe, .int mL, .int mS, .int mM, .ref yro, .ref yhe, .ref ygr, .int mF, .int mC, .int mY, .ref yta, .int (nI (mz)), .int (nI (mf)), .int (nI (mt)), .int mv, .int mw, .ref ywa, .ref ybi, .ref ysi, .ref ynu, .ref ymo])), (yt, .inl (cI, 7, .inl mq))] sz)) (XQi (fun (r : Int32) (mq2 : (Nat → Int32)) => ((r = (-1000000001)))) D (fun (mq2 : Nat → Int32) => [(h0, .inr (9, [.ref ys, .ref yk, .ref yo, .ref yt, .int mk0, .ref yfa, .ref yfe, .int mL, .int mS, .int mM, .ref yro, .ref yhe, .ref ygr, .int mF, .int mC, .int mY, .ref yta, .int (nI (mz)), .int (nI (mf)), .int (nI (mt)), .int mv, .int mw, .ref ywa, .ref ybi, .ref ysi, .ref ynu, .ref ymo])), (yt, .inl (cI, 7, .inl mq2))]) (va_A [(h0, .inr (9, [.ref ys, .ref yk, .ref yo, .ref yt, .int mk0, .ref yfa, .ref yfe, .int mL, .int mS, .int mM, .ref yro, .ref yhe, .ref ygr, .int mF, .int mC, .int mY, .ref yta, .int (nI (mz)), .int (nI (mf)), .int (nI (mt)), .int mv, .int mw, .ref ywa, .ref ybi, .ref ysi, .ref ynu, .ref ymo])), (yt, .inl (cI, 7, .inl mq))] sz)) 0 0 (va_A [(h0, .inr (9, [.ref ys, .ref yk, .ref yo, .ref yt, .int mk0, .ref yfa, .ref yfe, .int mL, .int mS, .int mM, .ref yro, .ref yhe, .ref ygr, .int mF, .int mC, .int mY, .ref yta, .int (nI (mz)), .int (nI (mf)), .int (nI (mt)), .int mv, .int mw, .ref ywa, .ref ybi, .ref ysi, .ref ynu, .ref ymo])), (yt, .inl (cI, 7, .inl mq))] sz) := by
  refine xh (QA := fun A => XQi (fun (r : Int32) (mq2 : (Nat → Int32)) => ((r = (-1000000001)))) D (fun (mq2 : Nat → Int32) => [(h0, .inr (9, [.ref ys, .ref yk, .ref yo, .ref yt, .int mk0, .ref yfa, .ref yfe, .int mL, .int mS, .int mM, .ref yro, .ref yhe, .ref ygr, .int mF, .int mC, .int mY, .ref yta, .int (nI (mz)), .int (nI (mf)), .int (nI (mt)), .int mv, .int mw, .ref ywa, .ref ybi, .ref ysi, .ref ynu, .ref ymo])), (yt, .inl (cI, 7, .inl mq2))]) A) (fr := fun A => A) (by decide) (Nat.le_of_ble_eq_true rfl) ?_
  intro p e s m below meth c ls A hF hr hlk hin hsz hP hK hD hN hZ hA hS hl
  have hF : CallFix p m c cX9_finds 2 s _ _ RX9 := hF
  have hx := hF.1
  have hb := hF.2.1
  have hml := hF.2.2.1
  have hown := hF.2.2.2.1
  have hu : ∀ w ∈ wsU, w.before _ s = true := fun w h => hF.2.2.2.2 w (List.mem_cons_of_mem _ h)
  have hl : lv_has ls 2 [(0, .ref h0), (1, .int (-1000000001))] := hl
  refine lv_aload_n hx hb dX9_finds_0 rfl (lv_at hl 0 rfl) ?_
  refine xg hF kf_X9_19 hK hP 0 rfl rfl dX9_finds_1 ?_
  refine lv_ldc (v := (-1000000001)) hx hb hown (hu _ uw648) dX9_finds_4 ?_
  refine lv_iload_n hx hb dX9_finds_6 rfl (lv_at hl 1 rfl) ?_
  refine lv_isub hx hb dX9_finds_7 ?_
  refine xl_i (y := 0) (by decide) ?_
  refine lv_dup2_11 hx hb dX9_finds_8 rfl rfl ?_
  refine va_iald hx hb hK hP 1 0 rfl rfl (xin 0 7 (by decide) (by decide)) dX9_finds_9 ?_
  refine xl_i (y := mq 0) (congrArg mq rfl) ?_
  refine lv_iconst (v := 1) hx hb dX9_finds_10 (by decide) ?_
  refine lv_iadd hx hb dX9_finds_11 ?_
  refine lv_topi (fun x_1 ex_1 => ?_)
  refine va_iast hx hb hK hP hD hS 1 0 rfl rfl (xin 0 7 (by decide) (by decide)) dX9_finds_12 (fun H locs hP hD hS => ?_)
  obtain ⟨f_2, ef_2⟩ : ∃ g, g = upd mq 0 x_1 := ⟨_, rfl⟩
  have hP : va_P D vwCl [(h0, .inr (9, [.ref ys, .ref yk, .ref yo, .ref yt, .int mk0, .ref yfa, .ref yfe, .int mL, .int mS, .int mM, .ref yro, .ref yhe, .ref ygr, .int mF, .int mC, .int mY, .ref yta, .int (nI (mz)), .int (nI (mf)), .int (nI (mt)), .int mv, .int mw, .ref ywa, .ref ybi, .ref ysi, .ref ynu, .ref ymo])), (yt, .inl (cI, 7, .inl (upd mq 0 x_1)))] H := hP
  have hD : va_D A [(h0, .inr (9, [.ref ys, .ref yk, .ref yo, .ref yt, .int mk0, .ref yfa, .ref yfe, .int mL, .int mS, .int mM, .ref yro, .ref yhe, .ref ygr, .int mF, .int mC, .int mY, .ref yta, .int (nI (mz)), .int (nI (mf)), .int (nI (mt)), .int mv, .int mw, .ref ywa, .ref ybi, .ref ysi, .ref ynu, .ref ymo])), (yt, .inl (cI, 7, .inl (upd mq 0 x_1)))] := hD
  rw [← ef_2] at hP hD
  have hP : va_P D vwCl [(h0, .inr (9, [.ref ys, .ref yk, .ref yo, .ref yt, .int mk0, .ref yfa, .ref yfe, .int mL, .int mS, .int mM, .ref yro, .ref yhe, .ref ygr, .int mF, .int mC, .int mY, .ref yta, .int (nI (mz)), .int (nI (mf)), .int (nI (mt)), .int mv, .int mw, .ref ywa, .ref ybi, .ref ysi, .ref ynu, .ref ymo])), (yt, .inl (cI, 7, .inl f_2))] H := hP
  have hD : va_D A [(h0, .inr (9, [.ref ys, .ref yk, .ref yo, .ref yt, .int mk0, .ref yfa, .ref yfe, .int mL, .int mS, .int mM, .ref yro, .ref yhe, .ref ygr, .int mF, .int mC, .int mY, .ref yta, .int (nI (mz)), .int (nI (mf)), .int (nI (mt)), .int mv, .int mw, .ref ywa, .ref ybi, .ref ysi, .ref ynu, .ref ymo])), (yt, .inl (cI, 7, .inl f_2))] := hD
  refine lv_iload_n hx hb dX9_finds_13 rfl (lv_at hl 1 rfl) ?_
  exact W.iret (v := (-1000000001)) hx hb hr (fun t ht hW => ⟨⟨(-1000000001), f_2, rfl, (by first | exact rfl), by rw [ht]; exact hP.sub [0, 1] rfl, hD.sub [0, 1] (by decide) rfl⟩, hS.F ht⟩) hS.2.2 dX9_finds_14 hlk
set_option maxHeartbeats 4000000 in
set_option maxRecDepth 100000 in
theorem c_X9_finds_F (l : Launch) (D : va_G) (cI cJ cZ cS : ClassId) (ta : Nat) (sa sv : Nat → Nat) (sz : Nat) (h0 : Nat) (ys : Nat) (yk : Nat) (yo : Nat) (yt : Nat) (mk0 : Int32) (yfa : Nat) (yfe : Nat) (mL : Int32) (mS : Int32) (mM : Int32) (yro : Nat) (yhe : Nat) (ygr : Nat) (mF : Int32) (mC : Int32) (mY : Int32) (yta : Nat) (mz : Nat) (mf : Nat) (mt : Nat) (mv : Int32) (mw : Int32) (ywa : Nat) (ybi : Nat) (ysi : Nat) (ynu : Nat) (ymo : Nat) (mq : Nat → Int32) : Met l yX9_finds (Cond.code yX9_finds cX9_finds 2 (some .int) :: wsU) ({ frames := 0, cells := 0, slots := 0, locals := 0 }) (va_Pc [.ref h0, .int (-1000000002)] (XW D (xT cI cJ cZ cS) ta sa sv [(h0, .inr (9, [.ref ys, .ref yk, .ref yo, .ref yt, .int mk0, .ref yfa, .ref yfe, .int mL, .int mS, .int mM, .ref yro, .ref yhe, .ref ygr, .int mF, .int mC, .int mY, .ref yta, .int (nI (mz)), .int (nI (mf)), .int (nI (mt)), .int mv, .int mw, .ref ywa, .ref ybi, .ref ysi, .ref ynu, .ref ymo])), (yt, .inl (cI, 7, .inl mq))] sz)) (XQi (fun (r : Int32) (mq2 : (Nat → Int32)) => ((r = (-1000000002)))) D (fun (mq2 : Nat → Int32) => [(h0, .inr (9, [.ref ys, .ref yk, .ref yo, .ref yt, .int mk0, .ref yfa, .ref yfe, .int mL, .int mS, .int mM, .ref yro, .ref yhe, .ref ygr, .int mF, .int mC, .int mY, .ref yta, .int (nI (mz)), .int (nI (mf)), .int (nI (mt)), .int mv, .int mw, .ref ywa, .ref ybi, .ref ysi, .ref ynu, .ref ymo])), (yt, .inl (cI, 7, .inl mq2))]) (va_A [(h0, .inr (9, [.ref ys, .ref yk, .ref yo, .ref yt, .int mk0, .ref yfa, .ref yfe, .int mL, .int mS, .int mM, .ref yro, .ref yhe, .ref ygr, .int mF, .int mC, .int mY, .ref yta, .int (nI (mz)), .int (nI (mf)), .int (nI (mt)), .int mv, .int mw, .ref ywa, .ref ybi, .ref ysi, .ref ynu, .ref ymo])), (yt, .inl (cI, 7, .inl mq))] sz)) 0 0 (va_A [(h0, .inr (9, [.ref ys, .ref yk, .ref yo, .ref yt, .int mk0, .ref yfa, .ref yfe, .int mL, .int mS, .int mM, .ref yro, .ref yhe, .ref ygr, .int mF, .int mC, .int mY, .ref yta, .int (nI (mz)), .int (nI (mf)), .int (nI (mt)), .int mv, .int mw, .ref ywa, .ref ybi, .ref ysi, .ref ynu, .ref ymo])), (yt, .inl (cI, 7, .inl mq))] sz) := by
  refine xh (QA := fun A => XQi (fun (r : Int32) (mq2 : (Nat → Int32)) => ((r = (-1000000002)))) D (fun (mq2 : Nat → Int32) => [(h0, .inr (9, [.ref ys, .ref yk, .ref yo, .ref yt, .int mk0, .ref yfa, .ref yfe, .int mL, .int mS, .int mM, .ref yro, .ref yhe, .ref ygr, .int mF, .int mC, .int mY, .ref yta, .int (nI (mz)), .int (nI (mf)), .int (nI (mt)), .int mv, .int mw, .ref ywa, .ref ybi, .ref ysi, .ref ynu, .ref ymo])), (yt, .inl (cI, 7, .inl mq2))]) A) (fr := fun A => A) (by decide) (Nat.le_of_ble_eq_true rfl) ?_
  intro p e s m below meth c ls A hF hr hlk hin hsz hP hK hD hN hZ hA hS hl
  have hF : CallFix p m c cX9_finds 2 s _ _ RX9 := hF
  have hx := hF.1
  have hb := hF.2.1
  have hml := hF.2.2.1
  have hown := hF.2.2.2.1
  have hu : ∀ w ∈ wsU, w.before _ s = true := fun w h => hF.2.2.2.2 w (List.mem_cons_of_mem _ h)
  have hl : lv_has ls 2 [(0, .ref h0), (1, .int (-1000000002))] := hl
  refine lv_aload_n hx hb dX9_finds_0 rfl (lv_at hl 0 rfl) ?_
  refine xg hF kf_X9_19 hK hP 0 rfl rfl dX9_finds_1 ?_
  refine lv_ldc (v := (-1000000001)) hx hb hown (hu _ uw648) dX9_finds_4 ?_
  refine lv_iload_n hx hb dX9_finds_6 rfl (lv_at hl 1 rfl) ?_
  refine lv_isub hx hb dX9_finds_7 ?_
  refine xl_i (y := 1) (by decide) ?_
  refine lv_dup2_11 hx hb dX9_finds_8 rfl rfl ?_
  refine va_iald hx hb hK hP 1 0 rfl rfl (xin 1 7 (by decide) (by decide)) dX9_finds_9 ?_
  refine xl_i (y := mq 1) (congrArg mq rfl) ?_
  refine lv_iconst (v := 1) hx hb dX9_finds_10 (by decide) ?_
  refine lv_iadd hx hb dX9_finds_11 ?_
  refine lv_topi (fun x_1 ex_1 => ?_)
  refine va_iast hx hb hK hP hD hS 1 0 rfl rfl (xin 1 7 (by decide) (by decide)) dX9_finds_12 (fun H locs hP hD hS => ?_)
  obtain ⟨f_2, ef_2⟩ : ∃ g, g = upd mq 1 x_1 := ⟨_, rfl⟩
  have hP : va_P D vwCl [(h0, .inr (9, [.ref ys, .ref yk, .ref yo, .ref yt, .int mk0, .ref yfa, .ref yfe, .int mL, .int mS, .int mM, .ref yro, .ref yhe, .ref ygr, .int mF, .int mC, .int mY, .ref yta, .int (nI (mz)), .int (nI (mf)), .int (nI (mt)), .int mv, .int mw, .ref ywa, .ref ybi, .ref ysi, .ref ynu, .ref ymo])), (yt, .inl (cI, 7, .inl (upd mq 1 x_1)))] H := hP
  have hD : va_D A [(h0, .inr (9, [.ref ys, .ref yk, .ref yo, .ref yt, .int mk0, .ref yfa, .ref yfe, .int mL, .int mS, .int mM, .ref yro, .ref yhe, .ref ygr, .int mF, .int mC, .int mY, .ref yta, .int (nI (mz)), .int (nI (mf)), .int (nI (mt)), .int mv, .int mw, .ref ywa, .ref ybi, .ref ysi, .ref ynu, .ref ymo])), (yt, .inl (cI, 7, .inl (upd mq 1 x_1)))] := hD
  rw [← ef_2] at hP hD
  have hP : va_P D vwCl [(h0, .inr (9, [.ref ys, .ref yk, .ref yo, .ref yt, .int mk0, .ref yfa, .ref yfe, .int mL, .int mS, .int mM, .ref yro, .ref yhe, .ref ygr, .int mF, .int mC, .int mY, .ref yta, .int (nI (mz)), .int (nI (mf)), .int (nI (mt)), .int mv, .int mw, .ref ywa, .ref ybi, .ref ysi, .ref ynu, .ref ymo])), (yt, .inl (cI, 7, .inl f_2))] H := hP
  have hD : va_D A [(h0, .inr (9, [.ref ys, .ref yk, .ref yo, .ref yt, .int mk0, .ref yfa, .ref yfe, .int mL, .int mS, .int mM, .ref yro, .ref yhe, .ref ygr, .int mF, .int mC, .int mY, .ref yta, .int (nI (mz)), .int (nI (mf)), .int (nI (mt)), .int mv, .int mw, .ref ywa, .ref ybi, .ref ysi, .ref ynu, .ref ymo])), (yt, .inl (cI, 7, .inl f_2))] := hD
  refine lv_iload_n hx hb dX9_finds_13 rfl (lv_at hl 1 rfl) ?_
  exact W.iret (v := (-1000000002)) hx hb hr (fun t ht hW => ⟨⟨(-1000000002), f_2, rfl, (by first | exact rfl), by rw [ht]; exact hP.sub [0, 1] rfl, hD.sub [0, 1] (by decide) rfl⟩, hS.F ht⟩) hS.2.2 dX9_finds_14 hlk
set_option maxHeartbeats 4000000 in
set_option maxRecDepth 100000 in
theorem c_X9_finds_K (l : Launch) (D : va_G) (cI cJ cZ cS : ClassId) (ta : Nat) (sa sv : Nat → Nat) (sz : Nat) (h0 : Nat) (ys : Nat) (yk : Nat) (yo : Nat) (yt : Nat) (mk0 : Int32) (yfa : Nat) (yfe : Nat) (mL : Int32) (mS : Int32) (mM : Int32) (yro : Nat) (yhe : Nat) (ygr : Nat) (mF : Int32) (mC : Int32) (mY : Int32) (yta : Nat) (mz : Nat) (mf : Nat) (mt : Nat) (mv : Int32) (mw : Int32) (ywa : Nat) (ybi : Nat) (ysi : Nat) (ynu : Nat) (ymo : Nat) (mq : Nat → Int32) : Met l yX9_finds (Cond.code yX9_finds cX9_finds 2 (some .int) :: wsU) ({ frames := 0, cells := 0, slots := 0, locals := 0 }) (va_Pc [.ref h0, .int (-1000000003)] (XW D (xT cI cJ cZ cS) ta sa sv [(h0, .inr (9, [.ref ys, .ref yk, .ref yo, .ref yt, .int mk0, .ref yfa, .ref yfe, .int mL, .int mS, .int mM, .ref yro, .ref yhe, .ref ygr, .int mF, .int mC, .int mY, .ref yta, .int (nI (mz)), .int (nI (mf)), .int (nI (mt)), .int mv, .int mw, .ref ywa, .ref ybi, .ref ysi, .ref ynu, .ref ymo])), (yt, .inl (cI, 7, .inl mq))] sz)) (XQi (fun (r : Int32) (mq2 : (Nat → Int32)) => ((r = (-1000000003)))) D (fun (mq2 : Nat → Int32) => [(h0, .inr (9, [.ref ys, .ref yk, .ref yo, .ref yt, .int mk0, .ref yfa, .ref yfe, .int mL, .int mS, .int mM, .ref yro, .ref yhe, .ref ygr, .int mF, .int mC, .int mY, .ref yta, .int (nI (mz)), .int (nI (mf)), .int (nI (mt)), .int mv, .int mw, .ref ywa, .ref ybi, .ref ysi, .ref ynu, .ref ymo])), (yt, .inl (cI, 7, .inl mq2))]) (va_A [(h0, .inr (9, [.ref ys, .ref yk, .ref yo, .ref yt, .int mk0, .ref yfa, .ref yfe, .int mL, .int mS, .int mM, .ref yro, .ref yhe, .ref ygr, .int mF, .int mC, .int mY, .ref yta, .int (nI (mz)), .int (nI (mf)), .int (nI (mt)), .int mv, .int mw, .ref ywa, .ref ybi, .ref ysi, .ref ynu, .ref ymo])), (yt, .inl (cI, 7, .inl mq))] sz)) 0 0 (va_A [(h0, .inr (9, [.ref ys, .ref yk, .ref yo, .ref yt, .int mk0, .ref yfa, .ref yfe, .int mL, .int mS, .int mM, .ref yro, .ref yhe, .ref ygr, .int mF, .int mC, .int mY, .ref yta, .int (nI (mz)), .int (nI (mf)), .int (nI (mt)), .int mv, .int mw, .ref ywa, .ref ybi, .ref ysi, .ref ynu, .ref ymo])), (yt, .inl (cI, 7, .inl mq))] sz) := by
  refine xh (QA := fun A => XQi (fun (r : Int32) (mq2 : (Nat → Int32)) => ((r = (-1000000003)))) D (fun (mq2 : Nat → Int32) => [(h0, .inr (9, [.ref ys, .ref yk, .ref yo, .ref yt, .int mk0, .ref yfa, .ref yfe, .int mL, .int mS, .int mM, .ref yro, .ref yhe, .ref ygr, .int mF, .int mC, .int mY, .ref yta, .int (nI (mz)), .int (nI (mf)), .int (nI (mt)), .int mv, .int mw, .ref ywa, .ref ybi, .ref ysi, .ref ynu, .ref ymo])), (yt, .inl (cI, 7, .inl mq2))]) A) (fr := fun A => A) (by decide) (Nat.le_of_ble_eq_true rfl) ?_
  intro p e s m below meth c ls A hF hr hlk hin hsz hP hK hD hN hZ hA hS hl
  have hF : CallFix p m c cX9_finds 2 s _ _ RX9 := hF
  have hx := hF.1
  have hb := hF.2.1
  have hml := hF.2.2.1
  have hown := hF.2.2.2.1
  have hu : ∀ w ∈ wsU, w.before _ s = true := fun w h => hF.2.2.2.2 w (List.mem_cons_of_mem _ h)
  have hl : lv_has ls 2 [(0, .ref h0), (1, .int (-1000000003))] := hl
  refine lv_aload_n hx hb dX9_finds_0 rfl (lv_at hl 0 rfl) ?_
  refine xg hF kf_X9_19 hK hP 0 rfl rfl dX9_finds_1 ?_
  refine lv_ldc (v := (-1000000001)) hx hb hown (hu _ uw648) dX9_finds_4 ?_
  refine lv_iload_n hx hb dX9_finds_6 rfl (lv_at hl 1 rfl) ?_
  refine lv_isub hx hb dX9_finds_7 ?_
  refine xl_i (y := 2) (by decide) ?_
  refine lv_dup2_11 hx hb dX9_finds_8 rfl rfl ?_
  refine va_iald hx hb hK hP 1 0 rfl rfl (xin 2 7 (by decide) (by decide)) dX9_finds_9 ?_
  refine xl_i (y := mq 2) (congrArg mq rfl) ?_
  refine lv_iconst (v := 1) hx hb dX9_finds_10 (by decide) ?_
  refine lv_iadd hx hb dX9_finds_11 ?_
  refine lv_topi (fun x_1 ex_1 => ?_)
  refine va_iast hx hb hK hP hD hS 1 0 rfl rfl (xin 2 7 (by decide) (by decide)) dX9_finds_12 (fun H locs hP hD hS => ?_)
  obtain ⟨f_2, ef_2⟩ : ∃ g, g = upd mq 2 x_1 := ⟨_, rfl⟩
  have hP : va_P D vwCl [(h0, .inr (9, [.ref ys, .ref yk, .ref yo, .ref yt, .int mk0, .ref yfa, .ref yfe, .int mL, .int mS, .int mM, .ref yro, .ref yhe, .ref ygr, .int mF, .int mC, .int mY, .ref yta, .int (nI (mz)), .int (nI (mf)), .int (nI (mt)), .int mv, .int mw, .ref ywa, .ref ybi, .ref ysi, .ref ynu, .ref ymo])), (yt, .inl (cI, 7, .inl (upd mq 2 x_1)))] H := hP
  have hD : va_D A [(h0, .inr (9, [.ref ys, .ref yk, .ref yo, .ref yt, .int mk0, .ref yfa, .ref yfe, .int mL, .int mS, .int mM, .ref yro, .ref yhe, .ref ygr, .int mF, .int mC, .int mY, .ref yta, .int (nI (mz)), .int (nI (mf)), .int (nI (mt)), .int mv, .int mw, .ref ywa, .ref ybi, .ref ysi, .ref ynu, .ref ymo])), (yt, .inl (cI, 7, .inl (upd mq 2 x_1)))] := hD
  rw [← ef_2] at hP hD
  have hP : va_P D vwCl [(h0, .inr (9, [.ref ys, .ref yk, .ref yo, .ref yt, .int mk0, .ref yfa, .ref yfe, .int mL, .int mS, .int mM, .ref yro, .ref yhe, .ref ygr, .int mF, .int mC, .int mY, .ref yta, .int (nI (mz)), .int (nI (mf)), .int (nI (mt)), .int mv, .int mw, .ref ywa, .ref ybi, .ref ysi, .ref ynu, .ref ymo])), (yt, .inl (cI, 7, .inl f_2))] H := hP
  have hD : va_D A [(h0, .inr (9, [.ref ys, .ref yk, .ref yo, .ref yt, .int mk0, .ref yfa, .ref yfe, .int mL, .int mS, .int mM, .ref yro, .ref yhe, .ref ygr, .int mF, .int mC, .int mY, .ref yta, .int (nI (mz)), .int (nI (mf)), .int (nI (mt)), .int mv, .int mw, .ref ywa, .ref ybi, .ref ysi, .ref ynu, .ref ymo])), (yt, .inl (cI, 7, .inl f_2))] := hD
  refine lv_iload_n hx hb dX9_finds_13 rfl (lv_at hl 1 rfl) ?_
  exact W.iret (v := (-1000000003)) hx hb hr (fun t ht hW => ⟨⟨(-1000000003), f_2, rfl, (by first | exact rfl), by rw [ht]; exact hP.sub [0, 1] rfl, hD.sub [0, 1] (by decide) rfl⟩, hS.F ht⟩) hS.2.2 dX9_finds_14 hlk
set_option maxHeartbeats 4000000 in
set_option maxRecDepth 100000 in
theorem c_X9_finds_N (l : Launch) (D : va_G) (cI cJ cZ cS : ClassId) (ta : Nat) (sa sv : Nat → Nat) (sz : Nat) (h0 : Nat) (ys : Nat) (yk : Nat) (yo : Nat) (yt : Nat) (mk0 : Int32) (yfa : Nat) (yfe : Nat) (mL : Int32) (mS : Int32) (mM : Int32) (yro : Nat) (yhe : Nat) (ygr : Nat) (mF : Int32) (mC : Int32) (mY : Int32) (yta : Nat) (mz : Nat) (mf : Nat) (mt : Nat) (mv : Int32) (mw : Int32) (ywa : Nat) (ybi : Nat) (ysi : Nat) (ynu : Nat) (ymo : Nat) (mq : Nat → Int32) : Met l yX9_finds (Cond.code yX9_finds cX9_finds 2 (some .int) :: wsU) ({ frames := 0, cells := 0, slots := 0, locals := 0 }) (va_Pc [.ref h0, .int (-1000000004)] (XW D (xT cI cJ cZ cS) ta sa sv [(h0, .inr (9, [.ref ys, .ref yk, .ref yo, .ref yt, .int mk0, .ref yfa, .ref yfe, .int mL, .int mS, .int mM, .ref yro, .ref yhe, .ref ygr, .int mF, .int mC, .int mY, .ref yta, .int (nI (mz)), .int (nI (mf)), .int (nI (mt)), .int mv, .int mw, .ref ywa, .ref ybi, .ref ysi, .ref ynu, .ref ymo])), (yt, .inl (cI, 7, .inl mq))] sz)) (XQi (fun (r : Int32) (mq2 : (Nat → Int32)) => ((r = (-1000000004)))) D (fun (mq2 : Nat → Int32) => [(h0, .inr (9, [.ref ys, .ref yk, .ref yo, .ref yt, .int mk0, .ref yfa, .ref yfe, .int mL, .int mS, .int mM, .ref yro, .ref yhe, .ref ygr, .int mF, .int mC, .int mY, .ref yta, .int (nI (mz)), .int (nI (mf)), .int (nI (mt)), .int mv, .int mw, .ref ywa, .ref ybi, .ref ysi, .ref ynu, .ref ymo])), (yt, .inl (cI, 7, .inl mq2))]) (va_A [(h0, .inr (9, [.ref ys, .ref yk, .ref yo, .ref yt, .int mk0, .ref yfa, .ref yfe, .int mL, .int mS, .int mM, .ref yro, .ref yhe, .ref ygr, .int mF, .int mC, .int mY, .ref yta, .int (nI (mz)), .int (nI (mf)), .int (nI (mt)), .int mv, .int mw, .ref ywa, .ref ybi, .ref ysi, .ref ynu, .ref ymo])), (yt, .inl (cI, 7, .inl mq))] sz)) 0 0 (va_A [(h0, .inr (9, [.ref ys, .ref yk, .ref yo, .ref yt, .int mk0, .ref yfa, .ref yfe, .int mL, .int mS, .int mM, .ref yro, .ref yhe, .ref ygr, .int mF, .int mC, .int mY, .ref yta, .int (nI (mz)), .int (nI (mf)), .int (nI (mt)), .int mv, .int mw, .ref ywa, .ref ybi, .ref ysi, .ref ynu, .ref ymo])), (yt, .inl (cI, 7, .inl mq))] sz) := by
  refine xh (QA := fun A => XQi (fun (r : Int32) (mq2 : (Nat → Int32)) => ((r = (-1000000004)))) D (fun (mq2 : Nat → Int32) => [(h0, .inr (9, [.ref ys, .ref yk, .ref yo, .ref yt, .int mk0, .ref yfa, .ref yfe, .int mL, .int mS, .int mM, .ref yro, .ref yhe, .ref ygr, .int mF, .int mC, .int mY, .ref yta, .int (nI (mz)), .int (nI (mf)), .int (nI (mt)), .int mv, .int mw, .ref ywa, .ref ybi, .ref ysi, .ref ynu, .ref ymo])), (yt, .inl (cI, 7, .inl mq2))]) A) (fr := fun A => A) (by decide) (Nat.le_of_ble_eq_true rfl) ?_
  intro p e s m below meth c ls A hF hr hlk hin hsz hP hK hD hN hZ hA hS hl
  have hF : CallFix p m c cX9_finds 2 s _ _ RX9 := hF
  have hx := hF.1
  have hb := hF.2.1
  have hml := hF.2.2.1
  have hown := hF.2.2.2.1
  have hu : ∀ w ∈ wsU, w.before _ s = true := fun w h => hF.2.2.2.2 w (List.mem_cons_of_mem _ h)
  have hl : lv_has ls 2 [(0, .ref h0), (1, .int (-1000000004))] := hl
  refine lv_aload_n hx hb dX9_finds_0 rfl (lv_at hl 0 rfl) ?_
  refine xg hF kf_X9_19 hK hP 0 rfl rfl dX9_finds_1 ?_
  refine lv_ldc (v := (-1000000001)) hx hb hown (hu _ uw648) dX9_finds_4 ?_
  refine lv_iload_n hx hb dX9_finds_6 rfl (lv_at hl 1 rfl) ?_
  refine lv_isub hx hb dX9_finds_7 ?_
  refine xl_i (y := 3) (by decide) ?_
  refine lv_dup2_11 hx hb dX9_finds_8 rfl rfl ?_
  refine va_iald hx hb hK hP 1 0 rfl rfl (xin 3 7 (by decide) (by decide)) dX9_finds_9 ?_
  refine xl_i (y := mq 3) (congrArg mq rfl) ?_
  refine lv_iconst (v := 1) hx hb dX9_finds_10 (by decide) ?_
  refine lv_iadd hx hb dX9_finds_11 ?_
  refine lv_topi (fun x_1 ex_1 => ?_)
  refine va_iast hx hb hK hP hD hS 1 0 rfl rfl (xin 3 7 (by decide) (by decide)) dX9_finds_12 (fun H locs hP hD hS => ?_)
  obtain ⟨f_2, ef_2⟩ : ∃ g, g = upd mq 3 x_1 := ⟨_, rfl⟩
  have hP : va_P D vwCl [(h0, .inr (9, [.ref ys, .ref yk, .ref yo, .ref yt, .int mk0, .ref yfa, .ref yfe, .int mL, .int mS, .int mM, .ref yro, .ref yhe, .ref ygr, .int mF, .int mC, .int mY, .ref yta, .int (nI (mz)), .int (nI (mf)), .int (nI (mt)), .int mv, .int mw, .ref ywa, .ref ybi, .ref ysi, .ref ynu, .ref ymo])), (yt, .inl (cI, 7, .inl (upd mq 3 x_1)))] H := hP
  have hD : va_D A [(h0, .inr (9, [.ref ys, .ref yk, .ref yo, .ref yt, .int mk0, .ref yfa, .ref yfe, .int mL, .int mS, .int mM, .ref yro, .ref yhe, .ref ygr, .int mF, .int mC, .int mY, .ref yta, .int (nI (mz)), .int (nI (mf)), .int (nI (mt)), .int mv, .int mw, .ref ywa, .ref ybi, .ref ysi, .ref ynu, .ref ymo])), (yt, .inl (cI, 7, .inl (upd mq 3 x_1)))] := hD
  rw [← ef_2] at hP hD
  have hP : va_P D vwCl [(h0, .inr (9, [.ref ys, .ref yk, .ref yo, .ref yt, .int mk0, .ref yfa, .ref yfe, .int mL, .int mS, .int mM, .ref yro, .ref yhe, .ref ygr, .int mF, .int mC, .int mY, .ref yta, .int (nI (mz)), .int (nI (mf)), .int (nI (mt)), .int mv, .int mw, .ref ywa, .ref ybi, .ref ysi, .ref ynu, .ref ymo])), (yt, .inl (cI, 7, .inl f_2))] H := hP
  have hD : va_D A [(h0, .inr (9, [.ref ys, .ref yk, .ref yo, .ref yt, .int mk0, .ref yfa, .ref yfe, .int mL, .int mS, .int mM, .ref yro, .ref yhe, .ref ygr, .int mF, .int mC, .int mY, .ref yta, .int (nI (mz)), .int (nI (mf)), .int (nI (mt)), .int mv, .int mw, .ref ywa, .ref ybi, .ref ysi, .ref ynu, .ref ymo])), (yt, .inl (cI, 7, .inl f_2))] := hD
  refine lv_iload_n hx hb dX9_finds_13 rfl (lv_at hl 1 rfl) ?_
  exact W.iret (v := (-1000000004)) hx hb hr (fun t ht hW => ⟨⟨(-1000000004), f_2, rfl, (by first | exact rfl), by rw [ht]; exact hP.sub [0, 1] rfl, hD.sub [0, 1] (by decide) rfl⟩, hS.F ht⟩) hS.2.2 dX9_finds_14 hlk
set_option maxHeartbeats 4000000 in
set_option maxRecDepth 100000 in
theorem c_X9_finds_T (l : Launch) (D : va_G) (cI cJ cZ cS : ClassId) (ta : Nat) (sa sv : Nat → Nat) (sz : Nat) (h0 : Nat) (ys : Nat) (yk : Nat) (yo : Nat) (yt : Nat) (mk0 : Int32) (yfa : Nat) (yfe : Nat) (mL : Int32) (mS : Int32) (mM : Int32) (yro : Nat) (yhe : Nat) (ygr : Nat) (mF : Int32) (mC : Int32) (mY : Int32) (yta : Nat) (mz : Nat) (mf : Nat) (mt : Nat) (mv : Int32) (mw : Int32) (ywa : Nat) (ybi : Nat) (ysi : Nat) (ynu : Nat) (ymo : Nat) (mq : Nat → Int32) : Met l yX9_finds (Cond.code yX9_finds cX9_finds 2 (some .int) :: wsU) ({ frames := 0, cells := 0, slots := 0, locals := 0 }) (va_Pc [.ref h0, .int (-1000000005)] (XW D (xT cI cJ cZ cS) ta sa sv [(h0, .inr (9, [.ref ys, .ref yk, .ref yo, .ref yt, .int mk0, .ref yfa, .ref yfe, .int mL, .int mS, .int mM, .ref yro, .ref yhe, .ref ygr, .int mF, .int mC, .int mY, .ref yta, .int (nI (mz)), .int (nI (mf)), .int (nI (mt)), .int mv, .int mw, .ref ywa, .ref ybi, .ref ysi, .ref ynu, .ref ymo])), (yt, .inl (cI, 7, .inl mq))] sz)) (XQi (fun (r : Int32) (mq2 : (Nat → Int32)) => ((r = (-1000000005)))) D (fun (mq2 : Nat → Int32) => [(h0, .inr (9, [.ref ys, .ref yk, .ref yo, .ref yt, .int mk0, .ref yfa, .ref yfe, .int mL, .int mS, .int mM, .ref yro, .ref yhe, .ref ygr, .int mF, .int mC, .int mY, .ref yta, .int (nI (mz)), .int (nI (mf)), .int (nI (mt)), .int mv, .int mw, .ref ywa, .ref ybi, .ref ysi, .ref ynu, .ref ymo])), (yt, .inl (cI, 7, .inl mq2))]) (va_A [(h0, .inr (9, [.ref ys, .ref yk, .ref yo, .ref yt, .int mk0, .ref yfa, .ref yfe, .int mL, .int mS, .int mM, .ref yro, .ref yhe, .ref ygr, .int mF, .int mC, .int mY, .ref yta, .int (nI (mz)), .int (nI (mf)), .int (nI (mt)), .int mv, .int mw, .ref ywa, .ref ybi, .ref ysi, .ref ynu, .ref ymo])), (yt, .inl (cI, 7, .inl mq))] sz)) 0 0 (va_A [(h0, .inr (9, [.ref ys, .ref yk, .ref yo, .ref yt, .int mk0, .ref yfa, .ref yfe, .int mL, .int mS, .int mM, .ref yro, .ref yhe, .ref ygr, .int mF, .int mC, .int mY, .ref yta, .int (nI (mz)), .int (nI (mf)), .int (nI (mt)), .int mv, .int mw, .ref ywa, .ref ybi, .ref ysi, .ref ynu, .ref ymo])), (yt, .inl (cI, 7, .inl mq))] sz) := by
  refine xh (QA := fun A => XQi (fun (r : Int32) (mq2 : (Nat → Int32)) => ((r = (-1000000005)))) D (fun (mq2 : Nat → Int32) => [(h0, .inr (9, [.ref ys, .ref yk, .ref yo, .ref yt, .int mk0, .ref yfa, .ref yfe, .int mL, .int mS, .int mM, .ref yro, .ref yhe, .ref ygr, .int mF, .int mC, .int mY, .ref yta, .int (nI (mz)), .int (nI (mf)), .int (nI (mt)), .int mv, .int mw, .ref ywa, .ref ybi, .ref ysi, .ref ynu, .ref ymo])), (yt, .inl (cI, 7, .inl mq2))]) A) (fr := fun A => A) (by decide) (Nat.le_of_ble_eq_true rfl) ?_
  intro p e s m below meth c ls A hF hr hlk hin hsz hP hK hD hN hZ hA hS hl
  have hF : CallFix p m c cX9_finds 2 s _ _ RX9 := hF
  have hx := hF.1
  have hb := hF.2.1
  have hml := hF.2.2.1
  have hown := hF.2.2.2.1
  have hu : ∀ w ∈ wsU, w.before _ s = true := fun w h => hF.2.2.2.2 w (List.mem_cons_of_mem _ h)
  have hl : lv_has ls 2 [(0, .ref h0), (1, .int (-1000000005))] := hl
  refine lv_aload_n hx hb dX9_finds_0 rfl (lv_at hl 0 rfl) ?_
  refine xg hF kf_X9_19 hK hP 0 rfl rfl dX9_finds_1 ?_
  refine lv_ldc (v := (-1000000001)) hx hb hown (hu _ uw648) dX9_finds_4 ?_
  refine lv_iload_n hx hb dX9_finds_6 rfl (lv_at hl 1 rfl) ?_
  refine lv_isub hx hb dX9_finds_7 ?_
  refine xl_i (y := 4) (by decide) ?_
  refine lv_dup2_11 hx hb dX9_finds_8 rfl rfl ?_
  refine va_iald hx hb hK hP 1 0 rfl rfl (xin 4 7 (by decide) (by decide)) dX9_finds_9 ?_
  refine xl_i (y := mq 4) (congrArg mq rfl) ?_
  refine lv_iconst (v := 1) hx hb dX9_finds_10 (by decide) ?_
  refine lv_iadd hx hb dX9_finds_11 ?_
  refine lv_topi (fun x_1 ex_1 => ?_)
  refine va_iast hx hb hK hP hD hS 1 0 rfl rfl (xin 4 7 (by decide) (by decide)) dX9_finds_12 (fun H locs hP hD hS => ?_)
  obtain ⟨f_2, ef_2⟩ : ∃ g, g = upd mq 4 x_1 := ⟨_, rfl⟩
  have hP : va_P D vwCl [(h0, .inr (9, [.ref ys, .ref yk, .ref yo, .ref yt, .int mk0, .ref yfa, .ref yfe, .int mL, .int mS, .int mM, .ref yro, .ref yhe, .ref ygr, .int mF, .int mC, .int mY, .ref yta, .int (nI (mz)), .int (nI (mf)), .int (nI (mt)), .int mv, .int mw, .ref ywa, .ref ybi, .ref ysi, .ref ynu, .ref ymo])), (yt, .inl (cI, 7, .inl (upd mq 4 x_1)))] H := hP
  have hD : va_D A [(h0, .inr (9, [.ref ys, .ref yk, .ref yo, .ref yt, .int mk0, .ref yfa, .ref yfe, .int mL, .int mS, .int mM, .ref yro, .ref yhe, .ref ygr, .int mF, .int mC, .int mY, .ref yta, .int (nI (mz)), .int (nI (mf)), .int (nI (mt)), .int mv, .int mw, .ref ywa, .ref ybi, .ref ysi, .ref ynu, .ref ymo])), (yt, .inl (cI, 7, .inl (upd mq 4 x_1)))] := hD
  rw [← ef_2] at hP hD
  have hP : va_P D vwCl [(h0, .inr (9, [.ref ys, .ref yk, .ref yo, .ref yt, .int mk0, .ref yfa, .ref yfe, .int mL, .int mS, .int mM, .ref yro, .ref yhe, .ref ygr, .int mF, .int mC, .int mY, .ref yta, .int (nI (mz)), .int (nI (mf)), .int (nI (mt)), .int mv, .int mw, .ref ywa, .ref ybi, .ref ysi, .ref ynu, .ref ymo])), (yt, .inl (cI, 7, .inl f_2))] H := hP
  have hD : va_D A [(h0, .inr (9, [.ref ys, .ref yk, .ref yo, .ref yt, .int mk0, .ref yfa, .ref yfe, .int mL, .int mS, .int mM, .ref yro, .ref yhe, .ref ygr, .int mF, .int mC, .int mY, .ref yta, .int (nI (mz)), .int (nI (mf)), .int (nI (mt)), .int mv, .int mw, .ref ywa, .ref ybi, .ref ysi, .ref ynu, .ref ymo])), (yt, .inl (cI, 7, .inl f_2))] := hD
  refine lv_iload_n hx hb dX9_finds_13 rfl (lv_at hl 1 rfl) ?_
  exact W.iret (v := (-1000000005)) hx hb hr (fun t ht hW => ⟨⟨(-1000000005), f_2, rfl, (by first | exact rfl), by rw [ht]; exact hP.sub [0, 1] rfl, hD.sub [0, 1] (by decide) rfl⟩, hS.F ht⟩) hS.2.2 dX9_finds_14 hlk
set_option maxHeartbeats 4000000 in
set_option maxRecDepth 100000 in
theorem c_X9_finds_M (l : Launch) (D : va_G) (cI cJ cZ cS : ClassId) (ta : Nat) (sa sv : Nat → Nat) (sz : Nat) (h0 : Nat) (ys : Nat) (yk : Nat) (yo : Nat) (yt : Nat) (mk0 : Int32) (yfa : Nat) (yfe : Nat) (mL : Int32) (mS : Int32) (mM : Int32) (yro : Nat) (yhe : Nat) (ygr : Nat) (mF : Int32) (mC : Int32) (mY : Int32) (yta : Nat) (mz : Nat) (mf : Nat) (mt : Nat) (mv : Int32) (mw : Int32) (ywa : Nat) (ybi : Nat) (ysi : Nat) (ynu : Nat) (ymo : Nat) (mq : Nat → Int32) : Met l yX9_finds (Cond.code yX9_finds cX9_finds 2 (some .int) :: wsU) ({ frames := 0, cells := 0, slots := 0, locals := 0 }) (va_Pc [.ref h0, .int (-1000000006)] (XW D (xT cI cJ cZ cS) ta sa sv [(h0, .inr (9, [.ref ys, .ref yk, .ref yo, .ref yt, .int mk0, .ref yfa, .ref yfe, .int mL, .int mS, .int mM, .ref yro, .ref yhe, .ref ygr, .int mF, .int mC, .int mY, .ref yta, .int (nI (mz)), .int (nI (mf)), .int (nI (mt)), .int mv, .int mw, .ref ywa, .ref ybi, .ref ysi, .ref ynu, .ref ymo])), (yt, .inl (cI, 7, .inl mq))] sz)) (XQi (fun (r : Int32) (mq2 : (Nat → Int32)) => ((r = (-1000000006)))) D (fun (mq2 : Nat → Int32) => [(h0, .inr (9, [.ref ys, .ref yk, .ref yo, .ref yt, .int mk0, .ref yfa, .ref yfe, .int mL, .int mS, .int mM, .ref yro, .ref yhe, .ref ygr, .int mF, .int mC, .int mY, .ref yta, .int (nI (mz)), .int (nI (mf)), .int (nI (mt)), .int mv, .int mw, .ref ywa, .ref ybi, .ref ysi, .ref ynu, .ref ymo])), (yt, .inl (cI, 7, .inl mq2))]) (va_A [(h0, .inr (9, [.ref ys, .ref yk, .ref yo, .ref yt, .int mk0, .ref yfa, .ref yfe, .int mL, .int mS, .int mM, .ref yro, .ref yhe, .ref ygr, .int mF, .int mC, .int mY, .ref yta, .int (nI (mz)), .int (nI (mf)), .int (nI (mt)), .int mv, .int mw, .ref ywa, .ref ybi, .ref ysi, .ref ynu, .ref ymo])), (yt, .inl (cI, 7, .inl mq))] sz)) 0 0 (va_A [(h0, .inr (9, [.ref ys, .ref yk, .ref yo, .ref yt, .int mk0, .ref yfa, .ref yfe, .int mL, .int mS, .int mM, .ref yro, .ref yhe, .ref ygr, .int mF, .int mC, .int mY, .ref yta, .int (nI (mz)), .int (nI (mf)), .int (nI (mt)), .int mv, .int mw, .ref ywa, .ref ybi, .ref ysi, .ref ynu, .ref ymo])), (yt, .inl (cI, 7, .inl mq))] sz) := by
  refine xh (QA := fun A => XQi (fun (r : Int32) (mq2 : (Nat → Int32)) => ((r = (-1000000006)))) D (fun (mq2 : Nat → Int32) => [(h0, .inr (9, [.ref ys, .ref yk, .ref yo, .ref yt, .int mk0, .ref yfa, .ref yfe, .int mL, .int mS, .int mM, .ref yro, .ref yhe, .ref ygr, .int mF, .int mC, .int mY, .ref yta, .int (nI (mz)), .int (nI (mf)), .int (nI (mt)), .int mv, .int mw, .ref ywa, .ref ybi, .ref ysi, .ref ynu, .ref ymo])), (yt, .inl (cI, 7, .inl mq2))]) A) (fr := fun A => A) (by decide) (Nat.le_of_ble_eq_true rfl) ?_
  intro p e s m below meth c ls A hF hr hlk hin hsz hP hK hD hN hZ hA hS hl
  have hF : CallFix p m c cX9_finds 2 s _ _ RX9 := hF
  have hx := hF.1
  have hb := hF.2.1
  have hml := hF.2.2.1
  have hown := hF.2.2.2.1
  have hu : ∀ w ∈ wsU, w.before _ s = true := fun w h => hF.2.2.2.2 w (List.mem_cons_of_mem _ h)
  have hl : lv_has ls 2 [(0, .ref h0), (1, .int (-1000000006))] := hl
  refine lv_aload_n hx hb dX9_finds_0 rfl (lv_at hl 0 rfl) ?_
  refine xg hF kf_X9_19 hK hP 0 rfl rfl dX9_finds_1 ?_
  refine lv_ldc (v := (-1000000001)) hx hb hown (hu _ uw648) dX9_finds_4 ?_
  refine lv_iload_n hx hb dX9_finds_6 rfl (lv_at hl 1 rfl) ?_
  refine lv_isub hx hb dX9_finds_7 ?_
  refine xl_i (y := 5) (by decide) ?_
  refine lv_dup2_11 hx hb dX9_finds_8 rfl rfl ?_
  refine va_iald hx hb hK hP 1 0 rfl rfl (xin 5 7 (by decide) (by decide)) dX9_finds_9 ?_
  refine xl_i (y := mq 5) (congrArg mq rfl) ?_
  refine lv_iconst (v := 1) hx hb dX9_finds_10 (by decide) ?_
  refine lv_iadd hx hb dX9_finds_11 ?_
  refine lv_topi (fun x_1 ex_1 => ?_)
  refine va_iast hx hb hK hP hD hS 1 0 rfl rfl (xin 5 7 (by decide) (by decide)) dX9_finds_12 (fun H locs hP hD hS => ?_)
  obtain ⟨f_2, ef_2⟩ : ∃ g, g = upd mq 5 x_1 := ⟨_, rfl⟩
  have hP : va_P D vwCl [(h0, .inr (9, [.ref ys, .ref yk, .ref yo, .ref yt, .int mk0, .ref yfa, .ref yfe, .int mL, .int mS, .int mM, .ref yro, .ref yhe, .ref ygr, .int mF, .int mC, .int mY, .ref yta, .int (nI (mz)), .int (nI (mf)), .int (nI (mt)), .int mv, .int mw, .ref ywa, .ref ybi, .ref ysi, .ref ynu, .ref ymo])), (yt, .inl (cI, 7, .inl (upd mq 5 x_1)))] H := hP
  have hD : va_D A [(h0, .inr (9, [.ref ys, .ref yk, .ref yo, .ref yt, .int mk0, .ref yfa, .ref yfe, .int mL, .int mS, .int mM, .ref yro, .ref yhe, .ref ygr, .int mF, .int mC, .int mY, .ref yta, .int (nI (mz)), .int (nI (mf)), .int (nI (mt)), .int mv, .int mw, .ref ywa, .ref ybi, .ref ysi, .ref ynu, .ref ymo])), (yt, .inl (cI, 7, .inl (upd mq 5 x_1)))] := hD
  rw [← ef_2] at hP hD
  have hP : va_P D vwCl [(h0, .inr (9, [.ref ys, .ref yk, .ref yo, .ref yt, .int mk0, .ref yfa, .ref yfe, .int mL, .int mS, .int mM, .ref yro, .ref yhe, .ref ygr, .int mF, .int mC, .int mY, .ref yta, .int (nI (mz)), .int (nI (mf)), .int (nI (mt)), .int mv, .int mw, .ref ywa, .ref ybi, .ref ysi, .ref ynu, .ref ymo])), (yt, .inl (cI, 7, .inl f_2))] H := hP
  have hD : va_D A [(h0, .inr (9, [.ref ys, .ref yk, .ref yo, .ref yt, .int mk0, .ref yfa, .ref yfe, .int mL, .int mS, .int mM, .ref yro, .ref yhe, .ref ygr, .int mF, .int mC, .int mY, .ref yta, .int (nI (mz)), .int (nI (mf)), .int (nI (mt)), .int mv, .int mw, .ref ywa, .ref ybi, .ref ysi, .ref ynu, .ref ymo])), (yt, .inl (cI, 7, .inl f_2))] := hD
  refine lv_iload_n hx hb dX9_finds_13 rfl (lv_at hl 1 rfl) ?_
  exact W.iret (v := (-1000000006)) hx hb hr (fun t ht hW => ⟨⟨(-1000000006), f_2, rfl, (by first | exact rfl), by rw [ht]; exact hP.sub [0, 1] rfl, hD.sub [0, 1] (by decide) rfl⟩, hS.F ht⟩) hS.2.2 dX9_finds_14 hlk
set_option maxHeartbeats 4000000 in
set_option maxRecDepth 100000 in
theorem c_X9_finds_S (l : Launch) (D : va_G) (cI cJ cZ cS : ClassId) (ta : Nat) (sa sv : Nat → Nat) (sz : Nat) (h0 : Nat) (ys : Nat) (yk : Nat) (yo : Nat) (yt : Nat) (mk0 : Int32) (yfa : Nat) (yfe : Nat) (mL : Int32) (mS : Int32) (mM : Int32) (yro : Nat) (yhe : Nat) (ygr : Nat) (mF : Int32) (mC : Int32) (mY : Int32) (yta : Nat) (mz : Nat) (mf : Nat) (mt : Nat) (mv : Int32) (mw : Int32) (ywa : Nat) (ybi : Nat) (ysi : Nat) (ynu : Nat) (ymo : Nat) (mq : Nat → Int32) : Met l yX9_finds (Cond.code yX9_finds cX9_finds 2 (some .int) :: wsU) ({ frames := 0, cells := 0, slots := 0, locals := 0 }) (va_Pc [.ref h0, .int (-1000000007)] (XW D (xT cI cJ cZ cS) ta sa sv [(h0, .inr (9, [.ref ys, .ref yk, .ref yo, .ref yt, .int mk0, .ref yfa, .ref yfe, .int mL, .int mS, .int mM, .ref yro, .ref yhe, .ref ygr, .int mF, .int mC, .int mY, .ref yta, .int (nI (mz)), .int (nI (mf)), .int (nI (mt)), .int mv, .int mw, .ref ywa, .ref ybi, .ref ysi, .ref ynu, .ref ymo])), (yt, .inl (cI, 7, .inl mq))] sz)) (XQi (fun (r : Int32) (mq2 : (Nat → Int32)) => ((r = (-1000000007)))) D (fun (mq2 : Nat → Int32) => [(h0, .inr (9, [.ref ys, .ref yk, .ref yo, .ref yt, .int mk0, .ref yfa, .ref yfe, .int mL, .int mS, .int mM, .ref yro, .ref yhe, .ref ygr, .int mF, .int mC, .int mY, .ref yta, .int (nI (mz)), .int (nI (mf)), .int (nI (mt)), .int mv, .int mw, .ref ywa, .ref ybi, .ref ysi, .ref ynu, .ref ymo])), (yt, .inl (cI, 7, .inl mq2))]) (va_A [(h0, .inr (9, [.ref ys, .ref yk, .ref yo, .ref yt, .int mk0, .ref yfa, .ref yfe, .int mL, .int mS, .int mM, .ref yro, .ref yhe, .ref ygr, .int mF, .int mC, .int mY, .ref yta, .int (nI (mz)), .int (nI (mf)), .int (nI (mt)), .int mv, .int mw, .ref ywa, .ref ybi, .ref ysi, .ref ynu, .ref ymo])), (yt, .inl (cI, 7, .inl mq))] sz)) 0 0 (va_A [(h0, .inr (9, [.ref ys, .ref yk, .ref yo, .ref yt, .int mk0, .ref yfa, .ref yfe, .int mL, .int mS, .int mM, .ref yro, .ref yhe, .ref ygr, .int mF, .int mC, .int mY, .ref yta, .int (nI (mz)), .int (nI (mf)), .int (nI (mt)), .int mv, .int mw, .ref ywa, .ref ybi, .ref ysi, .ref ynu, .ref ymo])), (yt, .inl (cI, 7, .inl mq))] sz) := by
  refine xh (QA := fun A => XQi (fun (r : Int32) (mq2 : (Nat → Int32)) => ((r = (-1000000007)))) D (fun (mq2 : Nat → Int32) => [(h0, .inr (9, [.ref ys, .ref yk, .ref yo, .ref yt, .int mk0, .ref yfa, .ref yfe, .int mL, .int mS, .int mM, .ref yro, .ref yhe, .ref ygr, .int mF, .int mC, .int mY, .ref yta, .int (nI (mz)), .int (nI (mf)), .int (nI (mt)), .int mv, .int mw, .ref ywa, .ref ybi, .ref ysi, .ref ynu, .ref ymo])), (yt, .inl (cI, 7, .inl mq2))]) A) (fr := fun A => A) (by decide) (Nat.le_of_ble_eq_true rfl) ?_
  intro p e s m below meth c ls A hF hr hlk hin hsz hP hK hD hN hZ hA hS hl
  have hF : CallFix p m c cX9_finds 2 s _ _ RX9 := hF
  have hx := hF.1
  have hb := hF.2.1
  have hml := hF.2.2.1
  have hown := hF.2.2.2.1
  have hu : ∀ w ∈ wsU, w.before _ s = true := fun w h => hF.2.2.2.2 w (List.mem_cons_of_mem _ h)
  have hl : lv_has ls 2 [(0, .ref h0), (1, .int (-1000000007))] := hl
  refine lv_aload_n hx hb dX9_finds_0 rfl (lv_at hl 0 rfl) ?_
  refine xg hF kf_X9_19 hK hP 0 rfl rfl dX9_finds_1 ?_
  refine lv_ldc (v := (-1000000001)) hx hb hown (hu _ uw648) dX9_finds_4 ?_
  refine lv_iload_n hx hb dX9_finds_6 rfl (lv_at hl 1 rfl) ?_
  refine lv_isub hx hb dX9_finds_7 ?_
  refine xl_i (y := 6) (by decide) ?_
  refine lv_dup2_11 hx hb dX9_finds_8 rfl rfl ?_
  refine va_iald hx hb hK hP 1 0 rfl rfl (xin 6 7 (by decide) (by decide)) dX9_finds_9 ?_
  refine xl_i (y := mq 6) (congrArg mq rfl) ?_
  refine lv_iconst (v := 1) hx hb dX9_finds_10 (by decide) ?_
  refine lv_iadd hx hb dX9_finds_11 ?_
  refine lv_topi (fun x_1 ex_1 => ?_)
  refine va_iast hx hb hK hP hD hS 1 0 rfl rfl (xin 6 7 (by decide) (by decide)) dX9_finds_12 (fun H locs hP hD hS => ?_)
  obtain ⟨f_2, ef_2⟩ : ∃ g, g = upd mq 6 x_1 := ⟨_, rfl⟩
  have hP : va_P D vwCl [(h0, .inr (9, [.ref ys, .ref yk, .ref yo, .ref yt, .int mk0, .ref yfa, .ref yfe, .int mL, .int mS, .int mM, .ref yro, .ref yhe, .ref ygr, .int mF, .int mC, .int mY, .ref yta, .int (nI (mz)), .int (nI (mf)), .int (nI (mt)), .int mv, .int mw, .ref ywa, .ref ybi, .ref ysi, .ref ynu, .ref ymo])), (yt, .inl (cI, 7, .inl (upd mq 6 x_1)))] H := hP
  have hD : va_D A [(h0, .inr (9, [.ref ys, .ref yk, .ref yo, .ref yt, .int mk0, .ref yfa, .ref yfe, .int mL, .int mS, .int mM, .ref yro, .ref yhe, .ref ygr, .int mF, .int mC, .int mY, .ref yta, .int (nI (mz)), .int (nI (mf)), .int (nI (mt)), .int mv, .int mw, .ref ywa, .ref ybi, .ref ysi, .ref ynu, .ref ymo])), (yt, .inl (cI, 7, .inl (upd mq 6 x_1)))] := hD
  rw [← ef_2] at hP hD
  have hP : va_P D vwCl [(h0, .inr (9, [.ref ys, .ref yk, .ref yo, .ref yt, .int mk0, .ref yfa, .ref yfe, .int mL, .int mS, .int mM, .ref yro, .ref yhe, .ref ygr, .int mF, .int mC, .int mY, .ref yta, .int (nI (mz)), .int (nI (mf)), .int (nI (mt)), .int mv, .int mw, .ref ywa, .ref ybi, .ref ysi, .ref ynu, .ref ymo])), (yt, .inl (cI, 7, .inl f_2))] H := hP
  have hD : va_D A [(h0, .inr (9, [.ref ys, .ref yk, .ref yo, .ref yt, .int mk0, .ref yfa, .ref yfe, .int mL, .int mS, .int mM, .ref yro, .ref yhe, .ref ygr, .int mF, .int mC, .int mY, .ref yta, .int (nI (mz)), .int (nI (mf)), .int (nI (mt)), .int mv, .int mw, .ref ywa, .ref ybi, .ref ysi, .ref ynu, .ref ymo])), (yt, .inl (cI, 7, .inl f_2))] := hD
  refine lv_iload_n hx hb dX9_finds_13 rfl (lv_at hl 1 rfl) ?_
  exact W.iret (v := (-1000000007)) hx hb hr (fun t ht hW => ⟨⟨(-1000000007), f_2, rfl, (by first | exact rfl), by rw [ht]; exact hP.sub [0, 1] rfl, hD.sub [0, 1] (by decide) rfl⟩, hS.F ht⟩) hS.2.2 dX9_finds_14 hlk
set_option maxHeartbeats 4000000 in
set_option maxRecDepth 100000 in
theorem c_X9_isPlace (l : Launch) (D : va_G) (cI cJ cZ cS : ClassId) (ta : Nat) (sa sv : Nat → Nat) (sz : Nat) (h0 : Nat) (ys : Nat) (yk : Nat) (yo : Nat) (yt : Nat) (mk0 : Int32) (yfa : Nat) (yfe : Nat) (mL : Int32) (mS : Int32) (mM : Int32) (yro : Nat) (yhe : Nat) (ygr : Nat) (mF : Int32) (mC : Int32) (mY : Int32) (yta : Nat) (mz : Nat) (mf : Nat) (mt : Nat) (mv : Int32) (mw : Int32) (ywa : Nat) (ybi : Nat) (ysi : Nat) (ynu : Nat) (ymo : Nat) (ms : Nat → Int32) (P : Nat) (Rn : Nat) (Wn : Nat) (fae : Nat → Int32) (fal : Nat → Int32) (fau : Nat → Int32) (fao : Nat → Int32) (farn : Nat → Int32) (farp : Nat → Int32) (fak : Nat → Int32) (fawn : Nat → Int32) (fawp : Nat → Int32) (fat : Nat → Int32) (fas : Nat → Int32) (p0 : Int32) (hs0 : ms 0 = nI P) (hs1 : ms 1 = nI Rn) (hs2 : ms 2 = nI Wn) (hsS : SI ms) (hsM : MI ms) (hsp : P ≤ 10) (hsr : Rn ≤ 8) (hsw : Wn ≤ 8) (hsR : RI Rn ms) (hsG : FR P ms fae fal fau fao farn farp fak fawn fawp fat fas) : Met l yX9_isPlace (Cond.code yX9_isPlace cX9_isPlace 2 (some .boolean) :: wsU) ({ frames := 1, cells := 0, slots := 0, locals := 25 }) (va_Pc [.ref h0, .int p0] (XW D (xT cI cJ cZ cS) ta sa sv [(h0, .inr (9, [.ref ys, .ref yk, .ref yo, .ref yt, .int mk0, .ref yfa, .ref yfe, .int mL, .int mS, .int mM, .ref yro, .ref yhe, .ref ygr, .int mF, .int mC, .int mY, .ref yta, .int (nI (mz)), .int (nI (mf)), .int (nI (mt)), .int mv, .int mw, .ref ywa, .ref ybi, .ref ysi, .ref ynu, .ref ymo])), (ys, .inl (cI, 449, .inl ms))] sz)) (vp_Si (fun r : Int32 => (∃ (k : Nat), r = 1 ∧ (p0 = nI k) ∧ (k < P)) ∨ (r = 0 ∧ (¬ isP P p0)))) 0 0 (fun _ => False) := by
  refine xh (QA := fun _ => vp_Si (fun r : Int32 => (∃ (k : Nat), r = 1 ∧ (p0 = nI k) ∧ (k < P)) ∨ (r = 0 ∧ (¬ isP P p0)))) (fr := fun _ _ => False) (by decide) (Nat.le_of_ble_eq_true rfl) ?_
  intro p e s m below meth c ls A hF hr hlk hin hsz hP hK hD hN hZ hA hS hl
  have hF : CallFix p m c cX9_isPlace 2 s _ _ RX9 := hF
  have hx := hF.1
  have hb := hF.2.1
  have hml := hF.2.2.1
  have hown := hF.2.2.2.1
  have hu : ∀ w ∈ wsU, w.before _ s = true := fun w h => hF.2.2.2.2 w (List.mem_cons_of_mem _ h)
  have hl : lv_has ls 2 [(0, .ref h0), (1, .int p0)] := hl
  refine lv_iload_n hx hb dX9_isPlace_0 rfl (lv_at hl 1 rfl) ?_
  refine lv_i2l (v := p0.toInt64) hx hb dX9_isPlace_1 rfl ?_
  refine lv_lconst (v := 0) hx hb dX9_isPlace_2 (by decide) ?_
  refine xl_l (y := (0 : Int32).toInt64) (by decide) ?_
  refine lv_aload_n hx hb dX9_isPlace_3 rfl (lv_at hl 0 rfl) ?_
  refine xg hF kf_X9_7 hK hP 0 rfl rfl dX9_isPlace_4 ?_
  refine lv_iconst (v := 0) hx hb dX9_isPlace_7 (by decide) ?_
  refine va_iald hx hb hK hP 1 0 rfl rfl (xin 0 449 (by decide) (by decide)) dX9_isPlace_8 ?_
  refine xl_i (y := nI (P)) hs0 ?_
  refine lv_iconst (v := 1) hx hb dX9_isPlace_9 (by decide) ?_
  refine lv_isub hx hb dX9_isPlace_10 ?_
  refine lv_topi (fun x_1 ex_1 => ?_)
  refine lv_i2l (v := x_1.toInt64) hx hb dX9_isPlace_11 rfl ?_
  refine xc_Sr hF (c_X9_in l D cI cJ cZ cS ta sa sv s.heap.size p0 0 x_1 ) ks_X9_57 ⟨rfl, rfl, Nat.le_of_ble_eq_true rfl, Nat.le_of_ble_eq_true rfl⟩ ⟨Nat.le_of_ble_eq_true rfl, Nat.le_of_ble_eq_true rfl⟩ hK hN hZ hP hD hS hA [] rfl rfl rfl hl.1 rfl (Nat.le_of_ble_eq_true rfl) dX9_isPlace_12 (fun r_2 hw_r_2 => ?_)
  rcases hw_r_2 with ⟨rfl, h_3, h_4⟩ | ⟨rfl, h_5⟩
  · skip
    exact W.zret (v := 1) hx hb hr rfl (fun t ht hW => ⟨1, rfl, Or.inl (x_pl (by omega) ex_1 h_3 h_4), ht⟩) (fun q h => by cases h) dX9_isPlace_15 hlk
  · skip
    exact W.zret (v := 0) hx hb hr rfl (fun t ht hW => ⟨0, rfl, Or.inr ⟨rfl, x_np3 (by omega) ex_1 h_5⟩, ht⟩) (fun q h => by cases h) dX9_isPlace_15 hlk
set_option maxHeartbeats 4000000 in
set_option maxRecDepth 100000 in
theorem c_X9_isRound (l : Launch) (D : va_G) (cI cJ cZ cS : ClassId) (ta : Nat) (sa sv : Nat → Nat) (sz : Nat) (h0 : Nat) (ys : Nat) (yk : Nat) (yo : Nat) (yt : Nat) (mk0 : Int32) (yfa : Nat) (yfe : Nat) (mL : Int32) (mS : Int32) (mM : Int32) (yro : Nat) (yhe : Nat) (ygr : Nat) (mF : Int32) (mC : Int32) (mY : Int32) (yta : Nat) (mz : Nat) (mf : Nat) (mt : Nat) (mv : Int32) (mw : Int32) (ywa : Nat) (ybi : Nat) (ysi : Nat) (ynu : Nat) (ymo : Nat) (ms : Nat → Int32) (P : Nat) (Rn : Nat) (Wn : Nat) (fae : Nat → Int32) (fal : Nat → Int32) (fau : Nat → Int32) (fao : Nat → Int32) (farn : Nat → Int32) (farp : Nat → Int32) (fak : Nat → Int32) (fawn : Nat → Int32) (fawp : Nat → Int32) (fat : Nat → Int32) (fas : Nat → Int32) (p0 : Int32) (hs0 : ms 0 = nI P) (hs1 : ms 1 = nI Rn) (hs2 : ms 2 = nI Wn) (hsS : SI ms) (hsM : MI ms) (hsp : P ≤ 10) (hsr : Rn ≤ 8) (hsw : Wn ≤ 8) (hsR : RI Rn ms) (hsG : FR P ms fae fal fau fao farn farp fak fawn fawp fat fas) : Met l yX9_isRound (Cond.code yX9_isRound cX9_isRound 2 (some .boolean) :: wsU) ({ frames := 1, cells := 0, slots := 0, locals := 25 }) (va_Pc [.ref h0, .int p0] (XW D (xT cI cJ cZ cS) ta sa sv [(h0, .inr (9, [.ref ys, .ref yk, .ref yo, .ref yt, .int mk0, .ref yfa, .ref yfe, .int mL, .int mS, .int mM, .ref yro, .ref yhe, .ref ygr, .int mF, .int mC, .int mY, .ref yta, .int (nI (mz)), .int (nI (mf)), .int (nI (mt)), .int mv, .int mw, .ref ywa, .ref ybi, .ref ysi, .ref ynu, .ref ymo])), (ys, .inl (cI, 449, .inl ms))] sz)) (vp_Si (fun r : Int32 => (∃ (k : Nat), r = 1 ∧ (p0 = nI k) ∧ (k < Rn)) ∨ (r = 0 ∧ (¬ isP Rn p0)))) 0 0 (fun _ => False) := by
  refine xh (QA := fun _ => vp_Si (fun r : Int32 => (∃ (k : Nat), r = 1 ∧ (p0 = nI k) ∧ (k < Rn)) ∨ (r = 0 ∧ (¬ isP Rn p0)))) (fr := fun _ _ => False) (by decide) (Nat.le_of_ble_eq_true rfl) ?_
  intro p e s m below meth c ls A hF hr hlk hin hsz hP hK hD hN hZ hA hS hl
  have hF : CallFix p m c cX9_isRound 2 s _ _ RX9 := hF
  have hx := hF.1
  have hb := hF.2.1
  have hml := hF.2.2.1
  have hown := hF.2.2.2.1
  have hu : ∀ w ∈ wsU, w.before _ s = true := fun w h => hF.2.2.2.2 w (List.mem_cons_of_mem _ h)
  have hl : lv_has ls 2 [(0, .ref h0), (1, .int p0)] := hl
  refine lv_iload_n hx hb dX9_isRound_0 rfl (lv_at hl 1 rfl) ?_
  refine lv_i2l (v := p0.toInt64) hx hb dX9_isRound_1 rfl ?_
  refine lv_lconst (v := 0) hx hb dX9_isRound_2 (by decide) ?_
  refine xl_l (y := (0 : Int32).toInt64) (by decide) ?_
  refine lv_aload_n hx hb dX9_isRound_3 rfl (lv_at hl 0 rfl) ?_
  refine xg hF kf_X9_7 hK hP 0 rfl rfl dX9_isRound_4 ?_
  refine lv_iconst (v := 1) hx hb dX9_isRound_7 (by decide) ?_
  refine va_iald hx hb hK hP 1 0 rfl rfl (xin 1 449 (by decide) (by decide)) dX9_isRound_8 ?_
  refine xl_i (y := nI (Rn)) hs1 ?_
  refine lv_iconst (v := 1) hx hb dX9_isRound_9 (by decide) ?_
  refine lv_isub hx hb dX9_isRound_10 ?_
  refine lv_topi (fun x_1 ex_1 => ?_)
  refine lv_i2l (v := x_1.toInt64) hx hb dX9_isRound_11 rfl ?_
  refine xc_Sr hF (c_X9_in l D cI cJ cZ cS ta sa sv s.heap.size p0 0 x_1 ) ks_X9_57 ⟨rfl, rfl, Nat.le_of_ble_eq_true rfl, Nat.le_of_ble_eq_true rfl⟩ ⟨Nat.le_of_ble_eq_true rfl, Nat.le_of_ble_eq_true rfl⟩ hK hN hZ hP hD hS hA [] rfl rfl rfl hl.1 rfl (Nat.le_of_ble_eq_true rfl) dX9_isRound_12 (fun r_2 hw_r_2 => ?_)
  rcases hw_r_2 with ⟨rfl, h_3, h_4⟩ | ⟨rfl, h_5⟩
  · skip
    exact W.zret (v := 1) hx hb hr rfl (fun t ht hW => ⟨1, rfl, Or.inl (x_pl (by omega) ex_1 h_3 h_4), ht⟩) (fun q h => by cases h) dX9_isRound_15 hlk
  · skip
    exact W.zret (v := 0) hx hb hr rfl (fun t ht hW => ⟨0, rfl, Or.inr ⟨rfl, x_np3 (by omega) ex_1 h_5⟩, ht⟩) (fun q h => by cases h) dX9_isRound_15 hlk
set_option maxHeartbeats 4000000 in
set_option maxRecDepth 100000 in
theorem c_X9_areTwo (l : Launch) (D : va_G) (cI cJ cZ cS : ClassId) (ta : Nat) (sa sv : Nat → Nat) (sz : Nat) (h0 : Nat) (ys : Nat) (yk : Nat) (yo : Nat) (yt : Nat) (mk0 : Int32) (yfa : Nat) (yfe : Nat) (mL : Int32) (mS : Int32) (mM : Int32) (yro : Nat) (yhe : Nat) (ygr : Nat) (mF : Int32) (mC : Int32) (mY : Int32) (yta : Nat) (mz : Nat) (mf : Nat) (mt : Nat) (mv : Int32) (mw : Int32) (ywa : Nat) (ybi : Nat) (ysi : Nat) (ynu : Nat) (ymo : Nat) (ms : Nat → Int32) (P : Nat) (Rn : Nat) (Wn : Nat) (fae : Nat → Int32) (fal : Nat → Int32) (fau : Nat → Int32) (fao : Nat → Int32) (farn : Nat → Int32) (farp : Nat → Int32) (fak : Nat → Int32) (fawn : Nat → Int32) (fawp : Nat → Int32) (fat : Nat → Int32) (fas : Nat → Int32) (p0 : Int32) (p1 : Int32) (hs0 : ms 0 = nI P) (hs1 : ms 1 = nI Rn) (hs2 : ms 2 = nI Wn) (hsS : SI ms) (hsM : MI ms) (hsp : P ≤ 10) (hsr : Rn ≤ 8) (hsw : Wn ≤ 8) (hsR : RI Rn ms) (hsG : FR P ms fae fal fau fao farn farp fak fawn fawp fat fas) : Met l yX9_areTwo (Cond.code yX9_areTwo cX9_areTwo 3 (some .boolean) :: wsU) ({ frames := 2, cells := 0, slots := 0, locals := 46 }) (va_Pc [.ref h0, .int p0, .int p1] (XW D (xT cI cJ cZ cS) ta sa sv [(h0, .inr (9, [.ref ys, .ref yk, .ref yo, .ref yt, .int mk0, .ref yfa, .ref yfe, .int mL, .int mS, .int mM, .ref yro, .ref yhe, .ref ygr, .int mF, .int mC, .int mY, .ref yta, .int (nI (mz)), .int (nI (mf)), .int (nI (mt)), .int mv, .int mw, .ref ywa, .ref ybi, .ref ysi, .ref ynu, .ref ymo])), (ys, .inl (cI, 449, .inl ms))] sz)) (vp_Si (fun r : Int32 => (∃ (j : Nat) (k : Nat), r = 1 ∧ (p0 = nI j) ∧ (p1 = nI k) ∧ (j < P) ∧ (k < P) ∧ (j ≠ k)) ∨ (r = 0 ∧ (¬ twoP P p0 p1)))) 0 0 (fun _ => False) := by
  refine xh (QA := fun _ => vp_Si (fun r : Int32 => (∃ (j : Nat) (k : Nat), r = 1 ∧ (p0 = nI j) ∧ (p1 = nI k) ∧ (j < P) ∧ (k < P) ∧ (j ≠ k)) ∨ (r = 0 ∧ (¬ twoP P p0 p1)))) (fr := fun _ _ => False) (by decide) (Nat.le_of_ble_eq_true rfl) ?_
  intro p e s m below meth c ls A hF hr hlk hin hsz hP hK hD hN hZ hA hS hl
  have hF : CallFix p m c cX9_areTwo 3 s _ _ RX9 := hF
  have hx := hF.1
  have hb := hF.2.1
  have hml := hF.2.2.1
  have hown := hF.2.2.2.1
  have hu : ∀ w ∈ wsU, w.before _ s = true := fun w h => hF.2.2.2.2 w (List.mem_cons_of_mem _ h)
  have hl : lv_has ls 3 [(0, .ref h0), (1, .int p0), (2, .int p1)] := hl
  refine lv_aload_n hx hb dX9_areTwo_0 rfl (lv_at hl 0 rfl) ?_
  refine lv_iload_n hx hb dX9_areTwo_1 rfl (lv_at hl 1 rfl) ?_
  refine xc_Vr hF (c_X9_isPlace l D cI cJ cZ cS ta sa sv s.heap.size h0 ys yk yo yt mk0 yfa yfe mL mS mM yro yhe ygr mF mC mY yta mz mf mt mv mw ywa ybi ysi ynu ymo ms P Rn Wn fae fal fau fao farn farp fak fawn fawp fat fas p0 hs0 hs1 hs2 hsS hsM hsp hsr hsw hsR hsG) kv_X9_61 ⟨rfl, rfl, Nat.le_of_ble_eq_true rfl, Nat.le_of_ble_eq_true rfl⟩ ⟨Nat.le_of_ble_eq_true rfl, Nat.le_of_ble_eq_true rfl⟩ hK hN hZ hP hD hS hA [0, 1] rfl rfl 0 rfl rfl rfl rfl hl.1 rfl (Nat.le_of_ble_eq_true rfl) dX9_areTwo_2 (fun r_1 hw_r_1 => ?_)
  rcases hw_r_1 with ⟨k_2, rfl, rfl, h_4⟩ | ⟨rfl, h_5⟩
  · skip
    refine lv_if_eq (tgt := 25) hx hb dX9_areTwo_5 (by decide) (fun c_6 => absurd c_6 (by decide)) (fun c_6 => ?_)
    refine lv_aload_n hx hb dX9_areTwo_8 rfl (lv_at hl 0 rfl) ?_
    refine lv_iload_n hx hb dX9_areTwo_9 rfl (lv_at hl 2 rfl) ?_
    refine xc_Vr hF (c_X9_isPlace l D cI cJ cZ cS ta sa sv s.heap.size h0 ys yk yo yt mk0 yfa yfe mL mS mM yro yhe ygr mF mC mY yta mz mf mt mv mw ywa ybi ysi ynu ymo ms P Rn Wn fae fal fau fao farn farp fak fawn fawp fat fas p1 hs0 hs1 hs2 hsS hsM hsp hsr hsw hsR hsG) kv_X9_61 ⟨rfl, rfl, Nat.le_of_ble_eq_true rfl, Nat.le_of_ble_eq_true rfl⟩ ⟨Nat.le_of_ble_eq_true rfl, Nat.le_of_ble_eq_true rfl⟩ hK hN hZ hP hD hS hA [0, 1] rfl rfl 0 rfl rfl rfl rfl hl.1 rfl (Nat.le_of_ble_eq_true rfl) dX9_areTwo_10 (fun r_7 hw_r_7 => ?_)
    rcases hw_r_7 with ⟨k_8, rfl, rfl, h_10⟩ | ⟨rfl, h_11⟩
    · skip
      refine lv_if_eq (tgt := 25) hx hb dX9_areTwo_13 (by decide) (fun c_12 => absurd c_12 (by decide)) (fun c_12 => ?_)
      refine lv_iload_n hx hb dX9_areTwo_16 rfl (lv_at hl 1 rfl) ?_
      refine lv_iload_n hx hb dX9_areTwo_17 rfl (lv_at hl 2 rfl) ?_
      refine lv_icmp_eq (tgt := 25) hx hb dX9_areTwo_18 (by decide) (fun c_13 => ?_) (fun c_13 => ?_)
      · skip
        have nc_13 : k_2 = k_8 := xn_eq (a := k_2) (b := k_8) (by omega) (by omega) c_13
        refine lv_iconst (v := 0) hx hb dX9_areTwo_25 (by decide) ?_
        exact W.zret (v := 0) hx hb hr rfl (fun t ht hW => ⟨0, rfl, Or.inr ⟨rfl, fun h => by first | exact absurd h.1 (by assumption) | exact absurd h.2.1 (by assumption) | exact h.2.2 (by assumption)⟩, ht⟩) (fun q h => by cases h) dX9_areTwo_26 hlk
      · skip
        have nc_13 : k_2 ≠ k_8 := xn_ne (a := k_2) (b := k_8) (by omega) (by omega) c_13
        refine lv_iconst (v := 1) hx hb dX9_areTwo_21 (by decide) ?_
        refine lv_goto (tgt := 26) hx hb dX9_areTwo_22 (by decide) ?_
        exact W.zret (v := 1) hx hb hr rfl (fun t ht hW => ⟨1, rfl, Or.inl ⟨k_2, k_8, rfl, rfl, rfl, by omega, by omega, by omega⟩, ht⟩) (fun q h => by cases h) dX9_areTwo_26 hlk
    · skip
      refine lv_if_eq (tgt := 25) hx hb dX9_areTwo_13 (by decide) (fun c_14 => ?_) (fun c_14 => absurd (by decide) c_14)
      refine lv_iconst (v := 0) hx hb dX9_areTwo_25 (by decide) ?_
      exact W.zret (v := 0) hx hb hr rfl (fun t ht hW => ⟨0, rfl, Or.inr ⟨rfl, fun h => by first | exact absurd h.1 (by assumption) | exact absurd h.2.1 (by assumption) | exact h.2.2 (by assumption)⟩, ht⟩) (fun q h => by cases h) dX9_areTwo_26 hlk
  · skip
    refine lv_if_eq (tgt := 25) hx hb dX9_areTwo_5 (by decide) (fun c_15 => ?_) (fun c_15 => absurd (by decide) c_15)
    refine lv_iconst (v := 0) hx hb dX9_areTwo_25 (by decide) ?_
    exact W.zret (v := 0) hx hb hr rfl (fun t ht hW => ⟨0, rfl, Or.inr ⟨rfl, fun h => by first | exact absurd h.1 (by assumption) | exact absurd h.2.1 (by assumption) | exact h.2.2 (by assumption)⟩, ht⟩) (fun q h => by cases h) dX9_areTwo_26 hlk
set_option maxHeartbeats 4000000 in
set_option maxRecDepth 100000 in
theorem c_X9_isOpen (l : Launch) (D : va_G) (cI cJ cZ cS : ClassId) (ta : Nat) (sa sv : Nat → Nat) (sz : Nat) (h0 : Nat) (ys : Nat) (yk : Nat) (yo : Nat) (yt : Nat) (mk0 : Int32) (yfa : Nat) (yfe : Nat) (mL : Int32) (mS : Int32) (mM : Int32) (yro : Nat) (yhe : Nat) (ygr : Nat) (mF : Int32) (mC : Int32) (mY : Int32) (yta : Nat) (mz : Nat) (mf : Nat) (mt : Nat) (mv : Int32) (mw : Int32) (ywa : Nat) (ybi : Nat) (ysi : Nat) (ynu : Nat) (ymo : Nat) (ms : Nat → Int32) (P : Nat) (Rn : Nat) (Wn : Nat) (fae : Nat → Int32) (fal : Nat → Int32) (fau : Nat → Int32) (fao : Nat → Int32) (farn : Nat → Int32) (farp : Nat → Int32) (fak : Nat → Int32) (fawn : Nat → Int32) (fawp : Nat → Int32) (fat : Nat → Int32) (fas : Nat → Int32) (j : Nat) (k : Nat) (hj : j < 10) (hk : k < 10) (hs0 : ms 0 = nI P) (hs1 : ms 1 = nI Rn) (hs2 : ms 2 = nI Wn) (hsS : SI ms) (hsM : MI ms) (hsp : P ≤ 10) (hsr : Rn ≤ 8) (hsw : Wn ≤ 8) (hsR : RI Rn ms) (hsG : FR P ms fae fal fau fao farn farp fak fawn fawp fat fas) : Met l yX9_isOpen (Cond.code yX9_isOpen cX9_isOpen 3 (some .boolean) :: wsU) ({ frames := 0, cells := 0, slots := 0, locals := 0 }) (va_Pc [.ref h0, .int (nI (j)), .int (nI (k))] (XW D (xT cI cJ cZ cS) ta sa sv [(h0, .inr (9, [.ref ys, .ref yk, .ref yo, .ref yt, .int mk0, .ref yfa, .ref yfe, .int mL, .int mS, .int mM, .ref yro, .ref yhe, .ref ygr, .int mF, .int mC, .int mY, .ref yta, .int (nI (mz)), .int (nI (mf)), .int (nI (mt)), .int mv, .int mw, .ref ywa, .ref ybi, .ref ysi, .ref ynu, .ref ymo])), (ys, .inl (cI, 449, .inl ms))] sz)) (vp_Si (fun r : Int32 => (r = 1 ∧ (ms (213 + 10 * j + k) = 1)) ∨ (r = 0 ∧ (¬ ms (213 + 10 * j + k) = 1)))) 0 0 (fun _ => False) := by
  refine xh (QA := fun _ => vp_Si (fun r : Int32 => (r = 1 ∧ (ms (213 + 10 * j + k) = 1)) ∨ (r = 0 ∧ (¬ ms (213 + 10 * j + k) = 1)))) (fr := fun _ _ => False) (by decide) (Nat.le_of_ble_eq_true rfl) ?_
  intro p e s m below meth c ls A hF hr hlk hin hsz hP hK hD hN hZ hA hS hl
  have hF : CallFix p m c cX9_isOpen 3 s _ _ RX9 := hF
  have hx := hF.1
  have hb := hF.2.1
  have hml := hF.2.2.1
  have hown := hF.2.2.2.1
  have hu : ∀ w ∈ wsU, w.before _ s = true := fun w h => hF.2.2.2.2 w (List.mem_cons_of_mem _ h)
  have hl : lv_has ls 3 [(0, .ref h0), (1, .int (nI (j))), (2, .int (nI (k)))] := hl
  refine lv_aload_n hx hb dX9_isOpen_0 rfl (lv_at hl 0 rfl) ?_
  refine xg hF kf_X9_7 hK hP 0 rfl rfl dX9_isOpen_1 ?_
  refine lv_sipush (v := 213) hx hb dX9_isOpen_4 (by decide) ?_
  refine lv_bipush (v := 10) hx hb dX9_isOpen_7 (by decide) ?_
  refine lv_iload_n hx hb dX9_isOpen_9 rfl (lv_at hl 1 rfl) ?_
  refine lv_imul hx hb dX9_isOpen_10 ?_
  refine xl_i (y := nI (10 * j)) (pk_mul 10 j) ?_
  refine lv_iadd hx hb dX9_isOpen_11 ?_
  refine xl_i (y := nI (213 + (10 * j))) (nI_add 213 (10 * j)) ?_
  refine lv_iload_n hx hb dX9_isOpen_12 rfl (lv_at hl 2 rfl) ?_
  refine lv_iadd hx hb dX9_isOpen_13 ?_
  refine xl_i (y := nI (213 + (10 * j) + k)) (nI_add (213 + (10 * j)) k) ?_
  refine va_iald hx hb hK hP 1 0 rfl rfl (vp_in_nI (show 213 + (10 * j) + k < 449 by omega) (by decide)) dX9_isOpen_14 ?_
  refine xl_i (y := ms (213 + (10 * j) + k)) (congrArg ms (nI_clamp (show 213 + (10 * j) + k < 2 ^ 31 by omega))) ?_
  refine lv_iconst (v := 1) hx hb dX9_isOpen_15 (by decide) ?_
  refine lv_icmp_ne (tgt := 23) hx hb dX9_isOpen_16 (by decide) (fun c_1 => ?_) (fun c_1 => ?_)
  · skip
    refine lv_iconst (v := 0) hx hb dX9_isOpen_23 (by decide) ?_
    exact W.zret (v := 0) hx hb hr rfl (fun t ht hW => ⟨0, rfl, (by first | exact Or.inr (⟨rfl, (by first | assumption | omega | exact Or.inl (by first | assumption | omega) | exact Or.inr (by first | assumption | omega))⟩)), ht⟩) (fun q h => by cases h) dX9_isOpen_24 hlk
  · skip
    refine lv_iconst (v := 1) hx hb dX9_isOpen_19 (by decide) ?_
    refine lv_goto (tgt := 24) hx hb dX9_isOpen_20 (by decide) ?_
    exact W.zret (v := 1) hx hb hr rfl (fun t ht hW => ⟨1, rfl, (by first | exact Or.inl ⟨rfl, (by first | assumption | omega | exact Or.inl (by first | assumption | omega) | exact Or.inr (by first | assumption | omega))⟩), ht⟩) (fun q h => by cases h) dX9_isOpen_24 hlk
set_option maxHeartbeats 4000000 in
set_option maxRecDepth 100000 in
theorem c_X9_isWay (l : Launch) (D : va_G) (cI cJ cZ cS : ClassId) (ta : Nat) (sa sv : Nat → Nat) (sz : Nat) (h0 : Nat) (ys : Nat) (yk : Nat) (yo : Nat) (yt : Nat) (mk0 : Int32) (yfa : Nat) (yfe : Nat) (mL : Int32) (mS : Int32) (mM : Int32) (yro : Nat) (yhe : Nat) (ygr : Nat) (mF : Int32) (mC : Int32) (mY : Int32) (yta : Nat) (mz : Nat) (mf : Nat) (mt : Nat) (mv : Int32) (mw : Int32) (ywa : Nat) (ybi : Nat) (ysi : Nat) (ynu : Nat) (ymo : Nat) (ms : Nat → Int32) (P : Nat) (Rn : Nat) (Wn : Nat) (fae : Nat → Int32) (fal : Nat → Int32) (fau : Nat → Int32) (fao : Nat → Int32) (farn : Nat → Int32) (farp : Nat → Int32) (fak : Nat → Int32) (fawn : Nat → Int32) (fawp : Nat → Int32) (fat : Nat → Int32) (fas : Nat → Int32) (j : Nat) (k : Nat) (hj : j < 10) (hk : k < 10) (hs0 : ms 0 = nI P) (hs1 : ms 1 = nI Rn) (hs2 : ms 2 = nI Wn) (hsS : SI ms) (hsM : MI ms) (hsp : P ≤ 10) (hsr : Rn ≤ 8) (hsw : Wn ≤ 8) (hsR : RI Rn ms) (hsG : FR P ms fae fal fau fao farn farp fak fawn fawp fat fas) : Met l yX9_isWay (Cond.code yX9_isWay cX9_isWay 3 (some .boolean) :: wsU) ({ frames := 0, cells := 0, slots := 0, locals := 0 }) (va_Pc [.ref h0, .int (nI (j)), .int (nI (k))] (XW D (xT cI cJ cZ cS) ta sa sv [(h0, .inr (9, [.ref ys, .ref yk, .ref yo, .ref yt, .int mk0, .ref yfa, .ref yfe, .int mL, .int mS, .int mM, .ref yro, .ref yhe, .ref ygr, .int mF, .int mC, .int mY, .ref yta, .int (nI (mz)), .int (nI (mf)), .int (nI (mt)), .int mv, .int mw, .ref ywa, .ref ybi, .ref ysi, .ref ynu, .ref ymo])), (ys, .inl (cI, 449, .inl ms))] sz)) (vp_Si (fun r : Int32 => (r = 1) ∨ (r = 0))) 0 0 (fun _ => False) := by
  refine xh (QA := fun _ => vp_Si (fun r : Int32 => (r = 1) ∨ (r = 0))) (fr := fun _ _ => False) (by decide) (Nat.le_of_ble_eq_true rfl) ?_
  intro p e s m below meth c ls A hF hr hlk hin hsz hP hK hD hN hZ hA hS hl
  have hF : CallFix p m c cX9_isWay 3 s _ _ RX9 := hF
  have hx := hF.1
  have hb := hF.2.1
  have hml := hF.2.2.1
  have hown := hF.2.2.2.1
  have hu : ∀ w ∈ wsU, w.before _ s = true := fun w h => hF.2.2.2.2 w (List.mem_cons_of_mem _ h)
  have hl : lv_has ls 3 [(0, .ref h0), (1, .int (nI (j))), (2, .int (nI (k)))] := hl
  refine lv_aload_n hx hb dX9_isWay_0 rfl (lv_at hl 0 rfl) ?_
  refine xg hF kf_X9_7 hK hP 0 rfl rfl dX9_isWay_1 ?_
  refine lv_sipush (v := 213) hx hb dX9_isWay_4 (by decide) ?_
  refine lv_bipush (v := 10) hx hb dX9_isWay_7 (by decide) ?_
  refine lv_iload_n hx hb dX9_isWay_9 rfl (lv_at hl 1 rfl) ?_
  refine lv_imul hx hb dX9_isWay_10 ?_
  refine xl_i (y := nI (10 * j)) (pk_mul 10 j) ?_
  refine lv_iadd hx hb dX9_isWay_11 ?_
  refine xl_i (y := nI (213 + (10 * j))) (nI_add 213 (10 * j)) ?_
  refine lv_iload_n hx hb dX9_isWay_12 rfl (lv_at hl 2 rfl) ?_
  refine lv_iadd hx hb dX9_isWay_13 ?_
  refine xl_i (y := nI (213 + (10 * j) + k)) (nI_add (213 + (10 * j)) k) ?_
  refine va_iald hx hb hK hP 1 0 rfl rfl (vp_in_nI (show 213 + (10 * j) + k < 449 by omega) (by decide)) dX9_isWay_14 ?_
  refine xl_i (y := ms (213 + (10 * j) + k)) (congrArg ms (nI_clamp (show 213 + (10 * j) + k < 2 ^ 31 by omega))) ?_
  refine lv_if_le (tgt := 22) hx hb dX9_isWay_15 (by decide) (fun c_1 => ?_) (fun c_1 => ?_)
  · skip
    refine lv_iconst (v := 0) hx hb dX9_isWay_22 (by decide) ?_
    exact W.zret (v := 0) hx hb hr rfl (fun t ht hW => ⟨0, rfl, (by first | exact Or.inr (rfl)), ht⟩) (fun q h => by cases h) dX9_isWay_23 hlk
  · skip
    refine lv_iconst (v := 1) hx hb dX9_isWay_18 (by decide) ?_
    refine lv_goto (tgt := 23) hx hb dX9_isWay_19 (by decide) ?_
    exact W.zret (v := 1) hx hb hr rfl (fun t ht hW => ⟨1, rfl, (by first | exact Or.inl rfl), ht⟩) (fun q h => by cases h) dX9_isWay_23 hlk
set_option maxHeartbeats 4000000 in
set_option maxRecDepth 100000 in
theorem c_X9_isWayF (l : Launch) (D : va_G) (cI cJ cZ cS : ClassId) (ta : Nat) (sa sv : Nat → Nat) (sz : Nat) (h0 : Nat) (ys : Nat) (yk : Nat) (yo : Nat) (yt : Nat) (mk0 : Int32) (yfa : Nat) (yfe : Nat) (mL : Int32) (mS : Int32) (mM : Int32) (yro : Nat) (yhe : Nat) (ygr : Nat) (mF : Int32) (mC : Int32) (mY : Int32) (yta : Nat) (mz : Nat) (mf : Nat) (mt : Nat) (mv : Int32) (mw : Int32) (ywa : Nat) (ybi : Nat) (ysi : Nat) (ynu : Nat) (ymo : Nat) (ms : Nat → Int32) (P : Nat) (Rn : Nat) (Wn : Nat) (fae : Nat → Int32) (fal : Nat → Int32) (fau : Nat → Int32) (fao : Nat → Int32) (farn : Nat → Int32) (farp : Nat → Int32) (fak : Nat → Int32) (fawn : Nat → Int32) (fawp : Nat → Int32) (fat : Nat → Int32) (fas : Nat → Int32) (j : Nat) (k : Nat) (hj : j < 10) (hk : k < 10) (hs0 : ms 0 = nI P) (hs1 : ms 1 = nI Rn) (hs2 : ms 2 = nI Wn) (hsS : SI ms) (hsM : MI ms) (hsp : P ≤ 10) (hsr : Rn ≤ 8) (hsw : Wn ≤ 8) (hsR : RI Rn ms) (hsG : FR P ms fae fal fau fao farn farp fak fawn fawp fat fas) : Met l yX9_isWay (Cond.code yX9_isWay cX9_isWay 3 (some .boolean) :: wsU) ({ frames := 0, cells := 0, slots := 0, locals := 0 }) (va_Pc [.ref h0, .int (nI (j)), .int (nI (k))] (XW D (xT cI cJ cZ cS) ta sa sv [(h0, .inr (9, [.ref ys, .ref yk, .ref yo, .ref yt, .int mk0, .ref yfa, .ref yfe, .int mL, .int mS, .int mM, .ref yro, .ref yhe, .ref ygr, .int mF, .int mC, .int mY, .ref yta, .int (nI (mz)), .int (nI (mf)), .int (nI (mt)), .int mv, .int mw, .ref ywa, .ref ybi, .ref ysi, .ref ynu, .ref ymo])), (ys, .inl (cI, 449, .inl ms))] sz)) (vp_Si (fun r : Int32 => (r = 1 ∧ (¬ fao (10 * j + k) = 0)) ∨ (r = 0 ∧ (fao (10 * j + k) = 0)))) 0 0 (fun _ => False) := by
  refine xh (QA := fun _ => vp_Si (fun r : Int32 => (r = 1 ∧ (¬ fao (10 * j + k) = 0)) ∨ (r = 0 ∧ (fao (10 * j + k) = 0)))) (fr := fun _ _ => False) (by decide) (Nat.le_of_ble_eq_true rfl) ?_
  intro p e s m below meth c ls A hF hr hlk hin hsz hP hK hD hN hZ hA hS hl
  have hF : CallFix p m c cX9_isWay 3 s _ _ RX9 := hF
  have hx := hF.1
  have hb := hF.2.1
  have hml := hF.2.2.1
  have hown := hF.2.2.2.1
  have hu : ∀ w ∈ wsU, w.before _ s = true := fun w h => hF.2.2.2.2 w (List.mem_cons_of_mem _ h)
  have hl : lv_has ls 3 [(0, .ref h0), (1, .int (nI (j))), (2, .int (nI (k)))] := hl
  refine lv_aload_n hx hb dX9_isWay_0 rfl (lv_at hl 0 rfl) ?_
  refine xg hF kf_X9_7 hK hP 0 rfl rfl dX9_isWay_1 ?_
  refine lv_sipush (v := 213) hx hb dX9_isWay_4 (by decide) ?_
  refine lv_bipush (v := 10) hx hb dX9_isWay_7 (by decide) ?_
  refine lv_iload_n hx hb dX9_isWay_9 rfl (lv_at hl 1 rfl) ?_
  refine lv_imul hx hb dX9_isWay_10 ?_
  refine xl_i (y := nI (10 * j)) (pk_mul 10 j) ?_
  refine lv_iadd hx hb dX9_isWay_11 ?_
  refine xl_i (y := nI (213 + (10 * j))) (nI_add 213 (10 * j)) ?_
  refine lv_iload_n hx hb dX9_isWay_12 rfl (lv_at hl 2 rfl) ?_
  refine lv_iadd hx hb dX9_isWay_13 ?_
  refine xl_i (y := nI (213 + (10 * j) + k)) (nI_add (213 + (10 * j)) k) ?_
  refine va_iald hx hb hK hP 1 0 rfl rfl (vp_in_nI (show 213 + (10 * j) + k < 449 by omega) (by decide)) dX9_isWay_14 ?_
  refine xl_i (y := ms (213 + (10 * j) + k)) (congrArg ms (nI_clamp (show 213 + (10 * j) + k < 2 ^ 31 by omega))) ?_
  refine xl_i (y := fao (10 * j + k)) (FR.go hsG (show 10 * j + k < 100 by omega) (by omega)) ?_
  refine lv_if_le (tgt := 22) hx hb dX9_isWay_15 (by decide) (fun c_1 => ?_) (fun c_1 => ?_)
  · skip
    refine lv_iconst (v := 0) hx hb dX9_isWay_22 (by decide) ?_
    exact W.zret (v := 0) hx hb hr rfl (fun t ht hW => ⟨0, rfl, Or.inr ⟨rfl, hsG.npos (by omega) (Int32.not_lt.mpr c_1)⟩, ht⟩) (fun q h => by cases h) dX9_isWay_23 hlk
  · skip
    refine lv_iconst (v := 1) hx hb dX9_isWay_18 (by decide) ?_
    refine lv_goto (tgt := 23) hx hb dX9_isWay_19 (by decide) ?_
    exact W.zret (v := 1) hx hb hr rfl (fun t ht hW => ⟨1, rfl, Or.inl ⟨rfl, hsG.pos (by omega) (Int32.not_le.mp c_1)⟩, ht⟩) (fun q h => by cases h) dX9_isWay_23 hlk
set_option maxHeartbeats 4000000 in
set_option maxRecDepth 100000 in
theorem c_X9_miles (l : Launch) (D : va_G) (cI cJ cZ cS : ClassId) (ta : Nat) (sa sv : Nat → Nat) (sz : Nat) (h0 : Nat) (ys : Nat) (yk : Nat) (yo : Nat) (yt : Nat) (mk0 : Int32) (yfa : Nat) (yfe : Nat) (mL : Int32) (mS : Int32) (mM : Int32) (yro : Nat) (yhe : Nat) (ygr : Nat) (mF : Int32) (mC : Int32) (mY : Int32) (yta : Nat) (mz : Nat) (mf : Nat) (mt : Nat) (mv : Int32) (mw : Int32) (ywa : Nat) (ybi : Nat) (ysi : Nat) (ynu : Nat) (ymo : Nat) (ms : Nat → Int32) (P : Nat) (Rn : Nat) (Wn : Nat) (fae : Nat → Int32) (fal : Nat → Int32) (fau : Nat → Int32) (fao : Nat → Int32) (farn : Nat → Int32) (farp : Nat → Int32) (fak : Nat → Int32) (fawn : Nat → Int32) (fawp : Nat → Int32) (fat : Nat → Int32) (fas : Nat → Int32) (j : Nat) (k : Nat) (hj : j < 10) (hk : k < 10) (hs0 : ms 0 = nI P) (hs1 : ms 1 = nI Rn) (hs2 : ms 2 = nI Wn) (hsS : SI ms) (hsM : MI ms) (hsp : P ≤ 10) (hsr : Rn ≤ 8) (hsw : Wn ≤ 8) (hsR : RI Rn ms) (hsG : FR P ms fae fal fau fao farn farp fak fawn fawp fat fas) : Met l yX9_miles (Cond.code yX9_miles cX9_miles 3 (some .int) :: wsU) ({ frames := 0, cells := 0, slots := 0, locals := 0 }) (va_Pc [.ref h0, .int (nI (j)), .int (nI (k))] (XW D (xT cI cJ cZ cS) ta sa sv [(h0, .inr (9, [.ref ys, .ref yk, .ref yo, .ref yt, .int mk0, .ref yfa, .ref yfe, .int mL, .int mS, .int mM, .ref yro, .ref yhe, .ref ygr, .int mF, .int mC, .int mY, .ref yta, .int (nI (mz)), .int (nI (mf)), .int (nI (mt)), .int mv, .int mw, .ref ywa, .ref ybi, .ref ysi, .ref ynu, .ref ymo])), (ys, .inl (cI, 449, .inl ms))] sz)) (vp_Si (fun r : Int32 => (r = ms (13 + 10 * j + k)))) 0 0 (fun _ => False) := by
  refine xh (QA := fun _ => vp_Si (fun r : Int32 => (r = ms (13 + 10 * j + k)))) (fr := fun _ _ => False) (by decide) (Nat.le_of_ble_eq_true rfl) ?_
  intro p e s m below meth c ls A hF hr hlk hin hsz hP hK hD hN hZ hA hS hl
  have hF : CallFix p m c cX9_miles 3 s _ _ RX9 := hF
  have hx := hF.1
  have hb := hF.2.1
  have hml := hF.2.2.1
  have hown := hF.2.2.2.1
  have hu : ∀ w ∈ wsU, w.before _ s = true := fun w h => hF.2.2.2.2 w (List.mem_cons_of_mem _ h)
  have hl : lv_has ls 3 [(0, .ref h0), (1, .int (nI (j))), (2, .int (nI (k)))] := hl
  refine lv_aload_n hx hb dX9_miles_0 rfl (lv_at hl 0 rfl) ?_
  refine xg hF kf_X9_7 hK hP 0 rfl rfl dX9_miles_1 ?_
  refine lv_bipush (v := 13) hx hb dX9_miles_4 (by decide) ?_
  refine lv_bipush (v := 10) hx hb dX9_miles_6 (by decide) ?_
  refine lv_iload_n hx hb dX9_miles_8 rfl (lv_at hl 1 rfl) ?_
  refine lv_imul hx hb dX9_miles_9 ?_
  refine xl_i (y := nI (10 * j)) (pk_mul 10 j) ?_
  refine lv_iadd hx hb dX9_miles_10 ?_
  refine xl_i (y := nI (13 + (10 * j))) (nI_add 13 (10 * j)) ?_
  refine lv_iload_n hx hb dX9_miles_11 rfl (lv_at hl 2 rfl) ?_
  refine lv_iadd hx hb dX9_miles_12 ?_
  refine xl_i (y := nI (13 + (10 * j) + k)) (nI_add (13 + (10 * j)) k) ?_
  refine va_iald hx hb hK hP 1 0 rfl rfl (vp_in_nI (show 13 + (10 * j) + k < 449 by omega) (by decide)) dX9_miles_13 ?_
  refine xl_i (y := ms (13 + (10 * j) + k)) (congrArg ms (nI_clamp (show 13 + (10 * j) + k < 2 ^ 31 by omega))) ?_
  exact W.iret (v := ms (13 + (10 * j) + k)) hx hb hr (fun t ht hW => ⟨ms (13 + (10 * j) + k), rfl, (by first | exact rfl), ht⟩) (fun q h => by cases h) dX9_miles_14 hlk
set_option maxHeartbeats 4000000 in
set_option maxRecDepth 100000 in
theorem c_X9_areEnds (l : Launch) (D : va_G) (cI cJ cZ cS : ClassId) (ta : Nat) (sa sv : Nat → Nat) (sz : Nat) (p0 : Int32) (p1 : Int32) : Met l yX9_areEnds (Cond.code yX9_areEnds cX9_areEnds 2 (some .boolean) :: wsU) ({ frames := 1, cells := 0, slots := 0, locals := 25 }) (va_Pc [.int p0, .int p1] (XW D (xT cI cJ cZ cS) ta sa sv [] sz)) (vp_Si (fun r : Int32 => (r = 1 ∧ (ends p0 p1)) ∨ (r = 0 ∧ (¬ ends p0 p1)))) 0 0 (fun _ => False) := by
  refine xh (QA := fun _ => vp_Si (fun r : Int32 => (r = 1 ∧ (ends p0 p1)) ∨ (r = 0 ∧ (¬ ends p0 p1)))) (fr := fun _ _ => False) (by decide) (Nat.le_of_ble_eq_true rfl) ?_
  intro p e s m below meth c ls A hF hr hlk hin hsz hP hK hD hN hZ hA hS hl
  have hF : CallFix p m c cX9_areEnds 2 s _ _ RX9 := hF
  have hx := hF.1
  have hb := hF.2.1
  have hml := hF.2.2.1
  have hown := hF.2.2.2.1
  have hu : ∀ w ∈ wsU, w.before _ s = true := fun w h => hF.2.2.2.2 w (List.mem_cons_of_mem _ h)
  have hl : lv_has ls 2 [(0, .int p0), (1, .int p1)] := hl
  refine lv_iload_n hx hb dX9_areEnds_0 rfl (lv_at hl 0 rfl) ?_
  refine lv_i2l (v := p0.toInt64) hx hb dX9_areEnds_1 rfl ?_
  refine lv_ldc2 (v := (-99)) hx hb hown (hu _ uw659) dX9_areEnds_2 ?_
  refine xl_l (y := (-99 : Int32).toInt64) (by decide) ?_
  refine lv_ldc2 (v := 999) hx hb hown (hu _ uw660) dX9_areEnds_5 ?_
  refine xl_l (y := (999 : Int32).toInt64) (by decide) ?_
  refine xc_Sr hF (c_X9_in l D cI cJ cZ cS ta sa sv s.heap.size p0 (-99) 999 ) ks_X9_57 ⟨rfl, rfl, Nat.le_of_ble_eq_true rfl, Nat.le_of_ble_eq_true rfl⟩ ⟨Nat.le_of_ble_eq_true rfl, Nat.le_of_ble_eq_true rfl⟩ hK hN hZ hP hD hS hA [] rfl rfl rfl hl.1 rfl (Nat.le_of_ble_eq_true rfl) dX9_areEnds_8 (fun r_1 hw_r_1 => ?_)
  rcases hw_r_1 with ⟨rfl, h_2, h_3⟩ | ⟨rfl, h_4⟩
  · skip
    refine lv_if_eq (tgt := 31) hx hb dX9_areEnds_11 (by decide) (fun c_5 => absurd c_5 (by decide)) (fun c_5 => ?_)
    refine lv_iload_n hx hb dX9_areEnds_14 rfl (lv_at hl 1 rfl) ?_
    refine lv_i2l (v := p1.toInt64) hx hb dX9_areEnds_15 rfl ?_
    refine lv_iload_n hx hb dX9_areEnds_16 rfl (lv_at hl 0 rfl) ?_
    refine lv_i2l (v := p0.toInt64) hx hb dX9_areEnds_17 rfl ?_
    refine lv_ldc2 (v := 999) hx hb hown (hu _ uw660) dX9_areEnds_18 ?_
    refine xl_l (y := (999 : Int32).toInt64) (by decide) ?_
    refine xc_Sr hF (c_X9_in l D cI cJ cZ cS ta sa sv s.heap.size p1 p0 999 ) ks_X9_57 ⟨rfl, rfl, Nat.le_of_ble_eq_true rfl, Nat.le_of_ble_eq_true rfl⟩ ⟨Nat.le_of_ble_eq_true rfl, Nat.le_of_ble_eq_true rfl⟩ hK hN hZ hP hD hS hA [] rfl rfl rfl hl.1 rfl (Nat.le_of_ble_eq_true rfl) dX9_areEnds_21 (fun r_6 hw_r_6 => ?_)
    rcases hw_r_6 with ⟨rfl, h_7, h_8⟩ | ⟨rfl, h_9⟩
    · skip
      refine lv_if_eq (tgt := 31) hx hb dX9_areEnds_24 (by decide) (fun c_10 => absurd c_10 (by decide)) (fun c_10 => ?_)
      refine lv_iconst (v := 1) hx hb dX9_areEnds_27 (by decide) ?_
      refine lv_goto (tgt := 32) hx hb dX9_areEnds_28 (by decide) ?_
      exact W.zret (v := 1) hx hb hr rfl (fun t ht hW => ⟨1, rfl, Or.inl ⟨rfl, h_2, h_7, h_8⟩, ht⟩) (fun q h => by cases h) dX9_areEnds_32 hlk
    · skip
      refine lv_if_eq (tgt := 31) hx hb dX9_areEnds_24 (by decide) (fun c_11 => ?_) (fun c_11 => absurd (by decide) c_11)
      refine lv_iconst (v := 0) hx hb dX9_areEnds_31 (by decide) ?_
      exact W.zret (v := 0) hx hb hr rfl (fun t ht hW => ⟨0, rfl, Or.inr ⟨rfl, (by first | exact ends_n1 (by assumption) | exact ends_n2 (by assumption))⟩, ht⟩) (fun q h => by cases h) dX9_areEnds_32 hlk
  · skip
    refine lv_if_eq (tgt := 31) hx hb dX9_areEnds_11 (by decide) (fun c_12 => ?_) (fun c_12 => absurd (by decide) c_12)
    refine lv_iconst (v := 0) hx hb dX9_areEnds_31 (by decide) ?_
    exact W.zret (v := 0) hx hb hr rfl (fun t ht hW => ⟨0, rfl, Or.inr ⟨rfl, (by first | exact ends_n1 (by assumption) | exact ends_n2 (by assumption))⟩, ht⟩) (fun q h => by cases h) dX9_areEnds_32 hlk
set_option maxHeartbeats 4000000 in
set_option maxRecDepth 100000 in
theorem c_X9_areBoth (l : Launch) (D : va_G) (cI cJ cZ cS : ClassId) (ta : Nat) (sa sv : Nat → Nat) (sz : Nat) (h0 : Nat) (ys : Nat) (yk : Nat) (yo : Nat) (yt : Nat) (mk0 : Int32) (yfa : Nat) (yfe : Nat) (mL : Int32) (mS : Int32) (mM : Int32) (yro : Nat) (yhe : Nat) (ygr : Nat) (mF : Int32) (mC : Int32) (mY : Int32) (yta : Nat) (mz : Nat) (mf : Nat) (mt : Nat) (mv : Int32) (mw : Int32) (ywa : Nat) (ybi : Nat) (ysi : Nat) (ynu : Nat) (ymo : Nat) (ms : Nat → Int32) (P : Nat) (Rn : Nat) (Wn : Nat) (fae : Nat → Int32) (fal : Nat → Int32) (fau : Nat → Int32) (fao : Nat → Int32) (farn : Nat → Int32) (farp : Nat → Int32) (fak : Nat → Int32) (fawn : Nat → Int32) (fawp : Nat → Int32) (fat : Nat → Int32) (fas : Nat → Int32) (j : Nat) (k : Nat) (hj : j < 10) (hk : k < 10) (hs0 : ms 0 = nI P) (hs1 : ms 1 = nI Rn) (hs2 : ms 2 = nI Wn) (hsS : SI ms) (hsM : MI ms) (hsp : P ≤ 10) (hsr : Rn ≤ 8) (hsw : Wn ≤ 8) (hsR : RI Rn ms) (hsG : FR P ms fae fal fau fao farn farp fak fawn fawp fat fas) : Met l yX9_areBoth (Cond.code yX9_areBoth cX9_areBoth 3 (some .boolean) :: wsU) ({ frames := 1, cells := 0, slots := 0, locals := 22 }) (va_Pc [.ref h0, .int (nI (j)), .int (nI (k))] (XW D (xT cI cJ cZ cS) ta sa sv [(h0, .inr (9, [.ref ys, .ref yk, .ref yo, .ref yt, .int mk0, .ref yfa, .ref yfe, .int mL, .int mS, .int mM, .ref yro, .ref yhe, .ref ygr, .int mF, .int mC, .int mY, .ref yta, .int (nI (mz)), .int (nI (mf)), .int (nI (mt)), .int mv, .int mw, .ref ywa, .ref ybi, .ref ysi, .ref ynu, .ref ymo])), (ys, .inl (cI, 449, .inl ms))] sz)) (vp_Si (fun r : Int32 => (r = 1) ∨ (r = 0))) 0 0 (fun _ => False) := by
  refine xh (QA := fun _ => vp_Si (fun r : Int32 => (r = 1) ∨ (r = 0))) (fr := fun _ _ => False) (by decide) (Nat.le_of_ble_eq_true rfl) ?_
  intro p e s m below meth c ls A hF hr hlk hin hsz hP hK hD hN hZ hA hS hl
  have hF : CallFix p m c cX9_areBoth 3 s _ _ RX9 := hF
  have hx := hF.1
  have hb := hF.2.1
  have hml := hF.2.2.1
  have hown := hF.2.2.2.1
  have hu : ∀ w ∈ wsU, w.before _ s = true := fun w h => hF.2.2.2.2 w (List.mem_cons_of_mem _ h)
  have hl : lv_has ls 3 [(0, .ref h0), (1, .int (nI (j))), (2, .int (nI (k)))] := hl
  refine lv_iload_n hx hb dX9_areBoth_0 rfl (lv_at hl 1 rfl) ?_
  refine lv_iload_n hx hb dX9_areBoth_1 rfl (lv_at hl 2 rfl) ?_
  refine lv_icmp_eq (tgt := 27) hx hb dX9_areBoth_2 (by decide) (fun c_1 => ?_) (fun c_1 => ?_)
  · skip
    have nc_1 : j = k := xn_eq (a := j) (b := k) (by omega) (by omega) c_1
    refine lv_iconst (v := 0) hx hb dX9_areBoth_27 (by decide) ?_
    exact W.zret (v := 0) hx hb hr rfl (fun t ht hW => ⟨0, rfl, (by first | exact Or.inr (rfl)), ht⟩) (fun q h => by cases h) dX9_areBoth_28 hlk
  · skip
    have nc_1 : j ≠ k := xn_ne (a := j) (b := k) (by omega) (by omega) c_1
    refine lv_aload_n hx hb dX9_areBoth_5 rfl (lv_at hl 0 rfl) ?_
    refine lv_iload_n hx hb dX9_areBoth_6 rfl (lv_at hl 1 rfl) ?_
    refine lv_iload_n hx hb dX9_areBoth_7 rfl (lv_at hl 2 rfl) ?_
    refine xc_Vr hF (c_X9_isOpen l D cI cJ cZ cS ta sa sv s.heap.size h0 ys yk yo yt mk0 yfa yfe mL mS mM yro yhe ygr mF mC mY yta mz mf mt mv mw ywa ybi ysi ynu ymo ms P Rn Wn fae fal fau fao farn farp fak fawn fawp fat fas j k (by omega) (by omega) hs0 hs1 hs2 hsS hsM hsp hsr hsw hsR hsG) kv_X9_97 ⟨rfl, rfl, Nat.le_of_ble_eq_true rfl, Nat.le_of_ble_eq_true rfl⟩ ⟨Nat.le_of_ble_eq_true rfl, Nat.le_of_ble_eq_true rfl⟩ hK hN hZ hP hD hS hA [0, 1] rfl rfl 0 rfl rfl rfl rfl hl.1 rfl (Nat.le_of_ble_eq_true rfl) dX9_areBoth_8 (fun r_2 hw_r_2 => ?_)
    rcases hw_r_2 with ⟨rfl, h_3⟩ | ⟨rfl, h_4⟩
    · skip
      refine lv_if_eq (tgt := 27) hx hb dX9_areBoth_11 (by decide) (fun c_5 => absurd c_5 (by decide)) (fun c_5 => ?_)
      refine lv_aload_n hx hb dX9_areBoth_14 rfl (lv_at hl 0 rfl) ?_
      refine lv_iload_n hx hb dX9_areBoth_15 rfl (lv_at hl 2 rfl) ?_
      refine lv_iload_n hx hb dX9_areBoth_16 rfl (lv_at hl 1 rfl) ?_
      refine xc_Vr hF (c_X9_isOpen l D cI cJ cZ cS ta sa sv s.heap.size h0 ys yk yo yt mk0 yfa yfe mL mS mM yro yhe ygr mF mC mY yta mz mf mt mv mw ywa ybi ysi ynu ymo ms P Rn Wn fae fal fau fao farn farp fak fawn fawp fat fas k j (by omega) (by omega) hs0 hs1 hs2 hsS hsM hsp hsr hsw hsR hsG) kv_X9_97 ⟨rfl, rfl, Nat.le_of_ble_eq_true rfl, Nat.le_of_ble_eq_true rfl⟩ ⟨Nat.le_of_ble_eq_true rfl, Nat.le_of_ble_eq_true rfl⟩ hK hN hZ hP hD hS hA [0, 1] rfl rfl 0 rfl rfl rfl rfl hl.1 rfl (Nat.le_of_ble_eq_true rfl) dX9_areBoth_17 (fun r_6 hw_r_6 => ?_)
      rcases hw_r_6 with ⟨rfl, h_7⟩ | ⟨rfl, h_8⟩
      · skip
        refine lv_if_eq (tgt := 27) hx hb dX9_areBoth_20 (by decide) (fun c_9 => absurd c_9 (by decide)) (fun c_9 => ?_)
        refine lv_iconst (v := 1) hx hb dX9_areBoth_23 (by decide) ?_
        refine lv_goto (tgt := 28) hx hb dX9_areBoth_24 (by decide) ?_
        exact W.zret (v := 1) hx hb hr rfl (fun t ht hW => ⟨1, rfl, (by first | exact Or.inl rfl), ht⟩) (fun q h => by cases h) dX9_areBoth_28 hlk
      · skip
        refine lv_if_eq (tgt := 27) hx hb dX9_areBoth_20 (by decide) (fun c_10 => ?_) (fun c_10 => absurd (by decide) c_10)
        refine lv_iconst (v := 0) hx hb dX9_areBoth_27 (by decide) ?_
        exact W.zret (v := 0) hx hb hr rfl (fun t ht hW => ⟨0, rfl, (by first | exact Or.inr (rfl)), ht⟩) (fun q h => by cases h) dX9_areBoth_28 hlk
    · skip
      refine lv_if_eq (tgt := 27) hx hb dX9_areBoth_11 (by decide) (fun c_11 => ?_) (fun c_11 => absurd (by decide) c_11)
      refine lv_iconst (v := 0) hx hb dX9_areBoth_27 (by decide) ?_
      exact W.zret (v := 0) hx hb hr rfl (fun t ht hW => ⟨0, rfl, (by first | exact Or.inr (rfl)), ht⟩) (fun q h => by cases h) dX9_areBoth_28 hlk
set_option maxHeartbeats 4000000 in
set_option maxRecDepth 100000 in
theorem c_X9_isTotal (l : Launch) (D : va_G) (cI cJ cZ cS : ClassId) (ta : Nat) (sa sv : Nat → Nat) (sz : Nat) (p0 : Int32) : Met l yX9_isTotal (Cond.code yX9_isTotal cX9_isTotal 1 (some .boolean) :: wsU) ({ frames := 1, cells := 0, slots := 0, locals := 25 }) (va_Pc [.int p0] (XW D (xT cI cJ cZ cS) ta sa sv [] sz)) (vp_Si (fun r : Int32 => (r = 1 ∧ (¬ p0 < (-9999)) ∧ (¬ 9999 < p0)) ∨ (r = 0 ∧ (p0 < (-9999) ∨ 9999 < p0)))) 0 0 (fun _ => False) := by
  refine xh (QA := fun _ => vp_Si (fun r : Int32 => (r = 1 ∧ (¬ p0 < (-9999)) ∧ (¬ 9999 < p0)) ∨ (r = 0 ∧ (p0 < (-9999) ∨ 9999 < p0)))) (fr := fun _ _ => False) (by decide) (Nat.le_of_ble_eq_true rfl) ?_
  intro p e s m below meth c ls A hF hr hlk hin hsz hP hK hD hN hZ hA hS hl
  have hF : CallFix p m c cX9_isTotal 1 s _ _ RX9 := hF
  have hx := hF.1
  have hb := hF.2.1
  have hml := hF.2.2.1
  have hown := hF.2.2.2.1
  have hu : ∀ w ∈ wsU, w.before _ s = true := fun w h => hF.2.2.2.2 w (List.mem_cons_of_mem _ h)
  have hl : lv_has ls 1 [(0, .int p0)] := hl
  refine lv_iload_n hx hb dX9_isTotal_0 rfl (lv_at hl 0 rfl) ?_
  refine lv_i2l (v := p0.toInt64) hx hb dX9_isTotal_1 rfl ?_
  refine lv_ldc2 (v := (-9999)) hx hb hown (hu _ uw665) dX9_isTotal_2 ?_
  refine xl_l (y := (-9999 : Int32).toInt64) (by decide) ?_
  refine lv_ldc2 (v := 9999) hx hb hown (hu _ uw666) dX9_isTotal_5 ?_
  refine xl_l (y := (9999 : Int32).toInt64) (by decide) ?_
  refine xc_Sr hF (c_X9_in l D cI cJ cZ cS ta sa sv s.heap.size p0 (-9999) 9999 ) ks_X9_57 ⟨rfl, rfl, Nat.le_of_ble_eq_true rfl, Nat.le_of_ble_eq_true rfl⟩ ⟨Nat.le_of_ble_eq_true rfl, Nat.le_of_ble_eq_true rfl⟩ hK hN hZ hP hD hS hA [] rfl rfl rfl hl.1 rfl (Nat.le_of_ble_eq_true rfl) dX9_isTotal_8 (fun r_1 hw_r_1 => ?_)
  rcases hw_r_1 with ⟨rfl, h_2, h_3⟩ | ⟨rfl, h_4⟩
  · skip
    exact W.zret (v := 1) hx hb hr rfl (fun t ht hW => ⟨1, rfl, (by first | exact Or.inl ⟨rfl, (by first | assumption | omega | exact Or.inl (by first | assumption | omega) | exact Or.inr (by first | assumption | omega)), (by first | assumption | omega | exact Or.inl (by first | assumption | omega) | exact Or.inr (by first | assumption | omega))⟩), ht⟩) (fun q h => by cases h) dX9_isTotal_11 hlk
  · skip
    exact W.zret (v := 0) hx hb hr rfl (fun t ht hW => ⟨0, rfl, (by first | exact Or.inr (⟨rfl, (by first | assumption | omega | exact Or.inl (by first | assumption | omega) | exact Or.inr (by first | assumption | omega))⟩)), ht⟩) (fun q h => by cases h) dX9_isTotal_11 hlk
set_option maxHeartbeats 4000000 in
set_option maxRecDepth 100000 in
theorem c_X9_isOne (l : Launch) (D : va_G) (cI cJ cZ cS : ClassId) (ta : Nat) (sa sv : Nat → Nat) (sz : Nat) (p0 : Int32) : Met l yX9_isOne (Cond.code yX9_isOne cX9_isOne 1 (some .boolean) :: wsU) ({ frames := 1, cells := 0, slots := 0, locals := 25 }) (va_Pc [.int p0] (XW D (xT cI cJ cZ cS) ta sa sv [] sz)) (vp_Si (fun r : Int32 => (r = 1 ∧ (¬ p0 < 0) ∧ (¬ 3 < p0)) ∨ (r = 0 ∧ (p0 < 0 ∨ 3 < p0)))) 0 0 (fun _ => False) := by
  refine xh (QA := fun _ => vp_Si (fun r : Int32 => (r = 1 ∧ (¬ p0 < 0) ∧ (¬ 3 < p0)) ∨ (r = 0 ∧ (p0 < 0 ∨ 3 < p0)))) (fr := fun _ _ => False) (by decide) (Nat.le_of_ble_eq_true rfl) ?_
  intro p e s m below meth c ls A hF hr hlk hin hsz hP hK hD hN hZ hA hS hl
  have hF : CallFix p m c cX9_isOne 1 s _ _ RX9 := hF
  have hx := hF.1
  have hb := hF.2.1
  have hml := hF.2.2.1
  have hown := hF.2.2.2.1
  have hu : ∀ w ∈ wsU, w.before _ s = true := fun w h => hF.2.2.2.2 w (List.mem_cons_of_mem _ h)
  have hl : lv_has ls 1 [(0, .int p0)] := hl
  refine lv_iload_n hx hb dX9_isOne_0 rfl (lv_at hl 0 rfl) ?_
  refine lv_i2l (v := p0.toInt64) hx hb dX9_isOne_1 rfl ?_
  refine lv_lconst (v := 0) hx hb dX9_isOne_2 (by decide) ?_
  refine xl_l (y := (0 : Int32).toInt64) (by decide) ?_
  refine lv_ldc2 (v := 3) hx hb hown (hu _ uw667) dX9_isOne_3 ?_
  refine xl_l (y := (3 : Int32).toInt64) (by decide) ?_
  refine xc_Sr hF (c_X9_in l D cI cJ cZ cS ta sa sv s.heap.size p0 0 3 ) ks_X9_57 ⟨rfl, rfl, Nat.le_of_ble_eq_true rfl, Nat.le_of_ble_eq_true rfl⟩ ⟨Nat.le_of_ble_eq_true rfl, Nat.le_of_ble_eq_true rfl⟩ hK hN hZ hP hD hS hA [] rfl rfl rfl hl.1 rfl (Nat.le_of_ble_eq_true rfl) dX9_isOne_6 (fun r_1 hw_r_1 => ?_)
  rcases hw_r_1 with ⟨rfl, h_2, h_3⟩ | ⟨rfl, h_4⟩
  · skip
    exact W.zret (v := 1) hx hb hr rfl (fun t ht hW => ⟨1, rfl, (by first | exact Or.inl ⟨rfl, (by first | assumption | omega | exact Or.inl (by first | assumption | omega) | exact Or.inr (by first | assumption | omega)), (by first | assumption | omega | exact Or.inl (by first | assumption | omega) | exact Or.inr (by first | assumption | omega))⟩), ht⟩) (fun q h => by cases h) dX9_isOne_9 hlk
  · skip
    exact W.zret (v := 0) hx hb hr rfl (fun t ht hW => ⟨0, rfl, (by first | exact Or.inr (⟨rfl, (by first | assumption | omega | exact Or.inl (by first | assumption | omega) | exact Or.inr (by first | assumption | omega))⟩)), ht⟩) (fun q h => by cases h) dX9_isOne_9 hlk
set_option maxHeartbeats 4000000 in
set_option maxRecDepth 100000 in
theorem c_X9_isLetter (l : Launch) (D : va_G) (cI cJ cZ cS : ClassId) (ta : Nat) (sa sv : Nat → Nat) (sz : Nat) (p0 : Int32) : Met l yX9_isLetter (Cond.code yX9_isLetter cX9_isLetter 1 (some .boolean) :: wsU) ({ frames := 1, cells := 0, slots := 0, locals := 25 }) (va_Pc [.int p0] (XW D (xT cI cJ cZ cS) ta sa sv [] sz)) (vp_Si (fun r : Int32 => (r = 1) ∨ (r = 0))) 0 0 (fun _ => False) := by
  refine xh (QA := fun _ => vp_Si (fun r : Int32 => (r = 1) ∨ (r = 0))) (fr := fun _ _ => False) (by decide) (Nat.le_of_ble_eq_true rfl) ?_
  intro p e s m below meth c ls A hF hr hlk hin hsz hP hK hD hN hZ hA hS hl
  have hF : CallFix p m c cX9_isLetter 1 s _ _ RX9 := hF
  have hx := hF.1
  have hb := hF.2.1
  have hml := hF.2.2.1
  have hown := hF.2.2.2.1
  have hu : ∀ w ∈ wsU, w.before _ s = true := fun w h => hF.2.2.2.2 w (List.mem_cons_of_mem _ h)
  have hl : lv_has ls 1 [(0, .int p0)] := hl
  refine lv_iload_n hx hb dX9_isLetter_0 rfl (lv_at hl 0 rfl) ?_
  refine lv_i2l (v := p0.toInt64) hx hb dX9_isLetter_1 rfl ?_
  refine lv_ldc2 (v := 97) hx hb hown (hu _ uw668) dX9_isLetter_2 ?_
  refine xl_l (y := (97 : Int32).toInt64) (by decide) ?_
  refine lv_ldc2 (v := 122) hx hb hown (hu _ uw669) dX9_isLetter_5 ?_
  refine xl_l (y := (122 : Int32).toInt64) (by decide) ?_
  refine xc_Sr hF (c_X9_in l D cI cJ cZ cS ta sa sv s.heap.size p0 97 122 ) ks_X9_57 ⟨rfl, rfl, Nat.le_of_ble_eq_true rfl, Nat.le_of_ble_eq_true rfl⟩ ⟨Nat.le_of_ble_eq_true rfl, Nat.le_of_ble_eq_true rfl⟩ hK hN hZ hP hD hS hA [] rfl rfl rfl hl.1 rfl (Nat.le_of_ble_eq_true rfl) dX9_isLetter_8 (fun r_1 hw_r_1 => ?_)
  rcases hw_r_1 with ⟨rfl, h_2, h_3⟩ | ⟨rfl, h_4⟩
  · skip
    exact W.zret (v := 1) hx hb hr rfl (fun t ht hW => ⟨1, rfl, (by first | exact Or.inl rfl), ht⟩) (fun q h => by cases h) dX9_isLetter_11 hlk
  · skip
    exact W.zret (v := 0) hx hb hr rfl (fun t ht hW => ⟨0, rfl, (by first | exact Or.inr (rfl)), ht⟩) (fun q h => by cases h) dX9_isLetter_11 hlk
set_option maxHeartbeats 4000000 in
set_option maxRecDepth 100000 in
theorem c_X9_isDigit (l : Launch) (D : va_G) (cI cJ cZ cS : ClassId) (ta : Nat) (sa sv : Nat → Nat) (sz : Nat) (p0 : Int32) : Met l yX9_isDigit (Cond.code yX9_isDigit cX9_isDigit 1 (some .boolean) :: wsU) ({ frames := 1, cells := 0, slots := 0, locals := 25 }) (va_Pc [.int p0] (XW D (xT cI cJ cZ cS) ta sa sv [] sz)) (vp_Si (fun r : Int32 => (r = 1 ∧ (¬ p0 < 48) ∧ (¬ 57 < p0)) ∨ (r = 0 ∧ (p0 < 48 ∨ 57 < p0)))) 0 0 (fun _ => False) := by
  refine xh (QA := fun _ => vp_Si (fun r : Int32 => (r = 1 ∧ (¬ p0 < 48) ∧ (¬ 57 < p0)) ∨ (r = 0 ∧ (p0 < 48 ∨ 57 < p0)))) (fr := fun _ _ => False) (by decide) (Nat.le_of_ble_eq_true rfl) ?_
  intro p e s m below meth c ls A hF hr hlk hin hsz hP hK hD hN hZ hA hS hl
  have hF : CallFix p m c cX9_isDigit 1 s _ _ RX9 := hF
  have hx := hF.1
  have hb := hF.2.1
  have hml := hF.2.2.1
  have hown := hF.2.2.2.1
  have hu : ∀ w ∈ wsU, w.before _ s = true := fun w h => hF.2.2.2.2 w (List.mem_cons_of_mem _ h)
  have hl : lv_has ls 1 [(0, .int p0)] := hl
  refine lv_iload_n hx hb dX9_isDigit_0 rfl (lv_at hl 0 rfl) ?_
  refine lv_i2l (v := p0.toInt64) hx hb dX9_isDigit_1 rfl ?_
  refine lv_ldc2 (v := 48) hx hb hown (hu _ uw670) dX9_isDigit_2 ?_
  refine xl_l (y := (48 : Int32).toInt64) (by decide) ?_
  refine lv_ldc2 (v := 57) hx hb hown (hu _ uw671) dX9_isDigit_5 ?_
  refine xl_l (y := (57 : Int32).toInt64) (by decide) ?_
  refine xc_Sr hF (c_X9_in l D cI cJ cZ cS ta sa sv s.heap.size p0 48 57 ) ks_X9_57 ⟨rfl, rfl, Nat.le_of_ble_eq_true rfl, Nat.le_of_ble_eq_true rfl⟩ ⟨Nat.le_of_ble_eq_true rfl, Nat.le_of_ble_eq_true rfl⟩ hK hN hZ hP hD hS hA [] rfl rfl rfl hl.1 rfl (Nat.le_of_ble_eq_true rfl) dX9_isDigit_8 (fun r_1 hw_r_1 => ?_)
  rcases hw_r_1 with ⟨rfl, h_2, h_3⟩ | ⟨rfl, h_4⟩
  · skip
    exact W.zret (v := 1) hx hb hr rfl (fun t ht hW => ⟨1, rfl, (by first | exact Or.inl ⟨rfl, (by first | assumption | omega | exact Or.inl (by first | assumption | omega) | exact Or.inr (by first | assumption | omega)), (by first | assumption | omega | exact Or.inl (by first | assumption | omega) | exact Or.inr (by first | assumption | omega))⟩), ht⟩) (fun q h => by cases h) dX9_isDigit_11 hlk
  · skip
    exact W.zret (v := 0) hx hb hr rfl (fun t ht hW => ⟨0, rfl, (by first | exact Or.inr (⟨rfl, (by first | assumption | omega | exact Or.inl (by first | assumption | omega) | exact Or.inr (by first | assumption | omega))⟩)), ht⟩) (fun q h => by cases h) dX9_isDigit_11 hlk
