def LRX3_has_2 : List UInt8 := []
def LBX3_has_1 : List UInt8 := [0x03, 0xac]
def LRX3_has_1 : List UInt8 := LBX3_has_1 ++ LRX3_has_2
def LBX3_has_0 : List UInt8 := [0x1b, 0x9b, 0x00, 0x0f, 0x1b, 0x2a, 0xb4, 0x00, 0x09, 0xa2, 0x00, 0x07, 0x04, 0xa7, 0x00, 0x04]
def LRX3_has_0 : List UInt8 := LBX3_has_0 ++ LRX3_has_1
set_option maxRecDepth 100000 in
theorem LBX3_has_eq : cX3_has.data.toList = LRX3_has_0 := by decide +kernel
theorem LBX3_hasr_0 (k : Nat) : cX3_has.data.toList[0 + k]? = LRX3_has_0[k]? := by rw [LBX3_has_eq, Nat.zero_add]
theorem LBX3_hasr_1 (k : Nat) : cX3_has.data.toList[16 + k]? = LRX3_has_1[k]? := by
  have h := LBX3_hasr_0 (16 + k)
  rw [show 0 + (16 + k) = 16 + k by omega] at h
  rw [h]
  exact (List.getElem?_append_right (l₁ := LBX3_has_0) (l₂ := LRX3_has_1) (show 16 ≤ 16 + k by omega)).trans (congrArg (fun i => LRX3_has_1[i]?) (show 16 + k - 16 = k by omega))
theorem dX3_has_0 : decode cX3_has 0 = .ok (.iload_n 1, 1) := dk_27_ (show cX3_has.data.toList[0]? = some 0x1b from (LBX3_hasr_0 0).trans (by decide +kernel))
theorem dX3_has_1 : decode cX3_has 1 = .ok (.ifCond .lt 15, 3) := dk_155_ (show cX3_has.data.toList[1]? = some 0x9b from (LBX3_hasr_0 1).trans (by decide +kernel)) (show cX3_has.data.toList[2]? = some 0x00 from (LBX3_hasr_0 2).trans (by decide +kernel)) (show cX3_has.data.toList[3]? = some 0x0f from (LBX3_hasr_0 3).trans (by decide +kernel)) (by decide)
theorem dX3_has_4 : decode cX3_has 4 = .ok (.iload_n 1, 1) := dk_27_ (show cX3_has.data.toList[4]? = some 0x1b from (LBX3_hasr_0 4).trans (by decide +kernel))
theorem dX3_has_5 : decode cX3_has 5 = .ok (.aload_n 0, 1) := dk_42_ (show cX3_has.data.toList[5]? = some 0x2a from (LBX3_hasr_0 5).trans (by decide +kernel))
theorem dX3_has_6 : decode cX3_has 6 = .ok (.getfield 9, 3) := dk_180_ (show cX3_has.data.toList[6]? = some 0xb4 from (LBX3_hasr_0 6).trans (by decide +kernel)) (show cX3_has.data.toList[7]? = some 0x00 from (LBX3_hasr_0 7).trans (by decide +kernel)) (show cX3_has.data.toList[8]? = some 0x09 from (LBX3_hasr_0 8).trans (by decide +kernel)) (by decide)
theorem dX3_has_9 : decode cX3_has 9 = .ok (.if_icmp .ge 7, 3) := dk_162_ (show cX3_has.data.toList[9]? = some 0xa2 from (LBX3_hasr_0 9).trans (by decide +kernel)) (show cX3_has.data.toList[10]? = some 0x00 from (LBX3_hasr_0 10).trans (by decide +kernel)) (show cX3_has.data.toList[11]? = some 0x07 from (LBX3_hasr_0 11).trans (by decide +kernel)) (by decide)
theorem dX3_has_12 : decode cX3_has 12 = .ok (.iconst 1, 1) := dk_4_ (show cX3_has.data.toList[12]? = some 0x04 from (LBX3_hasr_0 12).trans (by decide +kernel))
theorem dX3_has_13 : decode cX3_has 13 = .ok (.goto 4, 3) := dk_167_ (show cX3_has.data.toList[13]? = some 0xa7 from (LBX3_hasr_0 13).trans (by decide +kernel)) (show cX3_has.data.toList[14]? = some 0x00 from (LBX3_hasr_0 14).trans (by decide +kernel)) (show cX3_has.data.toList[15]? = some 0x04 from (LBX3_hasr_0 15).trans (by decide +kernel)) (by decide)
theorem dX3_has_16 : decode cX3_has 16 = .ok (.iconst 0, 1) := dk_3_ (show cX3_has.data.toList[16]? = some 0x03 from (LBX3_hasr_1 0).trans (by decide +kernel))
theorem dX3_has_17 : decode cX3_has 17 = .ok (.ireturn, 1) := dk_172_ (show cX3_has.data.toList[17]? = some 0xac from (LBX3_hasr_1 1).trans (by decide +kernel))
theorem dX3_isFull_0 : decode cX3_isFull 0 = .ok (.aload_n 0, 1) := dk_42_ (show cX3_isFull.data.toList[0]? = some 0x2a from by decide +kernel)
theorem dX3_isFull_1 : decode cX3_isFull 1 = .ok (.getfield 9, 3) := dk_180_ (show cX3_isFull.data.toList[1]? = some 0xb4 from by decide +kernel) (show cX3_isFull.data.toList[2]? = some 0x00 from by decide +kernel) (show cX3_isFull.data.toList[3]? = some 0x09 from by decide +kernel) (by decide)
theorem dX3_isFull_4 : decode cX3_isFull 4 = .ok (.bipush 8, 2) := dk_16_ (show cX3_isFull.data.toList[4]? = some 0x10 from by decide +kernel) (show cX3_isFull.data.toList[5]? = some 0x08 from by decide +kernel) (by decide)
theorem dX3_isFull_6 : decode cX3_isFull 6 = .ok (.if_icmp .lt 7, 3) := dk_161_ (show cX3_isFull.data.toList[6]? = some 0xa1 from by decide +kernel) (show cX3_isFull.data.toList[7]? = some 0x00 from by decide +kernel) (show cX3_isFull.data.toList[8]? = some 0x07 from by decide +kernel) (by decide)
theorem dX3_isFull_9 : decode cX3_isFull 9 = .ok (.iconst 1, 1) := dk_4_ (show cX3_isFull.data.toList[9]? = some 0x04 from by decide +kernel)
theorem dX3_isFull_10 : decode cX3_isFull 10 = .ok (.goto 4, 3) := dk_167_ (show cX3_isFull.data.toList[10]? = some 0xa7 from by decide +kernel) (show cX3_isFull.data.toList[11]? = some 0x00 from by decide +kernel) (show cX3_isFull.data.toList[12]? = some 0x04 from by decide +kernel) (by decide)
theorem dX3_isFull_13 : decode cX3_isFull 13 = .ok (.iconst 0, 1) := dk_3_ (show cX3_isFull.data.toList[13]? = some 0x03 from by decide +kernel)
theorem dX3_isFull_14 : decode cX3_isFull 14 = .ok (.ireturn, 1) := dk_172_ (show cX3_isFull.data.toList[14]? = some 0xac from by decide +kernel)
def LRX3_isFullRow_2 : List UInt8 := []
def LBX3_isFullRow_1 : List UInt8 := [0xac]
def LRX3_isFullRow_1 : List UInt8 := LBX3_isFullRow_1 ++ LRX3_isFullRow_2
def LBX3_isFullRow_0 : List UInt8 := [0x2a, 0xb4, 0x00, 0x0f, 0x1b, 0x2e, 0x10, 0x06, 0xa1, 0x00, 0x07, 0x04, 0xa7, 0x00, 0x04, 0x03]
def LRX3_isFullRow_0 : List UInt8 := LBX3_isFullRow_0 ++ LRX3_isFullRow_1
set_option maxRecDepth 100000 in
theorem LBX3_isFullRow_eq : cX3_isFullRow.data.toList = LRX3_isFullRow_0 := by decide +kernel
theorem LBX3_isFullRowr_0 (k : Nat) : cX3_isFullRow.data.toList[0 + k]? = LRX3_isFullRow_0[k]? := by rw [LBX3_isFullRow_eq, Nat.zero_add]
theorem LBX3_isFullRowr_1 (k : Nat) : cX3_isFullRow.data.toList[16 + k]? = LRX3_isFullRow_1[k]? := by
  have h := LBX3_isFullRowr_0 (16 + k)
  rw [show 0 + (16 + k) = 16 + k by omega] at h
  rw [h]
  exact (List.getElem?_append_right (l₁ := LBX3_isFullRow_0) (l₂ := LRX3_isFullRow_1) (show 16 ≤ 16 + k by omega)).trans (congrArg (fun i => LRX3_isFullRow_1[i]?) (show 16 + k - 16 = k by omega))
theorem dX3_isFullRow_0 : decode cX3_isFullRow 0 = .ok (.aload_n 0, 1) := dk_42_ (show cX3_isFullRow.data.toList[0]? = some 0x2a from (LBX3_isFullRowr_0 0).trans (by decide +kernel))
theorem dX3_isFullRow_1 : decode cX3_isFullRow 1 = .ok (.getfield 15, 3) := dk_180_ (show cX3_isFullRow.data.toList[1]? = some 0xb4 from (LBX3_isFullRowr_0 1).trans (by decide +kernel)) (show cX3_isFullRow.data.toList[2]? = some 0x00 from (LBX3_isFullRowr_0 2).trans (by decide +kernel)) (show cX3_isFullRow.data.toList[3]? = some 0x0f from (LBX3_isFullRowr_0 3).trans (by decide +kernel)) (by decide)
theorem dX3_isFullRow_4 : decode cX3_isFullRow 4 = .ok (.iload_n 1, 1) := dk_27_ (show cX3_isFullRow.data.toList[4]? = some 0x1b from (LBX3_isFullRowr_0 4).trans (by decide +kernel))
theorem dX3_isFullRow_5 : decode cX3_isFullRow 5 = .ok (.iaload, 1) := dk_46_ (show cX3_isFullRow.data.toList[5]? = some 0x2e from (LBX3_isFullRowr_0 5).trans (by decide +kernel))
theorem dX3_isFullRow_6 : decode cX3_isFullRow 6 = .ok (.bipush 6, 2) := dk_16_ (show cX3_isFullRow.data.toList[6]? = some 0x10 from (LBX3_isFullRowr_0 6).trans (by decide +kernel)) (show cX3_isFullRow.data.toList[7]? = some 0x06 from (LBX3_isFullRowr_0 7).trans (by decide +kernel)) (by decide)
theorem dX3_isFullRow_8 : decode cX3_isFullRow 8 = .ok (.if_icmp .lt 7, 3) := dk_161_ (show cX3_isFullRow.data.toList[8]? = some 0xa1 from (LBX3_isFullRowr_0 8).trans (by decide +kernel)) (show cX3_isFullRow.data.toList[9]? = some 0x00 from (LBX3_isFullRowr_0 9).trans (by decide +kernel)) (show cX3_isFullRow.data.toList[10]? = some 0x07 from (LBX3_isFullRowr_0 10).trans (by decide +kernel)) (by decide)
theorem dX3_isFullRow_11 : decode cX3_isFullRow 11 = .ok (.iconst 1, 1) := dk_4_ (show cX3_isFullRow.data.toList[11]? = some 0x04 from (LBX3_isFullRowr_0 11).trans (by decide +kernel))
theorem dX3_isFullRow_12 : decode cX3_isFullRow 12 = .ok (.goto 4, 3) := dk_167_ (show cX3_isFullRow.data.toList[12]? = some 0xa7 from (LBX3_isFullRowr_0 12).trans (by decide +kernel)) (show cX3_isFullRow.data.toList[13]? = some 0x00 from (LBX3_isFullRowr_0 13).trans (by decide +kernel)) (show cX3_isFullRow.data.toList[14]? = some 0x04 from (LBX3_isFullRowr_0 14).trans (by decide +kernel)) (by decide)
theorem dX3_isFullRow_15 : decode cX3_isFullRow 15 = .ok (.iconst 0, 1) := dk_3_ (show cX3_isFullRow.data.toList[15]? = some 0x03 from (LBX3_isFullRowr_0 15).trans (by decide +kernel))
theorem dX3_isFullRow_16 : decode cX3_isFullRow 16 = .ok (.ireturn, 1) := dk_172_ (show cX3_isFullRow.data.toList[16]? = some 0xac from (LBX3_isFullRowr_1 0).trans (by decide +kernel))
def LRX3_append_3 : List UInt8 := []
def LBX3_append_2 : List UInt8 := [0x2e, 0xac]
def LRX3_append_2 : List UInt8 := LBX3_append_2 ++ LRX3_append_3
def LBX3_append_1 : List UInt8 := [0x4f, 0x2a, 0xb4, 0x00, 0x0f, 0x1b, 0x5c, 0x2e, 0x04, 0x60, 0x4f, 0x2a, 0xb4, 0x00, 0x0f, 0x1b]
def LRX3_append_1 : List UInt8 := LBX3_append_1 ++ LRX3_append_2
def LBX3_append_0 : List UInt8 := [0x2a, 0xb4, 0x00, 0x13, 0x1b, 0x10, 0x06, 0x68, 0x2a, 0xb4, 0x00, 0x0f, 0x1b, 0x2e, 0x60, 0x1c]
def LRX3_append_0 : List UInt8 := LBX3_append_0 ++ LRX3_append_1
set_option maxRecDepth 100000 in
theorem LBX3_append_eq : cX3_append.data.toList = LRX3_append_0 := by decide +kernel
theorem LBX3_appendr_0 (k : Nat) : cX3_append.data.toList[0 + k]? = LRX3_append_0[k]? := by rw [LBX3_append_eq, Nat.zero_add]
theorem LBX3_appendr_1 (k : Nat) : cX3_append.data.toList[16 + k]? = LRX3_append_1[k]? := by
  have h := LBX3_appendr_0 (16 + k)
  rw [show 0 + (16 + k) = 16 + k by omega] at h
  rw [h]
  exact (List.getElem?_append_right (l₁ := LBX3_append_0) (l₂ := LRX3_append_1) (show 16 ≤ 16 + k by omega)).trans (congrArg (fun i => LRX3_append_1[i]?) (show 16 + k - 16 = k by omega))
theorem LBX3_appendr_2 (k : Nat) : cX3_append.data.toList[32 + k]? = LRX3_append_2[k]? := by
  have h := LBX3_appendr_1 (16 + k)
  rw [show 16 + (16 + k) = 32 + k by omega] at h
  rw [h]
  exact (List.getElem?_append_right (l₁ := LBX3_append_1) (l₂ := LRX3_append_2) (show 16 ≤ 16 + k by omega)).trans (congrArg (fun i => LRX3_append_2[i]?) (show 16 + k - 16 = k by omega))
theorem dX3_append_0 : decode cX3_append 0 = .ok (.aload_n 0, 1) := dk_42_ (show cX3_append.data.toList[0]? = some 0x2a from (LBX3_appendr_0 0).trans (by decide +kernel))
theorem dX3_append_1 : decode cX3_append 1 = .ok (.getfield 19, 3) := dk_180_ (show cX3_append.data.toList[1]? = some 0xb4 from (LBX3_appendr_0 1).trans (by decide +kernel)) (show cX3_append.data.toList[2]? = some 0x00 from (LBX3_appendr_0 2).trans (by decide +kernel)) (show cX3_append.data.toList[3]? = some 0x13 from (LBX3_appendr_0 3).trans (by decide +kernel)) (by decide)
theorem dX3_append_4 : decode cX3_append 4 = .ok (.iload_n 1, 1) := dk_27_ (show cX3_append.data.toList[4]? = some 0x1b from (LBX3_appendr_0 4).trans (by decide +kernel))
theorem dX3_append_5 : decode cX3_append 5 = .ok (.bipush 6, 2) := dk_16_ (show cX3_append.data.toList[5]? = some 0x10 from (LBX3_appendr_0 5).trans (by decide +kernel)) (show cX3_append.data.toList[6]? = some 0x06 from (LBX3_appendr_0 6).trans (by decide +kernel)) (by decide)
theorem dX3_append_7 : decode cX3_append 7 = .ok (.imul, 1) := dk_104_ (show cX3_append.data.toList[7]? = some 0x68 from (LBX3_appendr_0 7).trans (by decide +kernel))
theorem dX3_append_8 : decode cX3_append 8 = .ok (.aload_n 0, 1) := dk_42_ (show cX3_append.data.toList[8]? = some 0x2a from (LBX3_appendr_0 8).trans (by decide +kernel))
theorem dX3_append_9 : decode cX3_append 9 = .ok (.getfield 15, 3) := dk_180_ (show cX3_append.data.toList[9]? = some 0xb4 from (LBX3_appendr_0 9).trans (by decide +kernel)) (show cX3_append.data.toList[10]? = some 0x00 from (LBX3_appendr_0 10).trans (by decide +kernel)) (show cX3_append.data.toList[11]? = some 0x0f from (LBX3_appendr_0 11).trans (by decide +kernel)) (by decide)
theorem dX3_append_12 : decode cX3_append 12 = .ok (.iload_n 1, 1) := dk_27_ (show cX3_append.data.toList[12]? = some 0x1b from (LBX3_appendr_0 12).trans (by decide +kernel))
theorem dX3_append_13 : decode cX3_append 13 = .ok (.iaload, 1) := dk_46_ (show cX3_append.data.toList[13]? = some 0x2e from (LBX3_appendr_0 13).trans (by decide +kernel))
theorem dX3_append_14 : decode cX3_append 14 = .ok (.iadd, 1) := dk_96_ (show cX3_append.data.toList[14]? = some 0x60 from (LBX3_appendr_0 14).trans (by decide +kernel))
theorem dX3_append_15 : decode cX3_append 15 = .ok (.iload_n 2, 1) := dk_28_ (show cX3_append.data.toList[15]? = some 0x1c from (LBX3_appendr_0 15).trans (by decide +kernel))
theorem dX3_append_16 : decode cX3_append 16 = .ok (.iastore, 1) := dk_79_ (show cX3_append.data.toList[16]? = some 0x4f from (LBX3_appendr_1 0).trans (by decide +kernel))
theorem dX3_append_17 : decode cX3_append 17 = .ok (.aload_n 0, 1) := dk_42_ (show cX3_append.data.toList[17]? = some 0x2a from (LBX3_appendr_1 1).trans (by decide +kernel))
theorem dX3_append_18 : decode cX3_append 18 = .ok (.getfield 15, 3) := dk_180_ (show cX3_append.data.toList[18]? = some 0xb4 from (LBX3_appendr_1 2).trans (by decide +kernel)) (show cX3_append.data.toList[19]? = some 0x00 from (LBX3_appendr_1 3).trans (by decide +kernel)) (show cX3_append.data.toList[20]? = some 0x0f from (LBX3_appendr_1 4).trans (by decide +kernel)) (by decide)
theorem dX3_append_21 : decode cX3_append 21 = .ok (.iload_n 1, 1) := dk_27_ (show cX3_append.data.toList[21]? = some 0x1b from (LBX3_appendr_1 5).trans (by decide +kernel))
theorem dX3_append_22 : decode cX3_append 22 = .ok (.dup2, 1) := dk_92_ (show cX3_append.data.toList[22]? = some 0x5c from (LBX3_appendr_1 6).trans (by decide +kernel))
theorem dX3_append_23 : decode cX3_append 23 = .ok (.iaload, 1) := dk_46_ (show cX3_append.data.toList[23]? = some 0x2e from (LBX3_appendr_1 7).trans (by decide +kernel))
theorem dX3_append_24 : decode cX3_append 24 = .ok (.iconst 1, 1) := dk_4_ (show cX3_append.data.toList[24]? = some 0x04 from (LBX3_appendr_1 8).trans (by decide +kernel))
theorem dX3_append_25 : decode cX3_append 25 = .ok (.iadd, 1) := dk_96_ (show cX3_append.data.toList[25]? = some 0x60 from (LBX3_appendr_1 9).trans (by decide +kernel))
theorem dX3_append_26 : decode cX3_append 26 = .ok (.iastore, 1) := dk_79_ (show cX3_append.data.toList[26]? = some 0x4f from (LBX3_appendr_1 10).trans (by decide +kernel))
theorem dX3_append_27 : decode cX3_append 27 = .ok (.aload_n 0, 1) := dk_42_ (show cX3_append.data.toList[27]? = some 0x2a from (LBX3_appendr_1 11).trans (by decide +kernel))
theorem dX3_append_28 : decode cX3_append 28 = .ok (.getfield 15, 3) := dk_180_ (show cX3_append.data.toList[28]? = some 0xb4 from (LBX3_appendr_1 12).trans (by decide +kernel)) (show cX3_append.data.toList[29]? = some 0x00 from (LBX3_appendr_1 13).trans (by decide +kernel)) (show cX3_append.data.toList[30]? = some 0x0f from (LBX3_appendr_1 14).trans (by decide +kernel)) (by decide)
theorem dX3_append_31 : decode cX3_append 31 = .ok (.iload_n 1, 1) := dk_27_ (show cX3_append.data.toList[31]? = some 0x1b from (LBX3_appendr_1 15).trans (by decide +kernel))
theorem dX3_append_32 : decode cX3_append 32 = .ok (.iaload, 1) := dk_46_ (show cX3_append.data.toList[32]? = some 0x2e from (LBX3_appendr_2 0).trans (by decide +kernel))
theorem dX3_append_33 : decode cX3_append 33 = .ok (.ireturn, 1) := dk_172_ (show cX3_append.data.toList[33]? = some 0xac from (LBX3_appendr_2 1).trans (by decide +kernel))
def LRX3_begin_2 : List UInt8 := []
def LBX3_begin_1 : List UInt8 := [0xb4, 0x00, 0x0f, 0x1c, 0x03, 0x4f, 0x2a, 0x1c, 0x1b, 0xb6, 0x00, 0x16, 0x57, 0x1c, 0xac]
def LRX3_begin_1 : List UInt8 := LBX3_begin_1 ++ LRX3_begin_2
def LBX3_begin_0 : List UInt8 := [0x2a, 0xb4, 0x00, 0x09, 0x3d, 0x2a, 0x59, 0xb4, 0x00, 0x09, 0x04, 0x60, 0xb5, 0x00, 0x09, 0x2a]
def LRX3_begin_0 : List UInt8 := LBX3_begin_0 ++ LRX3_begin_1
set_option maxRecDepth 100000 in
theorem LBX3_begin_eq : cX3_begin.data.toList = LRX3_begin_0 := by decide +kernel
theorem LBX3_beginr_0 (k : Nat) : cX3_begin.data.toList[0 + k]? = LRX3_begin_0[k]? := by rw [LBX3_begin_eq, Nat.zero_add]
theorem LBX3_beginr_1 (k : Nat) : cX3_begin.data.toList[16 + k]? = LRX3_begin_1[k]? := by
  have h := LBX3_beginr_0 (16 + k)
  rw [show 0 + (16 + k) = 16 + k by omega] at h
  rw [h]
  exact (List.getElem?_append_right (l₁ := LBX3_begin_0) (l₂ := LRX3_begin_1) (show 16 ≤ 16 + k by omega)).trans (congrArg (fun i => LRX3_begin_1[i]?) (show 16 + k - 16 = k by omega))
theorem dX3_begin_0 : decode cX3_begin 0 = .ok (.aload_n 0, 1) := dk_42_ (show cX3_begin.data.toList[0]? = some 0x2a from (LBX3_beginr_0 0).trans (by decide +kernel))
theorem dX3_begin_1 : decode cX3_begin 1 = .ok (.getfield 9, 3) := dk_180_ (show cX3_begin.data.toList[1]? = some 0xb4 from (LBX3_beginr_0 1).trans (by decide +kernel)) (show cX3_begin.data.toList[2]? = some 0x00 from (LBX3_beginr_0 2).trans (by decide +kernel)) (show cX3_begin.data.toList[3]? = some 0x09 from (LBX3_beginr_0 3).trans (by decide +kernel)) (by decide)
theorem dX3_begin_4 : decode cX3_begin 4 = .ok (.istore_n 2, 1) := dk_61_ (show cX3_begin.data.toList[4]? = some 0x3d from (LBX3_beginr_0 4).trans (by decide +kernel))
theorem dX3_begin_5 : decode cX3_begin 5 = .ok (.aload_n 0, 1) := dk_42_ (show cX3_begin.data.toList[5]? = some 0x2a from (LBX3_beginr_0 5).trans (by decide +kernel))
theorem dX3_begin_6 : decode cX3_begin 6 = .ok (.dup, 1) := dk_89_ (show cX3_begin.data.toList[6]? = some 0x59 from (LBX3_beginr_0 6).trans (by decide +kernel))
theorem dX3_begin_7 : decode cX3_begin 7 = .ok (.getfield 9, 3) := dk_180_ (show cX3_begin.data.toList[7]? = some 0xb4 from (LBX3_beginr_0 7).trans (by decide +kernel)) (show cX3_begin.data.toList[8]? = some 0x00 from (LBX3_beginr_0 8).trans (by decide +kernel)) (show cX3_begin.data.toList[9]? = some 0x09 from (LBX3_beginr_0 9).trans (by decide +kernel)) (by decide)
theorem dX3_begin_10 : decode cX3_begin 10 = .ok (.iconst 1, 1) := dk_4_ (show cX3_begin.data.toList[10]? = some 0x04 from (LBX3_beginr_0 10).trans (by decide +kernel))
theorem dX3_begin_11 : decode cX3_begin 11 = .ok (.iadd, 1) := dk_96_ (show cX3_begin.data.toList[11]? = some 0x60 from (LBX3_beginr_0 11).trans (by decide +kernel))
theorem dX3_begin_12 : decode cX3_begin 12 = .ok (.putfield 9, 3) := dk_181_ (show cX3_begin.data.toList[12]? = some 0xb5 from (LBX3_beginr_0 12).trans (by decide +kernel)) (show cX3_begin.data.toList[13]? = some 0x00 from (LBX3_beginr_0 13).trans (by decide +kernel)) (show cX3_begin.data.toList[14]? = some 0x09 from (LBX3_beginr_0 14).trans (by decide +kernel)) (by decide)
theorem dX3_begin_15 : decode cX3_begin 15 = .ok (.aload_n 0, 1) := dk_42_ (show cX3_begin.data.toList[15]? = some 0x2a from (LBX3_beginr_0 15).trans (by decide +kernel))
theorem dX3_begin_16 : decode cX3_begin 16 = .ok (.getfield 15, 3) := dk_180_ (show cX3_begin.data.toList[16]? = some 0xb4 from (LBX3_beginr_1 0).trans (by decide +kernel)) (show cX3_begin.data.toList[17]? = some 0x00 from (LBX3_beginr_1 1).trans (by decide +kernel)) (show cX3_begin.data.toList[18]? = some 0x0f from (LBX3_beginr_1 2).trans (by decide +kernel)) (by decide)
theorem dX3_begin_19 : decode cX3_begin 19 = .ok (.iload_n 2, 1) := dk_28_ (show cX3_begin.data.toList[19]? = some 0x1c from (LBX3_beginr_1 3).trans (by decide +kernel))
theorem dX3_begin_20 : decode cX3_begin 20 = .ok (.iconst 0, 1) := dk_3_ (show cX3_begin.data.toList[20]? = some 0x03 from (LBX3_beginr_1 4).trans (by decide +kernel))
theorem dX3_begin_21 : decode cX3_begin 21 = .ok (.iastore, 1) := dk_79_ (show cX3_begin.data.toList[21]? = some 0x4f from (LBX3_beginr_1 5).trans (by decide +kernel))
theorem dX3_begin_22 : decode cX3_begin 22 = .ok (.aload_n 0, 1) := dk_42_ (show cX3_begin.data.toList[22]? = some 0x2a from (LBX3_beginr_1 6).trans (by decide +kernel))
theorem dX3_begin_23 : decode cX3_begin 23 = .ok (.iload_n 2, 1) := dk_28_ (show cX3_begin.data.toList[23]? = some 0x1c from (LBX3_beginr_1 7).trans (by decide +kernel))
theorem dX3_begin_24 : decode cX3_begin 24 = .ok (.iload_n 1, 1) := dk_27_ (show cX3_begin.data.toList[24]? = some 0x1b from (LBX3_beginr_1 8).trans (by decide +kernel))
theorem dX3_begin_25 : decode cX3_begin 25 = .ok (.invokevirtual 22, 3) := dk_182_ (show cX3_begin.data.toList[25]? = some 0xb6 from (LBX3_beginr_1 9).trans (by decide +kernel)) (show cX3_begin.data.toList[26]? = some 0x00 from (LBX3_beginr_1 10).trans (by decide +kernel)) (show cX3_begin.data.toList[27]? = some 0x16 from (LBX3_beginr_1 11).trans (by decide +kernel)) (by decide)
theorem dX3_begin_28 : decode cX3_begin 28 = .ok (.pop, 1) := dk_87_ (show cX3_begin.data.toList[28]? = some 0x57 from (LBX3_beginr_1 12).trans (by decide +kernel))
theorem dX3_begin_29 : decode cX3_begin 29 = .ok (.iload_n 2, 1) := dk_28_ (show cX3_begin.data.toList[29]? = some 0x1c from (LBX3_beginr_1 13).trans (by decide +kernel))
theorem dX3_begin_30 : decode cX3_begin 30 = .ok (.ireturn, 1) := dk_172_ (show cX3_begin.data.toList[30]? = some 0xac from (LBX3_beginr_1 14).trans (by decide +kernel))
theorem dX3_stop_0 : decode cX3_stop 0 = .ok (.aload_n 0, 1) := dk_42_ (show cX3_stop.data.toList[0]? = some 0x2a from by decide +kernel)
theorem dX3_stop_1 : decode cX3_stop 1 = .ok (.getfield 19, 3) := dk_180_ (show cX3_stop.data.toList[1]? = some 0xb4 from by decide +kernel) (show cX3_stop.data.toList[2]? = some 0x00 from by decide +kernel) (show cX3_stop.data.toList[3]? = some 0x13 from by decide +kernel) (by decide)
theorem dX3_stop_4 : decode cX3_stop 4 = .ok (.iload_n 1, 1) := dk_27_ (show cX3_stop.data.toList[4]? = some 0x1b from by decide +kernel)
theorem dX3_stop_5 : decode cX3_stop 5 = .ok (.bipush 6, 2) := dk_16_ (show cX3_stop.data.toList[5]? = some 0x10 from by decide +kernel) (show cX3_stop.data.toList[6]? = some 0x06 from by decide +kernel) (by decide)
theorem dX3_stop_7 : decode cX3_stop 7 = .ok (.imul, 1) := dk_104_ (show cX3_stop.data.toList[7]? = some 0x68 from by decide +kernel)
theorem dX3_stop_8 : decode cX3_stop 8 = .ok (.iload_n 2, 1) := dk_28_ (show cX3_stop.data.toList[8]? = some 0x1c from by decide +kernel)
theorem dX3_stop_9 : decode cX3_stop 9 = .ok (.iadd, 1) := dk_96_ (show cX3_stop.data.toList[9]? = some 0x60 from by decide +kernel)
theorem dX3_stop_10 : decode cX3_stop 10 = .ok (.iaload, 1) := dk_46_ (show cX3_stop.data.toList[10]? = some 0x2e from by decide +kernel)
theorem dX3_stop_11 : decode cX3_stop 11 = .ok (.ireturn, 1) := dk_172_ (show cX3_stop.data.toList[11]? = some 0xac from by decide +kernel)
theorem dX3_lastStop_0 : decode cX3_lastStop 0 = .ok (.aload_n 0, 1) := dk_42_ (show cX3_lastStop.data.toList[0]? = some 0x2a from by decide +kernel)
theorem dX3_lastStop_1 : decode cX3_lastStop 1 = .ok (.iload_n 1, 1) := dk_27_ (show cX3_lastStop.data.toList[1]? = some 0x1b from by decide +kernel)
theorem dX3_lastStop_2 : decode cX3_lastStop 2 = .ok (.aload_n 0, 1) := dk_42_ (show cX3_lastStop.data.toList[2]? = some 0x2a from by decide +kernel)
theorem dX3_lastStop_3 : decode cX3_lastStop 3 = .ok (.getfield 15, 3) := dk_180_ (show cX3_lastStop.data.toList[3]? = some 0xb4 from by decide +kernel) (show cX3_lastStop.data.toList[4]? = some 0x00 from by decide +kernel) (show cX3_lastStop.data.toList[5]? = some 0x0f from by decide +kernel) (by decide)
theorem dX3_lastStop_6 : decode cX3_lastStop 6 = .ok (.iload_n 1, 1) := dk_27_ (show cX3_lastStop.data.toList[6]? = some 0x1b from by decide +kernel)
theorem dX3_lastStop_7 : decode cX3_lastStop 7 = .ok (.iaload, 1) := dk_46_ (show cX3_lastStop.data.toList[7]? = some 0x2e from by decide +kernel)
theorem dX3_lastStop_8 : decode cX3_lastStop 8 = .ok (.iconst 1, 1) := dk_4_ (show cX3_lastStop.data.toList[8]? = some 0x04 from by decide +kernel)
theorem dX3_lastStop_9 : decode cX3_lastStop 9 = .ok (.isub, 1) := dk_100_ (show cX3_lastStop.data.toList[9]? = some 0x64 from by decide +kernel)
theorem dX3_lastStop_10 : decode cX3_lastStop 10 = .ok (.invokevirtual 26, 3) := dk_182_ (show cX3_lastStop.data.toList[10]? = some 0xb6 from by decide +kernel) (show cX3_lastStop.data.toList[11]? = some 0x00 from by decide +kernel) (show cX3_lastStop.data.toList[12]? = some 0x1a from by decide +kernel) (by decide)
theorem dX3_lastStop_13 : decode cX3_lastStop 13 = .ok (.ireturn, 1) := dk_172_ (show cX3_lastStop.data.toList[13]? = some 0xac from by decide +kernel)
def LRX3_become_3 : List UInt8 := []
def LBX3_become_2 : List UInt8 := [0x03, 0x10, 0x30, 0xb8, 0x00, 0x1d, 0xb1]
def LRX3_become_2 : List UInt8 := LBX3_become_2 ++ LRX3_become_3
def LBX3_become_1 : List UInt8 := [0x0f, 0x03, 0x10, 0x08, 0xb8, 0x00, 0x1d, 0x2b, 0xb4, 0x00, 0x13, 0x03, 0x2a, 0xb4, 0x00, 0x13]
def LRX3_become_1 : List UInt8 := LBX3_become_1 ++ LRX3_become_2
def LBX3_become_0 : List UInt8 := [0x2a, 0x2b, 0xb4, 0x00, 0x09, 0xb5, 0x00, 0x09, 0x2b, 0xb4, 0x00, 0x0f, 0x03, 0x2a, 0xb4, 0x00]
def LRX3_become_0 : List UInt8 := LBX3_become_0 ++ LRX3_become_1
set_option maxRecDepth 100000 in
theorem LBX3_become_eq : cX3_become.data.toList = LRX3_become_0 := by decide +kernel
theorem LBX3_becomer_0 (k : Nat) : cX3_become.data.toList[0 + k]? = LRX3_become_0[k]? := by rw [LBX3_become_eq, Nat.zero_add]
theorem LBX3_becomer_1 (k : Nat) : cX3_become.data.toList[16 + k]? = LRX3_become_1[k]? := by
  have h := LBX3_becomer_0 (16 + k)
  rw [show 0 + (16 + k) = 16 + k by omega] at h
  rw [h]
  exact (List.getElem?_append_right (l₁ := LBX3_become_0) (l₂ := LRX3_become_1) (show 16 ≤ 16 + k by omega)).trans (congrArg (fun i => LRX3_become_1[i]?) (show 16 + k - 16 = k by omega))
theorem LBX3_becomer_2 (k : Nat) : cX3_become.data.toList[32 + k]? = LRX3_become_2[k]? := by
  have h := LBX3_becomer_1 (16 + k)
  rw [show 16 + (16 + k) = 32 + k by omega] at h
  rw [h]
  exact (List.getElem?_append_right (l₁ := LBX3_become_1) (l₂ := LRX3_become_2) (show 16 ≤ 16 + k by omega)).trans (congrArg (fun i => LRX3_become_2[i]?) (show 16 + k - 16 = k by omega))
theorem dX3_become_0 : decode cX3_become 0 = .ok (.aload_n 0, 1) := dk_42_ (show cX3_become.data.toList[0]? = some 0x2a from (LBX3_becomer_0 0).trans (by decide +kernel))
theorem dX3_become_1 : decode cX3_become 1 = .ok (.aload_n 1, 1) := dk_43_ (show cX3_become.data.toList[1]? = some 0x2b from (LBX3_becomer_0 1).trans (by decide +kernel))
theorem dX3_become_2 : decode cX3_become 2 = .ok (.getfield 9, 3) := dk_180_ (show cX3_become.data.toList[2]? = some 0xb4 from (LBX3_becomer_0 2).trans (by decide +kernel)) (show cX3_become.data.toList[3]? = some 0x00 from (LBX3_becomer_0 3).trans (by decide +kernel)) (show cX3_become.data.toList[4]? = some 0x09 from (LBX3_becomer_0 4).trans (by decide +kernel)) (by decide)
theorem dX3_become_5 : decode cX3_become 5 = .ok (.putfield 9, 3) := dk_181_ (show cX3_become.data.toList[5]? = some 0xb5 from (LBX3_becomer_0 5).trans (by decide +kernel)) (show cX3_become.data.toList[6]? = some 0x00 from (LBX3_becomer_0 6).trans (by decide +kernel)) (show cX3_become.data.toList[7]? = some 0x09 from (LBX3_becomer_0 7).trans (by decide +kernel)) (by decide)
theorem dX3_become_8 : decode cX3_become 8 = .ok (.aload_n 1, 1) := dk_43_ (show cX3_become.data.toList[8]? = some 0x2b from (LBX3_becomer_0 8).trans (by decide +kernel))
theorem dX3_become_9 : decode cX3_become 9 = .ok (.getfield 15, 3) := dk_180_ (show cX3_become.data.toList[9]? = some 0xb4 from (LBX3_becomer_0 9).trans (by decide +kernel)) (show cX3_become.data.toList[10]? = some 0x00 from (LBX3_becomer_0 10).trans (by decide +kernel)) (show cX3_become.data.toList[11]? = some 0x0f from (LBX3_becomer_0 11).trans (by decide +kernel)) (by decide)
theorem dX3_become_12 : decode cX3_become 12 = .ok (.iconst 0, 1) := dk_3_ (show cX3_become.data.toList[12]? = some 0x03 from (LBX3_becomer_0 12).trans (by decide +kernel))
theorem dX3_become_13 : decode cX3_become 13 = .ok (.aload_n 0, 1) := dk_42_ (show cX3_become.data.toList[13]? = some 0x2a from (LBX3_becomer_0 13).trans (by decide +kernel))
theorem dX3_become_14 : decode cX3_become 14 = .ok (.getfield 15, 3) := dk_180_ (show cX3_become.data.toList[14]? = some 0xb4 from (LBX3_becomer_0 14).trans (by decide +kernel)) (show cX3_become.data.toList[15]? = some 0x00 from (LBX3_becomer_0 15).trans (by decide +kernel)) (show cX3_become.data.toList[16]? = some 0x0f from (LBX3_becomer_1 0).trans (by decide +kernel)) (by decide)
theorem dX3_become_17 : decode cX3_become 17 = .ok (.iconst 0, 1) := dk_3_ (show cX3_become.data.toList[17]? = some 0x03 from (LBX3_becomer_1 1).trans (by decide +kernel))
theorem dX3_become_18 : decode cX3_become 18 = .ok (.bipush 8, 2) := dk_16_ (show cX3_become.data.toList[18]? = some 0x10 from (LBX3_becomer_1 2).trans (by decide +kernel)) (show cX3_become.data.toList[19]? = some 0x08 from (LBX3_becomer_1 3).trans (by decide +kernel)) (by decide)
theorem dX3_become_20 : decode cX3_become 20 = .ok (.invokestatic 29, 3) := dk_184_ (show cX3_become.data.toList[20]? = some 0xb8 from (LBX3_becomer_1 4).trans (by decide +kernel)) (show cX3_become.data.toList[21]? = some 0x00 from (LBX3_becomer_1 5).trans (by decide +kernel)) (show cX3_become.data.toList[22]? = some 0x1d from (LBX3_becomer_1 6).trans (by decide +kernel)) (by decide)
theorem dX3_become_23 : decode cX3_become 23 = .ok (.aload_n 1, 1) := dk_43_ (show cX3_become.data.toList[23]? = some 0x2b from (LBX3_becomer_1 7).trans (by decide +kernel))
theorem dX3_become_24 : decode cX3_become 24 = .ok (.getfield 19, 3) := dk_180_ (show cX3_become.data.toList[24]? = some 0xb4 from (LBX3_becomer_1 8).trans (by decide +kernel)) (show cX3_become.data.toList[25]? = some 0x00 from (LBX3_becomer_1 9).trans (by decide +kernel)) (show cX3_become.data.toList[26]? = some 0x13 from (LBX3_becomer_1 10).trans (by decide +kernel)) (by decide)
theorem dX3_become_27 : decode cX3_become 27 = .ok (.iconst 0, 1) := dk_3_ (show cX3_become.data.toList[27]? = some 0x03 from (LBX3_becomer_1 11).trans (by decide +kernel))
theorem dX3_become_28 : decode cX3_become 28 = .ok (.aload_n 0, 1) := dk_42_ (show cX3_become.data.toList[28]? = some 0x2a from (LBX3_becomer_1 12).trans (by decide +kernel))
theorem dX3_become_29 : decode cX3_become 29 = .ok (.getfield 19, 3) := dk_180_ (show cX3_become.data.toList[29]? = some 0xb4 from (LBX3_becomer_1 13).trans (by decide +kernel)) (show cX3_become.data.toList[30]? = some 0x00 from (LBX3_becomer_1 14).trans (by decide +kernel)) (show cX3_become.data.toList[31]? = some 0x13 from (LBX3_becomer_1 15).trans (by decide +kernel)) (by decide)
theorem dX3_become_32 : decode cX3_become 32 = .ok (.iconst 0, 1) := dk_3_ (show cX3_become.data.toList[32]? = some 0x03 from (LBX3_becomer_2 0).trans (by decide +kernel))
theorem dX3_become_33 : decode cX3_become 33 = .ok (.bipush 48, 2) := dk_16_ (show cX3_become.data.toList[33]? = some 0x10 from (LBX3_becomer_2 1).trans (by decide +kernel)) (show cX3_become.data.toList[34]? = some 0x30 from (LBX3_becomer_2 2).trans (by decide +kernel)) (by decide)
theorem dX3_become_35 : decode cX3_become 35 = .ok (.invokestatic 29, 3) := dk_184_ (show cX3_become.data.toList[35]? = some 0xb8 from (LBX3_becomer_2 3).trans (by decide +kernel)) (show cX3_become.data.toList[36]? = some 0x00 from (LBX3_becomer_2 4).trans (by decide +kernel)) (show cX3_become.data.toList[37]? = some 0x1d from (LBX3_becomer_2 5).trans (by decide +kernel)) (by decide)
theorem dX3_become_38 : decode cX3_become 38 = .ok (.return_, 1) := dk_177_ (show cX3_become.data.toList[38]? = some 0xb1 from (LBX3_becomer_2 6).trans (by decide +kernel))
theorem uw33 : Cond.fieldLink RX3 9 "LongerBack$Rows" "count" "I" ∈ wsU := ut1 (List.mem_of_getElem? (i := 37) rfl) rfl
theorem uw34 : Cond.lays RX3 "LongerBack$Rows" "count" "I" ∈ wsU := ut1 (List.mem_of_getElem? (i := 46) rfl) rfl
theorem uw35 : Cond.laysFinal RX3 "LongerBack$Rows" "lengths" "[I" ∈ wsU := ut1 (List.mem_of_getElem? (i := 48) rfl) rfl
theorem uw36 : Cond.laysFinal RX3 "LongerBack$Rows" "stops" "[I" ∈ wsU := ut1 (List.mem_of_getElem? (i := 50) rfl) rfl
theorem uw37 : Cond.fieldLink RX3 15 "LongerBack$Rows" "lengths" "[I" ∈ wsU := ut1 (List.mem_of_getElem? (i := 40) rfl) rfl
theorem uw38 : Cond.fieldLink RX3 19 "LongerBack$Rows" "stops" "[I" ∈ wsU := ut1 (List.mem_of_getElem? (i := 45) rfl) rfl
theorem uw39 : Cond.methodLink RX3 22 yX3_append ∈ wsU := ut2 (List.mem_of_getElem? (i := 183) rfl) rfl
theorem uw40 : Cond.instanceMethod yX3_append ∈ wsU := ut2 (List.mem_of_getElem? (i := 184) rfl) rfl
theorem uw41 : Cond.selects RX3 yX3_append yX3_append ∈ wsU := ut2 (List.mem_of_getElem? (i := 185) rfl) rfl
theorem uw42 : Cond.initialized RX3 ∈ wsU := ut1 (List.mem_of_getElem? (i := 3) rfl) rfl
theorem uw43 : Cond.code yX3_append cX3_append 3 (some .int) ∈ wsU := ut2 (List.mem_of_getElem? (i := 186) rfl) rfl
theorem uw44 : Cond.methodLink RX3 26 yX3_stop ∈ wsU := ut3 (List.mem_of_getElem? (i := 11) rfl) rfl
theorem uw45 : Cond.instanceMethod yX3_stop ∈ wsU := ut2 (List.mem_of_getElem? (i := 212) rfl) rfl
theorem uw46 : Cond.selects RX3 yX3_stop yX3_stop ∈ wsU := ut2 (List.mem_of_getElem? (i := 213) rfl) rfl
theorem uw47 : Cond.code yX3_stop cX3_stop 3 (some .int) ∈ wsU := ut2 (List.mem_of_getElem? (i := 214) rfl) rfl
theorem uw48 : Cond.methodLink RX3 29 arraycopyName ∈ wsU := ut3 (List.mem_of_getElem? (i := 164) rfl) rfl
theorem uw49 : Cond.native arraycopyName ∈ wsU := ut3 (List.mem_of_getElem? (i := 159) rfl) rfl
theorem uw50 : Cond.static arraycopyName ∈ wsU := ut3 (List.mem_of_getElem? (i := 158) rfl) rfl
theorem uw51 : Cond.initialized "java/lang/System" ∈ wsU := ut1 (List.mem_of_getElem? (i := 12) rfl) rfl
theorem inUX3 : ∀ w ∈ u_ws RX3 TX3 3, w ∈ wsU := List.forall_mem_cons.mpr ⟨uw34, List.forall_mem_cons.mpr ⟨uw35, List.forall_mem_cons.mpr ⟨uw36, fun _ h => absurd h List.not_mem_nil⟩⟩⟩
theorem kf_X3_9 : xWF RX3 9 3 0 RX3 TX3 3 := ⟨inUX3, rfl, by decide, uw33⟩
theorem kf_X3_15 : xWF RX3 15 3 1 RX3 TX3 3 := ⟨inUX3, rfl, by decide, uw37⟩
theorem kf_X3_19 : xWF RX3 19 3 2 RX3 TX3 3 := ⟨inUX3, rfl, by decide, uw38⟩
theorem kv_X3_22 : xWV RX3 22 RX3 yX3_append cX3_append 3 (some .int) 2 := ⟨⟨uw39, uw40, uw41, uw42, uw43⟩, by decide +kernel⟩
theorem kv_X3_26 : xWV RX3 26 RX3 yX3_stop cX3_stop 3 (some .int) 2 := ⟨⟨uw44, uw45, uw46, uw42, uw47⟩, by decide +kernel⟩
set_option maxHeartbeats 4000000 in
set_option maxRecDepth 100000 in
theorem c_X3_has (l : Launch) (D : va_G) (cI cJ cZ cS : ClassId) (ta : Nat) (sa sv : Nat → Nat) (sz : Nat) (h0 : Nat) (an : Nat) (ap : Nat) (cn : Nat) (p0 : Int32) (hc : cn ≤ 8) : Met l yX3_has (Cond.code yX3_has cX3_has 2 (some .boolean) :: wsU) ({ frames := 0, cells := 0, slots := 0, locals := 0 }) (va_Pc [.ref h0, .int p0] (XW D (xT cI cJ cZ cS) ta sa sv [(h0, .inr (3, [.int (nI (cn)), .ref an, .ref ap]))] sz)) (vp_Si (fun r : Int32 => (∃ (k : Nat), r = 1 ∧ (p0 = nI k) ∧ (k < cn)) ∨ (r = 0 ∧ (¬ isP cn p0)))) 0 0 (fun _ => False) := by
  refine xh (QA := fun _ => vp_Si (fun r : Int32 => (∃ (k : Nat), r = 1 ∧ (p0 = nI k) ∧ (k < cn)) ∨ (r = 0 ∧ (¬ isP cn p0)))) (fr := fun _ _ => False) (by decide) (Nat.le_of_ble_eq_true rfl) ?_
  intro p e s m below meth c ls A hF hr hlk hin hsz hP hK hD hN hZ hA hS hl
  have hF : CallFix p m c cX3_has 2 s _ _ RX3 := hF
  have hx := hF.1
  have hb := hF.2.1
  have hml := hF.2.2.1
  have hown := hF.2.2.2.1
  have hu : ∀ w ∈ wsU, w.before _ s = true := fun w h => hF.2.2.2.2 w (List.mem_cons_of_mem _ h)
  have hl : lv_has ls 2 [(0, .ref h0), (1, .int p0)] := hl
  refine lv_iload_n hx hb dX3_has_0 rfl (lv_at hl 1 rfl) ?_
  refine lv_if_lt (tgt := 16) hx hb dX3_has_1 (by decide) (fun c_1 => ?_) (fun c_1 => ?_)
  · skip
    refine lv_iconst (v := 0) hx hb dX3_has_16 (by decide) ?_
    exact W.zret (v := 0) hx hb hr rfl (fun t ht hW => ⟨0, rfl, Or.inr ⟨rfl, (by first | exact fun h => h.1 (by assumption) | exact fun h => absurd h.2 (Int32.not_lt.mpr (by assumption)))⟩, ht⟩) (fun q h => by cases h) dX3_has_17 hlk
  · skip
    refine lv_iload_n hx hb dX3_has_4 rfl (lv_at hl 1 rfl) ?_
    refine lv_aload_n hx hb dX3_has_5 rfl (lv_at hl 0 rfl) ?_
    refine xg hF kf_X3_9 hK hP 0 rfl rfl dX3_has_6 ?_
    refine lv_icmp_ge (tgt := 16) hx hb dX3_has_9 (by decide) (fun c_2 => ?_) (fun c_2 => ?_)
    · skip
      refine lv_iconst (v := 0) hx hb dX3_has_16 (by decide) ?_
      exact W.zret (v := 0) hx hb hr rfl (fun t ht hW => ⟨0, rfl, Or.inr ⟨rfl, (by first | exact fun h => h.1 (by assumption) | exact fun h => absurd h.2 (Int32.not_lt.mpr (by assumption)))⟩, ht⟩) (fun q h => by cases h) dX3_has_17 hlk
    · skip
      refine lv_iconst (v := 1) hx hb dX3_has_12 (by decide) ?_
      refine lv_goto (tgt := 17) hx hb dX3_has_13 (by decide) ?_
      exact W.zret (v := 1) hx hb hr rfl (fun t ht hW => ⟨1, rfl, Or.inl ((x_num (by omega) c_1 (xlt c_2)).imp (fun _ h => ⟨rfl, h⟩)), ht⟩) (fun q h => by cases h) dX3_has_17 hlk
set_option maxHeartbeats 4000000 in
set_option maxRecDepth 100000 in
theorem c_X3_isFull (l : Launch) (D : va_G) (cI cJ cZ cS : ClassId) (ta : Nat) (sa sv : Nat → Nat) (sz : Nat) (h0 : Nat) (an : Nat) (ap : Nat) (cn : Nat) (hc : cn ≤ 8) : Met l yX3_isFull (Cond.code yX3_isFull cX3_isFull 1 (some .boolean) :: wsU) ({ frames := 0, cells := 0, slots := 0, locals := 0 }) (va_Pc [.ref h0] (XW D (xT cI cJ cZ cS) ta sa sv [(h0, .inr (3, [.int (nI (cn)), .ref an, .ref ap]))] sz)) (vp_Si (fun r : Int32 => (r = 1 ∧ (cn = 8)) ∨ (r = 0 ∧ (cn < 8)))) 0 0 (fun _ => False) := by
  refine xh (QA := fun _ => vp_Si (fun r : Int32 => (r = 1 ∧ (cn = 8)) ∨ (r = 0 ∧ (cn < 8)))) (fr := fun _ _ => False) (by decide) (Nat.le_of_ble_eq_true rfl) ?_
  intro p e s m below meth c ls A hF hr hlk hin hsz hP hK hD hN hZ hA hS hl
  have hF : CallFix p m c cX3_isFull 1 s _ _ RX3 := hF
  have hx := hF.1
  have hb := hF.2.1
  have hml := hF.2.2.1
  have hown := hF.2.2.2.1
  have hu : ∀ w ∈ wsU, w.before _ s = true := fun w h => hF.2.2.2.2 w (List.mem_cons_of_mem _ h)
  have hl : lv_has ls 1 [(0, .ref h0)] := hl
  refine lv_aload_n hx hb dX3_isFull_0 rfl (lv_at hl 0 rfl) ?_
  refine xg hF kf_X3_9 hK hP 0 rfl rfl dX3_isFull_1 ?_
  refine lv_bipush (v := 8) hx hb dX3_isFull_4 (by decide) ?_
  refine lv_icmp_lt (tgt := 13) hx hb dX3_isFull_6 (by decide) (fun c_1 => ?_) (fun c_1 => ?_)
  · skip
    have nc_1 : cn < 8 := xn_lt (a := cn) (b := 8) (by omega) (by omega) c_1
    refine lv_iconst (v := 0) hx hb dX3_isFull_13 (by decide) ?_
    exact W.zret (v := 0) hx hb hr rfl (fun t ht hW => ⟨0, rfl, (by first | exact Or.inr (⟨rfl, (by first | assumption | omega | exact Or.inl (by first | assumption | omega) | exact Or.inr (by first | assumption | omega))⟩)), ht⟩) (fun q h => by cases h) dX3_isFull_14 hlk
  · skip
    have nc_1 : 8 ≤ cn := xn_nlt (a := cn) (b := 8) (by omega) (by omega) c_1
    refine lv_iconst (v := 1) hx hb dX3_isFull_9 (by decide) ?_
    refine lv_goto (tgt := 14) hx hb dX3_isFull_10 (by decide) ?_
    exact W.zret (v := 1) hx hb hr rfl (fun t ht hW => ⟨1, rfl, (by first | exact Or.inl ⟨rfl, (by first | assumption | omega | exact Or.inl (by first | assumption | omega) | exact Or.inr (by first | assumption | omega))⟩), ht⟩) (fun q h => by cases h) dX3_isFull_14 hlk
set_option maxHeartbeats 4000000 in
set_option maxRecDepth 100000 in
theorem c_X3_isFullRow (l : Launch) (D : va_G) (cI cJ cZ cS : ClassId) (ta : Nat) (sa sv : Nat → Nat) (sz : Nat) (h0 : Nat) (an : Nat) (ap : Nat) (cn : Nat) (k : Nat) (ln : Nat → Int32) (hk : k < 8) (hln : BA 8 7 ln) : Met l yX3_isFullRow (Cond.code yX3_isFullRow cX3_isFullRow 2 (some .boolean) :: wsU) ({ frames := 0, cells := 0, slots := 0, locals := 0 }) (va_Pc [.ref h0, .int (nI (k))] (XW D (xT cI cJ cZ cS) ta sa sv [(h0, .inr (3, [.int (nI (cn)), .ref an, .ref ap])), (an, .inl (cI, 8, .inl ln))] sz)) (vp_Si (fun r : Int32 => (∃ (q : Nat), r = 1 ∧ (6 ≤ q) ∧ (q < 7) ∧ (ln k = nI q)) ∨ (∃ (q : Nat), r = 0 ∧ (q < 6) ∧ (ln k = nI q)))) 0 0 (fun _ => False) := by
  refine xh (QA := fun _ => vp_Si (fun r : Int32 => (∃ (q : Nat), r = 1 ∧ (6 ≤ q) ∧ (q < 7) ∧ (ln k = nI q)) ∨ (∃ (q : Nat), r = 0 ∧ (q < 6) ∧ (ln k = nI q)))) (fr := fun _ _ => False) (by decide) (Nat.le_of_ble_eq_true rfl) ?_
  intro p e s m below meth c ls A hF hr hlk hin hsz hP hK hD hN hZ hA hS hl
  have hF : CallFix p m c cX3_isFullRow 2 s _ _ RX3 := hF
  have hx := hF.1
  have hb := hF.2.1
  have hml := hF.2.2.1
  have hown := hF.2.2.2.1
  have hu : ∀ w ∈ wsU, w.before _ s = true := fun w h => hF.2.2.2.2 w (List.mem_cons_of_mem _ h)
  have hl : lv_has ls 2 [(0, .ref h0), (1, .int (nI (k)))] := hl
  refine lv_aload_n hx hb dX3_isFullRow_0 rfl (lv_at hl 0 rfl) ?_
  refine xg hF kf_X3_15 hK hP 0 rfl rfl dX3_isFullRow_1 ?_
  refine lv_iload_n hx hb dX3_isFullRow_4 rfl (lv_at hl 1 rfl) ?_
  refine va_iald hx hb hK hP 1 0 rfl rfl (vp_in_nI (show k < 8 by omega) (by decide)) dX3_isFullRow_5 ?_
  refine xl_i (y := ln k) (congrArg ln (nI_clamp (show k < 2 ^ 31 by omega))) ?_
  obtain ⟨q_1, hq_1, eq_1⟩ := hln k (by omega)
  refine xl_i (y := nI (q_1)) eq_1 ?_
  refine lv_bipush (v := 6) hx hb dX3_isFullRow_6 (by decide) ?_
  refine lv_icmp_lt (tgt := 15) hx hb dX3_isFullRow_8 (by decide) (fun c_2 => ?_) (fun c_2 => ?_)
  · skip
    have nc_2 : q_1 < 6 := xn_lt (a := q_1) (b := 6) (by omega) (by omega) c_2
    refine lv_iconst (v := 0) hx hb dX3_isFullRow_15 (by decide) ?_
    exact W.zret (v := 0) hx hb hr rfl (fun t ht hW => ⟨0, rfl, Or.inr ⟨q_1, rfl, by omega, eq_1⟩, ht⟩) (fun q h => by cases h) dX3_isFullRow_16 hlk
  · skip
    have nc_2 : 6 ≤ q_1 := xn_nlt (a := q_1) (b := 6) (by omega) (by omega) c_2
    refine lv_iconst (v := 1) hx hb dX3_isFullRow_11 (by decide) ?_
    refine lv_goto (tgt := 16) hx hb dX3_isFullRow_12 (by decide) ?_
    exact W.zret (v := 1) hx hb hr rfl (fun t ht hW => ⟨1, rfl, Or.inl ⟨q_1, rfl, by omega, by omega, eq_1⟩, ht⟩) (fun q h => by cases h) dX3_isFullRow_16 hlk
set_option maxHeartbeats 4000000 in
set_option maxRecDepth 100000 in
theorem c_X3_append (l : Launch) (D : va_G) (cI cJ cZ cS : ClassId) (ta : Nat) (sa sv : Nat → Nat) (sz : Nat) (h0 : Nat) (an : Nat) (ap : Nat) (cn : Nat) (k : Nat) (j : Nat) (q : Nat) (ln : Nat → Int32) (sp : Nat → Int32) (hk : k < 8) (hj : j < 10) (hq : q < 6) (eq0 : ln k = nI q) (hln : BA 8 7 ln) (hsp : BA 48 10 sp) : Met l yX3_append (Cond.code yX3_append cX3_append 3 (some .int) :: wsU) ({ frames := 0, cells := 0, slots := 0, locals := 0 }) (va_Pc [.ref h0, .int (nI (k)), .int (nI (j))] (XW D (xT cI cJ cZ cS) ta sa sv [(h0, .inr (3, [.int (nI (cn)), .ref an, .ref ap])), (an, .inl (cI, 8, .inl ln)), (ap, .inl (cI, 48, .inl sp))] sz)) (XQi (fun (r : Int32) (u : (Nat → Int32) × (Nat → Int32)) => match u with | (l2, s2) => ((r = nI (q + 1))) ∧ (BA 8 7 l2) ∧ (BA 48 10 s2) ∧ (l2 = upd ln k (nI (q + 1))) ∧ (s2 = upd sp (k * 6 + q) (nI j))) D (fun (u : (Nat → Int32) × (Nat → Int32)) => match u with | (l2, s2) => [(h0, .inr (3, [.int (nI (cn)), .ref an, .ref ap])), (an, .inl (cI, 8, .inl l2)), (ap, .inl (cI, 48, .inl s2))]) (va_A [(h0, .inr (3, [.int (nI (cn)), .ref an, .ref ap])), (an, .inl (cI, 8, .inl ln)), (ap, .inl (cI, 48, .inl sp))] sz)) 0 0 (va_A [(h0, .inr (3, [.int (nI (cn)), .ref an, .ref ap])), (an, .inl (cI, 8, .inl ln)), (ap, .inl (cI, 48, .inl sp))] sz) := by
  refine xh (QA := fun A => XQi (fun (r : Int32) (u : (Nat → Int32) × (Nat → Int32)) => match u with | (l2, s2) => ((r = nI (q + 1))) ∧ (BA 8 7 l2) ∧ (BA 48 10 s2) ∧ (l2 = upd ln k (nI (q + 1))) ∧ (s2 = upd sp (k * 6 + q) (nI j))) D (fun (u : (Nat → Int32) × (Nat → Int32)) => match u with | (l2, s2) => [(h0, .inr (3, [.int (nI (cn)), .ref an, .ref ap])), (an, .inl (cI, 8, .inl l2)), (ap, .inl (cI, 48, .inl s2))]) A) (fr := fun A => A) (by decide) (Nat.le_of_ble_eq_true rfl) ?_
  intro p e s m below meth c ls A hF hr hlk hin hsz hP hK hD hN hZ hA hS hl
  have hF : CallFix p m c cX3_append 3 s _ _ RX3 := hF
  have hx := hF.1
  have hb := hF.2.1
  have hml := hF.2.2.1
  have hown := hF.2.2.2.1
  have hu : ∀ w ∈ wsU, w.before _ s = true := fun w h => hF.2.2.2.2 w (List.mem_cons_of_mem _ h)
  have hl : lv_has ls 3 [(0, .ref h0), (1, .int (nI (k))), (2, .int (nI (j)))] := hl
  refine lv_aload_n hx hb dX3_append_0 rfl (lv_at hl 0 rfl) ?_
  refine xg hF kf_X3_19 hK hP 0 rfl rfl dX3_append_1 ?_
  refine lv_iload_n hx hb dX3_append_4 rfl (lv_at hl 1 rfl) ?_
  refine lv_bipush (v := 6) hx hb dX3_append_5 (by decide) ?_
  refine lv_imul hx hb dX3_append_7 ?_
  refine xl_i (y := nI (k * 6)) (pk_mul k 6) ?_
  refine lv_aload_n hx hb dX3_append_8 rfl (lv_at hl 0 rfl) ?_
  refine xg hF kf_X3_15 hK hP 0 rfl rfl dX3_append_9 ?_
  refine lv_iload_n hx hb dX3_append_12 rfl (lv_at hl 1 rfl) ?_
  refine va_iald hx hb hK hP 1 0 rfl rfl (vp_in_nI (show k < 8 by omega) (by decide)) dX3_append_13 ?_
  refine xl_i (y := ln k) (congrArg ln (nI_clamp (show k < 2 ^ 31 by omega))) ?_
  refine xl_i (y := nI (q)) eq0 ?_
  refine lv_iadd hx hb dX3_append_14 ?_
  refine xl_i (y := nI (k * 6 + q)) (nI_add (k * 6) q) ?_
  refine lv_iload_n hx hb dX3_append_15 rfl (lv_at hl 2 rfl) ?_
  refine va_iast hx hb hK hP hD hS 2 0 rfl rfl (vp_in_nI (show k * 6 + q < 48 by omega) (by decide)) dX3_append_16 (fun H locs hP hD hS => ?_)
  rw [nI_clamp (show k * 6 + q < 2 ^ 31 by omega)] at hP hD
  obtain ⟨f_1, ef_1⟩ : ∃ g, g = upd sp (k * 6 + q) (nI (j)) := ⟨_, rfl⟩
  rw [← ef_1] at hP hD
  have hf_1 : BA 48 10 f_1 := by rw [ef_1]; exact BA.upd hsp (show j < 10 by omega)
  have hP : va_P D vwCl [(h0, .inr (3, [.int (nI (cn)), .ref an, .ref ap])), (an, .inl (cI, 8, .inl ln)), (ap, .inl (cI, 48, .inl f_1))] H := hP
  have hD : va_D A [(h0, .inr (3, [.int (nI (cn)), .ref an, .ref ap])), (an, .inl (cI, 8, .inl ln)), (ap, .inl (cI, 48, .inl f_1))] := hD
  refine lv_aload_n hx hb dX3_append_17 rfl (lv_at hl 0 rfl) ?_
  refine xg hF kf_X3_15 hK hP 0 rfl rfl dX3_append_18 ?_
  refine lv_iload_n hx hb dX3_append_21 rfl (lv_at hl 1 rfl) ?_
  refine lv_dup2_11 hx hb dX3_append_22 rfl rfl ?_
  refine va_iald hx hb hK hP 1 0 rfl rfl (vp_in_nI (show k < 8 by omega) (by decide)) dX3_append_23 ?_
  refine xl_i (y := ln k) (congrArg ln (nI_clamp (show k < 2 ^ 31 by omega))) ?_
  refine xl_i (y := nI (q)) eq0 ?_
  refine lv_iconst (v := 1) hx hb dX3_append_24 (by decide) ?_
  refine lv_iadd hx hb dX3_append_25 ?_
  refine xl_i (y := nI (q + 1)) (nI_add q 1) ?_
  refine va_iast hx hb hK hP hD hS 1 0 rfl rfl (vp_in_nI (show k < 8 by omega) (by decide)) dX3_append_26 (fun H locs hP hD hS => ?_)
  rw [nI_clamp (show k < 2 ^ 31 by omega)] at hP hD
  obtain ⟨f_2, ef_2⟩ : ∃ g, g = upd ln k (nI (q + 1)) := ⟨_, rfl⟩
  rw [← ef_2] at hP hD
  have hf_2 : BA 8 7 f_2 := by rw [ef_2]; exact BA.upd hln (show q + 1 < 7 by omega)
  have hP : va_P D vwCl [(h0, .inr (3, [.int (nI (cn)), .ref an, .ref ap])), (an, .inl (cI, 8, .inl f_2)), (ap, .inl (cI, 48, .inl f_1))] H := hP
  have hD : va_D A [(h0, .inr (3, [.int (nI (cn)), .ref an, .ref ap])), (an, .inl (cI, 8, .inl f_2)), (ap, .inl (cI, 48, .inl f_1))] := hD
  refine lv_aload_n hx hb dX3_append_27 rfl (lv_at hl 0 rfl) ?_
  refine xg hF kf_X3_15 hK hP 0 rfl rfl dX3_append_28 ?_
  refine lv_iload_n hx hb dX3_append_31 rfl (lv_at hl 1 rfl) ?_
  refine va_iald hx hb hK hP 1 0 rfl rfl (vp_in_nI (show k < 8 by omega) (by decide)) dX3_append_32 ?_
  refine xl_i (y := f_2 k) (congrArg f_2 (nI_clamp (show k < 2 ^ 31 by omega))) ?_
  refine xl_i (y := nI (q + 1)) (by rw [ef_2]; exact pk_us) ?_
  exact W.iret (v := nI (q + 1)) hx hb hr (fun t ht hW => ⟨⟨nI (q + 1), (f_2, f_1), rfl, ⟨(by first | exact rfl), hf_2, hf_1, ef_2, ef_1⟩, by rw [ht]; exact hP.sub [0, 1, 2] rfl, hD.sub [0, 1, 2] (by decide) rfl⟩, hS.F ht⟩) hS.2.2 dX3_append_33 hlk
set_option maxHeartbeats 4000000 in
set_option maxRecDepth 100000 in
theorem c_X3_begin (l : Launch) (D : va_G) (cI cJ cZ cS : ClassId) (ta : Nat) (sa sv : Nat → Nat) (sz : Nat) (h0 : Nat) (an : Nat) (ap : Nat) (cn : Nat) (j : Nat) (ln : Nat → Int32) (sp : Nat → Int32) (hc : cn < 8) (hj : j < 10) (hln : BA 8 7 ln) (hsp : BA 48 10 sp) : Met l yX3_begin (Cond.code yX3_begin cX3_begin 3 (some .int) :: wsU) ({ frames := 1, cells := 0, slots := 0, locals := 22 }) (va_Pc [.ref h0, .int (nI (j))] (XW D (xT cI cJ cZ cS) ta sa sv [(h0, .inr (3, [.int (nI (cn)), .ref an, .ref ap])), (an, .inl (cI, 8, .inl ln)), (ap, .inl (cI, 48, .inl sp))] sz)) (XQi (fun (r : Int32) (u : (Nat → Int32) × (Nat → Int32)) => match u with | (l2, s2) => ((r = nI (cn))) ∧ (BA 8 7 l2) ∧ (BA 48 10 s2) ∧ (l2 = upd (upd ln cn 0) cn (nI (0 + 1))) ∧ (s2 = upd sp (cn * 6 + 0) (nI j))) D (fun (u : (Nat → Int32) × (Nat → Int32)) => match u with | (l2, s2) => [(h0, .inr (3, [.int (nI (cn + 1)), .ref an, .ref ap])), (an, .inl (cI, 8, .inl l2)), (ap, .inl (cI, 48, .inl s2))]) (va_A [(h0, .inr (3, [.int (nI (cn)), .ref an, .ref ap])), (an, .inl (cI, 8, .inl ln)), (ap, .inl (cI, 48, .inl sp))] sz)) 0 0 (va_A [(h0, .inr (3, [.int (nI (cn)), .ref an, .ref ap])), (an, .inl (cI, 8, .inl ln)), (ap, .inl (cI, 48, .inl sp))] sz) := by
  refine xh (QA := fun A => XQi (fun (r : Int32) (u : (Nat → Int32) × (Nat → Int32)) => match u with | (l2, s2) => ((r = nI (cn))) ∧ (BA 8 7 l2) ∧ (BA 48 10 s2) ∧ (l2 = upd (upd ln cn 0) cn (nI (0 + 1))) ∧ (s2 = upd sp (cn * 6 + 0) (nI j))) D (fun (u : (Nat → Int32) × (Nat → Int32)) => match u with | (l2, s2) => [(h0, .inr (3, [.int (nI (cn + 1)), .ref an, .ref ap])), (an, .inl (cI, 8, .inl l2)), (ap, .inl (cI, 48, .inl s2))]) A) (fr := fun A => A) (by decide) (Nat.le_of_ble_eq_true rfl) ?_
  intro p e s m below meth c ls A hF hr hlk hin hsz hP hK hD hN hZ hA hS hl
  have hF : CallFix p m c cX3_begin 3 s _ _ RX3 := hF
  have hx := hF.1
  have hb := hF.2.1
  have hml := hF.2.2.1
  have hown := hF.2.2.2.1
  have hu : ∀ w ∈ wsU, w.before _ s = true := fun w h => hF.2.2.2.2 w (List.mem_cons_of_mem _ h)
  have hl : lv_has ls 3 [(0, .ref h0), (1, .int (nI (j)))] := hl
  refine lv_aload_n hx hb dX3_begin_0 rfl (lv_at hl 0 rfl) ?_
  refine xg hF kf_X3_9 hK hP 0 rfl rfl dX3_begin_1 ?_
  refine lv_istore_n (lv' := [(2, .int (nI (cn))), (0, .ref h0), (1, .int (nI (j)))]) hx hb dX3_begin_4 rfl hl (by decide) rfl (fun ls hl => ?_)
  refine lv_aload_n hx hb dX3_begin_5 rfl (lv_at hl 1 rfl) ?_
  refine lv_dup hx hb dX3_begin_6 rfl ?_
  refine xg hF kf_X3_9 hK hP 0 rfl rfl dX3_begin_7 ?_
  refine lv_iconst (v := 1) hx hb dX3_begin_10 (by decide) ?_
  refine lv_iadd hx hb dX3_begin_11 ?_
  refine xl_i (y := nI (cn + 1)) (nI_add cn 1) ?_
  refine xp hF kf_X3_9 tyX3_ok nmX3 hK hP hD hS 0 rfl rfl rfl rfl (Nat.le_of_ble_eq_true rfl) dX3_begin_12 (fun H locs hP hD hS => ?_)
  have hP : va_P D vwCl [(h0, .inr (3, [.int (nI (cn + 1)), .ref an, .ref ap])), (an, .inl (cI, 8, .inl ln)), (ap, .inl (cI, 48, .inl sp))] H := hP
  have hD : va_D A [(h0, .inr (3, [.int (nI (cn + 1)), .ref an, .ref ap])), (an, .inl (cI, 8, .inl ln)), (ap, .inl (cI, 48, .inl sp))] := hD
  refine lv_aload_n hx hb dX3_begin_15 rfl (lv_at hl 1 rfl) ?_
  refine xg hF kf_X3_15 hK hP 0 rfl rfl dX3_begin_16 ?_
  refine lv_iload_n hx hb dX3_begin_19 rfl (lv_at hl 0 rfl) ?_
  refine lv_iconst (v := 0) hx hb dX3_begin_20 (by decide) ?_
  refine va_iast hx hb hK hP hD hS 1 0 rfl rfl (vp_in_nI (show cn < 8 by omega) (by decide)) dX3_begin_21 (fun H locs hP hD hS => ?_)
  rw [nI_clamp (show cn < 2 ^ 31 by omega)] at hP hD
  obtain ⟨f_1, ef_1⟩ : ∃ g, g = upd ln cn 0 := ⟨_, rfl⟩
  rw [← ef_1] at hP hD
  have hf_1 : BA 8 7 f_1 := by rw [ef_1]; exact BA.upd (q := 0) hln (by decide)
  have hP : va_P D vwCl [(h0, .inr (3, [.int (nI (cn + 1)), .ref an, .ref ap])), (an, .inl (cI, 8, .inl f_1)), (ap, .inl (cI, 48, .inl sp))] H := hP
  have hD : va_D A [(h0, .inr (3, [.int (nI (cn + 1)), .ref an, .ref ap])), (an, .inl (cI, 8, .inl f_1)), (ap, .inl (cI, 48, .inl sp))] := hD
  refine lv_aload_n hx hb dX3_begin_22 rfl (lv_at hl 1 rfl) ?_
  refine lv_iload_n hx hb dX3_begin_23 rfl (lv_at hl 0 rfl) ?_
  refine lv_iload_n hx hb dX3_begin_24 rfl (lv_at hl 2 rfl) ?_
  refine xc_Vi (wr := []) hF (c_X3_append l D cI cJ cZ cS ta sa sv H.size h0 an ap (cn + 1) cn j 0 f_1 sp (by omega) (by omega) (by omega) (by rw [ef_1]; exact pk_us) hf_1 hsp) kv_X3_22 ⟨rfl, rfl, Nat.le_of_ble_eq_true rfl, Nat.le_of_ble_eq_true rfl⟩ ⟨Nat.le_of_ble_eq_true rfl, Nat.le_of_ble_eq_true rfl⟩ hK hN hZ hP hD hS hA [0, 1, 2] [] rfl rfl rfl rfl (by decide) 0 rfl rfl rfl rfl hl.1 rfl (Nat.le_of_ble_eq_true rfl) dX3_begin_25 (fun r_2 u_r_2 H locs hw_r_2 hP hD hS => ?_)
  obtain ⟨l2_3, s2_4⟩ := u_r_2
  try dsimp only at hw_r_2
  obtain ⟨hw_r_2, i_5, i_6, i_7, i_8⟩ := hw_r_2
  have hP : va_P D vwCl [(h0, .inr (3, [.int (nI ((cn + 1))), .ref an, .ref ap])), (an, .inl (cI, 8, .inl l2_3)), (ap, .inl (cI, 48, .inl s2_4))] H := hP
  have hD : va_D A [(h0, .inr (3, [.int (nI ((cn + 1))), .ref an, .ref ap])), (an, .inl (cI, 8, .inl l2_3)), (ap, .inl (cI, 48, .inl s2_4))] := hD
  subst hw_r_2
  refine lv_pop hx hb dX3_begin_28 rfl ?_
  refine lv_iload_n hx hb dX3_begin_29 rfl (lv_at hl 0 rfl) ?_
  exact W.iret (v := nI (cn)) hx hb hr (fun t ht hW => ⟨⟨nI (cn), (l2_3, s2_4), rfl, ⟨(by first | exact rfl), i_5, i_6, (by rw [← ef_1]; exact i_7), i_8⟩, by rw [ht]; exact hP.sub [0, 1, 2] rfl, hD.sub [0, 1, 2] (by decide) rfl⟩, hS.F ht⟩) hS.2.2 dX3_begin_30 hlk
set_option maxHeartbeats 4000000 in
set_option maxRecDepth 100000 in
theorem c_X3_stop (l : Launch) (D : va_G) (cI cJ cZ cS : ClassId) (ta : Nat) (sa sv : Nat → Nat) (sz : Nat) (h0 : Nat) (an : Nat) (ap : Nat) (cn : Nat) (k : Nat) (i : Nat) (sp : Nat → Int32) (hk : k < 8) (hi : i < 6) (hsp : BA 48 10 sp) : Met l yX3_stop (Cond.code yX3_stop cX3_stop 3 (some .int) :: wsU) ({ frames := 0, cells := 0, slots := 0, locals := 0 }) (va_Pc [.ref h0, .int (nI (k)), .int (nI (i))] (XW D (xT cI cJ cZ cS) ta sa sv [(h0, .inr (3, [.int (nI (cn)), .ref an, .ref ap])), (ap, .inl (cI, 48, .inl sp))] sz)) (vp_Si (fun r : Int32 => (∃ (q : Nat), r = nI (q) ∧ (q < 10) ∧ (sp (k * 6 + i) = nI q)))) 0 0 (fun _ => False) := by
  refine xh (QA := fun _ => vp_Si (fun r : Int32 => (∃ (q : Nat), r = nI (q) ∧ (q < 10) ∧ (sp (k * 6 + i) = nI q)))) (fr := fun _ _ => False) (by decide) (Nat.le_of_ble_eq_true rfl) ?_
  intro p e s m below meth c ls A hF hr hlk hin hsz hP hK hD hN hZ hA hS hl
  have hF : CallFix p m c cX3_stop 3 s _ _ RX3 := hF
  have hx := hF.1
  have hb := hF.2.1
  have hml := hF.2.2.1
  have hown := hF.2.2.2.1
  have hu : ∀ w ∈ wsU, w.before _ s = true := fun w h => hF.2.2.2.2 w (List.mem_cons_of_mem _ h)
  have hl : lv_has ls 3 [(0, .ref h0), (1, .int (nI (k))), (2, .int (nI (i)))] := hl
  refine lv_aload_n hx hb dX3_stop_0 rfl (lv_at hl 0 rfl) ?_
  refine xg hF kf_X3_19 hK hP 0 rfl rfl dX3_stop_1 ?_
  refine lv_iload_n hx hb dX3_stop_4 rfl (lv_at hl 1 rfl) ?_
  refine lv_bipush (v := 6) hx hb dX3_stop_5 (by decide) ?_
  refine lv_imul hx hb dX3_stop_7 ?_
  refine xl_i (y := nI (k * 6)) (pk_mul k 6) ?_
  refine lv_iload_n hx hb dX3_stop_8 rfl (lv_at hl 2 rfl) ?_
  refine lv_iadd hx hb dX3_stop_9 ?_
  refine xl_i (y := nI (k * 6 + i)) (nI_add (k * 6) i) ?_
  refine va_iald hx hb hK hP 1 0 rfl rfl (vp_in_nI (show k * 6 + i < 48 by omega) (by decide)) dX3_stop_10 ?_
  refine xl_i (y := sp (k * 6 + i)) (congrArg sp (nI_clamp (show k * 6 + i < 2 ^ 31 by omega))) ?_
  obtain ⟨q_1, hq_1, eq_1⟩ := hsp (k * 6 + i) (by omega)
  refine xl_i (y := nI (q_1)) eq_1 ?_
  exact W.iret (v := nI (q_1)) hx hb hr (fun t ht hW => ⟨nI (q_1), rfl, (by first | exact ⟨q_1, rfl, (by first | assumption | omega | exact Or.inl (by first | assumption | omega) | exact Or.inr (by first | assumption | omega)), (by first | assumption | omega | exact Or.inl (by first | assumption | omega) | exact Or.inr (by first | assumption | omega))⟩), ht⟩) (fun q h => by cases h) dX3_stop_11 hlk
set_option maxHeartbeats 4000000 in
set_option maxRecDepth 100000 in
theorem c_X3_lastStop (l : Launch) (D : va_G) (cI cJ cZ cS : ClassId) (ta : Nat) (sa sv : Nat → Nat) (sz : Nat) (h0 : Nat) (an : Nat) (ap : Nat) (cn : Nat) (k : Nat) (q : Nat) (ln : Nat → Int32) (sp : Nat → Int32) (hk : k < 8) (hq1 : 1 ≤ q) (hq : q < 7) (eq0 : ln k = nI q) (hsp : BA 48 10 sp) : Met l yX3_lastStop (Cond.code yX3_lastStop cX3_lastStop 2 (some .int) :: wsU) ({ frames := 1, cells := 0, slots := 0, locals := 22 }) (va_Pc [.ref h0, .int (nI (k))] (XW D (xT cI cJ cZ cS) ta sa sv [(h0, .inr (3, [.int (nI (cn)), .ref an, .ref ap])), (an, .inl (cI, 8, .inl ln)), (ap, .inl (cI, 48, .inl sp))] sz)) (vp_Si (fun r : Int32 => (∃ (y : Nat), r = nI (y) ∧ (y < 10) ∧ (sp (k * 6 + (q - 1)) = nI y)))) 0 0 (fun _ => False) := by
  refine xh (QA := fun _ => vp_Si (fun r : Int32 => (∃ (y : Nat), r = nI (y) ∧ (y < 10) ∧ (sp (k * 6 + (q - 1)) = nI y)))) (fr := fun _ _ => False) (by decide) (Nat.le_of_ble_eq_true rfl) ?_
  intro p e s m below meth c ls A hF hr hlk hin hsz hP hK hD hN hZ hA hS hl
  have hF : CallFix p m c cX3_lastStop 2 s _ _ RX3 := hF
  have hx := hF.1
  have hb := hF.2.1
  have hml := hF.2.2.1
  have hown := hF.2.2.2.1
  have hu : ∀ w ∈ wsU, w.before _ s = true := fun w h => hF.2.2.2.2 w (List.mem_cons_of_mem _ h)
  have hl : lv_has ls 2 [(0, .ref h0), (1, .int (nI (k)))] := hl
  refine lv_aload_n hx hb dX3_lastStop_0 rfl (lv_at hl 0 rfl) ?_
  refine lv_iload_n hx hb dX3_lastStop_1 rfl (lv_at hl 1 rfl) ?_
  refine lv_aload_n hx hb dX3_lastStop_2 rfl (lv_at hl 0 rfl) ?_
  refine xg hF kf_X3_15 hK hP 0 rfl rfl dX3_lastStop_3 ?_
  refine lv_iload_n hx hb dX3_lastStop_6 rfl (lv_at hl 1 rfl) ?_
  refine va_iald hx hb hK hP 1 0 rfl rfl (vp_in_nI (show k < 8 by omega) (by decide)) dX3_lastStop_7 ?_
  refine xl_i (y := ln k) (congrArg ln (nI_clamp (show k < 2 ^ 31 by omega))) ?_
  refine xl_i (y := nI (q)) eq0 ?_
  refine lv_iconst (v := 1) hx hb dX3_lastStop_8 (by decide) ?_
  refine lv_isub hx hb dX3_lastStop_9 ?_
  refine xl_i (y := nI (q - 1)) (pk_sub (show 1 ≤ q by omega)) ?_
  refine xc_Vr hF (c_X3_stop l D cI cJ cZ cS ta sa sv s.heap.size h0 an ap cn k (q - 1) sp (by omega) (by omega) hsp) kv_X3_26 ⟨rfl, rfl, Nat.le_of_ble_eq_true rfl, Nat.le_of_ble_eq_true rfl⟩ ⟨Nat.le_of_ble_eq_true rfl, Nat.le_of_ble_eq_true rfl⟩ hK hN hZ hP hD hS hA [0, 2] rfl rfl 0 rfl rfl rfl rfl hl.1 rfl (Nat.le_of_ble_eq_true rfl) dX3_lastStop_10 (fun r_1 hw_r_1 => ?_)
  obtain ⟨q_2, rfl, h_3, h_4⟩ := hw_r_1
  exact W.iret (v := nI (q_2)) hx hb hr (fun t ht hW => ⟨nI (q_2), rfl, (by first | exact ⟨q_2, rfl, (by first | assumption | omega | exact Or.inl (by first | assumption | omega) | exact Or.inr (by first | assumption | omega)), (by first | assumption | omega | exact Or.inl (by first | assumption | omega) | exact Or.inr (by first | assumption | omega))⟩), ht⟩) (fun q h => by cases h) dX3_lastStop_13 hlk
set_option maxHeartbeats 4000000 in
set_option maxRecDepth 100000 in
theorem c_X3_become (l : Launch) (D : va_G) (cI cJ cZ cS : ClassId) (ta : Nat) (sa sv : Nat → Nat) (sz : Nat) (h0 : Nat) (an : Nat) (ap : Nat) (cn : Nat) (q1 : Nat) (bn : Nat) (bp : Nat) (c2 : Nat) (ln : Nat → Int32) (sp : Nat → Int32) (lm : Nat → Int32) (sm : Nat → Int32) (hln : BA 8 7 ln) (hsp : BA 48 10 sp) (hlm : BA 8 7 lm) (hsm : BA 48 10 sm) : Met l yX3_become (Cond.code yX3_become cX3_become 2 none :: wsU) ({ frames := 1, cells := 0, slots := 0, locals := 60 }) (va_Pc [.ref h0, .ref q1] (XW D (xT cI cJ cZ cS) ta sa sv [(h0, .inr (3, [.int (nI (cn)), .ref an, .ref ap])), (an, .inl (cI, 8, .inl ln)), (ap, .inl (cI, 48, .inl sp)), (q1, .inr (3, [.int (nI (c2)), .ref bn, .ref bp])), (bn, .inl (cI, 8, .inl lm)), (bp, .inl (cI, 48, .inl sm))] sz)) (XQv (fun (_ : Unit) => True) D (fun _ : Unit => [(h0, .inr (3, [.int (nI (c2)), .ref an, .ref ap])), (an, .inl (cI, 8, .inl lm)), (ap, .inl (cI, 48, .inl sm)), (q1, .inr (3, [.int (nI (c2)), .ref bn, .ref bp])), (bn, .inl (cI, 8, .inl lm)), (bp, .inl (cI, 48, .inl sm))]) (va_A [(h0, .inr (3, [.int (nI (cn)), .ref an, .ref ap])), (an, .inl (cI, 8, .inl ln)), (ap, .inl (cI, 48, .inl sp)), (q1, .inr (3, [.int (nI (c2)), .ref bn, .ref bp])), (bn, .inl (cI, 8, .inl lm)), (bp, .inl (cI, 48, .inl sm))] sz)) 0 0 (va_A [(h0, .inr (3, [.int (nI (cn)), .ref an, .ref ap])), (an, .inl (cI, 8, .inl ln)), (ap, .inl (cI, 48, .inl sp)), (q1, .inr (3, [.int (nI (c2)), .ref bn, .ref bp])), (bn, .inl (cI, 8, .inl lm)), (bp, .inl (cI, 48, .inl sm))] sz) := by
  refine xh (QA := fun A => XQv (fun (_ : Unit) => True) D (fun _ : Unit => [(h0, .inr (3, [.int (nI (c2)), .ref an, .ref ap])), (an, .inl (cI, 8, .inl lm)), (ap, .inl (cI, 48, .inl sm)), (q1, .inr (3, [.int (nI (c2)), .ref bn, .ref bp])), (bn, .inl (cI, 8, .inl lm)), (bp, .inl (cI, 48, .inl sm))]) A) (fr := fun A => A) (by decide) (Nat.le_of_ble_eq_true rfl) ?_
  intro p e s m below meth c ls A hF hr hlk hin hsz hP hK hD hN hZ hA hS hl
  have hF : CallFix p m c cX3_become 2 s _ _ RX3 := hF
  have hx := hF.1
  have hb := hF.2.1
  have hml := hF.2.2.1
  have hown := hF.2.2.2.1
  have hu : ∀ w ∈ wsU, w.before _ s = true := fun w h => hF.2.2.2.2 w (List.mem_cons_of_mem _ h)
  have hl : lv_has ls 2 [(0, .ref h0), (1, .ref q1)] := hl
  refine lv_aload_n hx hb dX3_become_0 rfl (lv_at hl 0 rfl) ?_
  refine lv_aload_n hx hb dX3_become_1 rfl (lv_at hl 1 rfl) ?_
  refine xg hF kf_X3_9 hK hP 3 rfl rfl dX3_become_2 ?_
  refine xp hF kf_X3_9 tyX3_ok nmX3 hK hP hD hS 0 rfl rfl rfl rfl (Nat.le_of_ble_eq_true rfl) dX3_become_5 (fun H locs hP hD hS => ?_)
  have hP : va_P D vwCl [(h0, .inr (3, [.int (nI (c2)), .ref an, .ref ap])), (an, .inl (cI, 8, .inl ln)), (ap, .inl (cI, 48, .inl sp)), (q1, .inr (3, [.int (nI (c2)), .ref bn, .ref bp])), (bn, .inl (cI, 8, .inl lm)), (bp, .inl (cI, 48, .inl sm))] H := hP
  have hD : va_D A [(h0, .inr (3, [.int (nI (c2)), .ref an, .ref ap])), (an, .inl (cI, 8, .inl ln)), (ap, .inl (cI, 48, .inl sp)), (q1, .inr (3, [.int (nI (c2)), .ref bn, .ref bp])), (bn, .inl (cI, 8, .inl lm)), (bp, .inl (cI, 48, .inl sm))] := hD
  refine lv_aload_n hx hb dX3_become_8 rfl (lv_at hl 1 rfl) ?_
  refine xg hF kf_X3_15 hK hP 3 rfl rfl dX3_become_9 ?_
  refine lv_iconst (v := 0) hx hb dX3_become_12 (by decide) ?_
  refine lv_aload_n hx hb dX3_become_13 rfl (lv_at hl 0 rfl) ?_
  refine xg hF kf_X3_15 hK hP 0 rfl rfl dX3_become_14 ?_
  refine lv_iconst (v := 0) hx hb dX3_become_17 (by decide) ?_
  refine lv_bipush (v := 8) hx hb dX3_become_18 (by decide) ?_
  refine va_copyi hx hb (hml.trans hl.1.symm) hown (hu _ uw48) (hu _ uw49) (hu _ uw50) (hu _ uw51) hK hP hD hS 4 1 0 0 rfl rfl rfl rfl rfl (by decide) (by decide) (by decide) (by decide) (by decide) (fun _ _ => rfl) (Nat.le_of_ble_eq_true rfl) (by decide) dX3_become_20 (fun H locs hP hD hS => ?_)
  obtain ⟨f_1, ef_1⟩ : ∃ g, g = va_cpy lm ln (0 : Int32).toNatClampNeg (0 : Int32).toNatClampNeg (8 : Int32).toNatClampNeg := ⟨_, rfl⟩
  rw [← ef_1] at hP hD
  have hf_1 : BA 8 7 f_1 := by rw [ef_1]; exact BA.cpy hlm hln _ (by decide)
  have hP : va_P D vwCl [(h0, .inr (3, [.int (nI (c2)), .ref an, .ref ap])), (an, .inl (cI, 8, .inl f_1)), (ap, .inl (cI, 48, .inl sp)), (q1, .inr (3, [.int (nI (c2)), .ref bn, .ref bp])), (bn, .inl (cI, 8, .inl lm)), (bp, .inl (cI, 48, .inl sm))] H := hP
  have hD : va_D A [(h0, .inr (3, [.int (nI (c2)), .ref an, .ref ap])), (an, .inl (cI, 8, .inl f_1)), (ap, .inl (cI, 48, .inl sp)), (q1, .inr (3, [.int (nI (c2)), .ref bn, .ref bp])), (bn, .inl (cI, 8, .inl lm)), (bp, .inl (cI, 48, .inl sm))] := hD
  obtain ⟨hP, hD⟩ := xw_cg hP hD 1 rfl (g := lm) (fun j hj => by rw [ef_1]; exact sb_cpy0 (n := 8) hj)
  have hP : va_P D vwCl [(h0, .inr (3, [.int (nI (c2)), .ref an, .ref ap])), (an, .inl (cI, 8, .inl lm)), (ap, .inl (cI, 48, .inl sp)), (q1, .inr (3, [.int (nI (c2)), .ref bn, .ref bp])), (bn, .inl (cI, 8, .inl lm)), (bp, .inl (cI, 48, .inl sm))] H := hP
  have hD : va_D A [(h0, .inr (3, [.int (nI (c2)), .ref an, .ref ap])), (an, .inl (cI, 8, .inl lm)), (ap, .inl (cI, 48, .inl sp)), (q1, .inr (3, [.int (nI (c2)), .ref bn, .ref bp])), (bn, .inl (cI, 8, .inl lm)), (bp, .inl (cI, 48, .inl sm))] := hD
  refine lv_aload_n hx hb dX3_become_23 rfl (lv_at hl 1 rfl) ?_
  refine xg hF kf_X3_19 hK hP 3 rfl rfl dX3_become_24 ?_
  refine lv_iconst (v := 0) hx hb dX3_become_27 (by decide) ?_
  refine lv_aload_n hx hb dX3_become_28 rfl (lv_at hl 0 rfl) ?_
  refine xg hF kf_X3_19 hK hP 0 rfl rfl dX3_become_29 ?_
  refine lv_iconst (v := 0) hx hb dX3_become_32 (by decide) ?_
  refine lv_bipush (v := 48) hx hb dX3_become_33 (by decide) ?_
  refine va_copyi hx hb (hml.trans hl.1.symm) hown (hu _ uw48) (hu _ uw49) (hu _ uw50) (hu _ uw51) hK hP hD hS 5 2 0 0 rfl rfl rfl rfl rfl (by decide) (by decide) (by decide) (by decide) (by decide) (fun _ _ => rfl) (Nat.le_of_ble_eq_true rfl) (by decide) dX3_become_35 (fun H locs hP hD hS => ?_)
  obtain ⟨f_2, ef_2⟩ : ∃ g, g = va_cpy sm sp (0 : Int32).toNatClampNeg (0 : Int32).toNatClampNeg (48 : Int32).toNatClampNeg := ⟨_, rfl⟩
  rw [← ef_2] at hP hD
  have hf_2 : BA 48 10 f_2 := by rw [ef_2]; exact BA.cpy hsm hsp _ (by decide)
  have hP : va_P D vwCl [(h0, .inr (3, [.int (nI (c2)), .ref an, .ref ap])), (an, .inl (cI, 8, .inl lm)), (ap, .inl (cI, 48, .inl f_2)), (q1, .inr (3, [.int (nI (c2)), .ref bn, .ref bp])), (bn, .inl (cI, 8, .inl lm)), (bp, .inl (cI, 48, .inl sm))] H := hP
  have hD : va_D A [(h0, .inr (3, [.int (nI (c2)), .ref an, .ref ap])), (an, .inl (cI, 8, .inl lm)), (ap, .inl (cI, 48, .inl f_2)), (q1, .inr (3, [.int (nI (c2)), .ref bn, .ref bp])), (bn, .inl (cI, 8, .inl lm)), (bp, .inl (cI, 48, .inl sm))] := hD
  obtain ⟨hP, hD⟩ := xw_cg hP hD 2 rfl (g := sm) (fun j hj => by rw [ef_2]; exact sb_cpy0 (n := 48) hj)
  have hP : va_P D vwCl [(h0, .inr (3, [.int (nI (c2)), .ref an, .ref ap])), (an, .inl (cI, 8, .inl lm)), (ap, .inl (cI, 48, .inl sm)), (q1, .inr (3, [.int (nI (c2)), .ref bn, .ref bp])), (bn, .inl (cI, 8, .inl lm)), (bp, .inl (cI, 48, .inl sm))] H := hP
  have hD : va_D A [(h0, .inr (3, [.int (nI (c2)), .ref an, .ref ap])), (an, .inl (cI, 8, .inl lm)), (ap, .inl (cI, 48, .inl sm)), (q1, .inr (3, [.int (nI (c2)), .ref bn, .ref bp])), (bn, .inl (cI, 8, .inl lm)), (bp, .inl (cI, 48, .inl sm))] := hD
  exact W.vret hx hb hr (fun t ht hW => ⟨⟨(), rfl, trivial, by rw [ht]; exact hP.sub [0, 1, 2, 3, 4, 5] rfl, hD.sub [0, 1, 2, 3, 4, 5] (by decide +kernel) rfl⟩, hS.F ht⟩) hS.2.2 dX3_become_38 hlk
