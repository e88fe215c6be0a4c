def LRX9_narrowed_2 : List UInt8 := []
def LBX9_narrowed_1 : List UInt8 := [0xa0, 0x00, 0x0a, 0x1f, 0x88, 0x93, 0x85, 0xa7, 0x00, 0x04, 0x1f, 0xad]
def LRX9_narrowed_1 : List UInt8 := LBX9_narrowed_1 ++ LRX9_narrowed_2
def LBX9_narrowed_0 : List UInt8 := [0x1a, 0x10, 0x08, 0xa0, 0x00, 0x0a, 0x1f, 0x88, 0x91, 0x85, 0xa7, 0x00, 0x11, 0x1a, 0x10, 0x10]
def LRX9_narrowed_0 : List UInt8 := LBX9_narrowed_0 ++ LRX9_narrowed_1
set_option maxRecDepth 100000 in
theorem LBX9_narrowed_eq : cX9_narrowed.data.toList = LRX9_narrowed_0 := by decide +kernel
theorem LBX9_narrowedr_0 (k : Nat) : cX9_narrowed.data.toList[0 + k]? = LRX9_narrowed_0[k]? := by rw [LBX9_narrowed_eq, Nat.zero_add]
theorem LBX9_narrowedr_1 (k : Nat) : cX9_narrowed.data.toList[16 + k]? = LRX9_narrowed_1[k]? := by
  have h := LBX9_narrowedr_0 (16 + k)
  rw [show 0 + (16 + k) = 16 + k by omega] at h
  rw [h]
  exact (List.getElem?_append_right (l₁ := LBX9_narrowed_0) (l₂ := LRX9_narrowed_1) (show 16 ≤ 16 + k by omega)).trans (congrArg (fun i => LRX9_narrowed_1[i]?) (show 16 + k - 16 = k by omega))
theorem dX9_narrowed_0 : decode cX9_narrowed 0 = .ok (.iload_n 0, 1) := dk_26_ (show cX9_narrowed.data.toList[0]? = some 0x1a from (LBX9_narrowedr_0 0).trans (by decide +kernel))
theorem dX9_narrowed_1 : decode cX9_narrowed 1 = .ok (.bipush 8, 2) := dk_16_ (show cX9_narrowed.data.toList[1]? = some 0x10 from (LBX9_narrowedr_0 1).trans (by decide +kernel)) (show cX9_narrowed.data.toList[2]? = some 0x08 from (LBX9_narrowedr_0 2).trans (by decide +kernel)) (by decide)
theorem dX9_narrowed_3 : decode cX9_narrowed 3 = .ok (.if_icmp .ne 10, 3) := dk_160_ (show cX9_narrowed.data.toList[3]? = some 0xa0 from (LBX9_narrowedr_0 3).trans (by decide +kernel)) (show cX9_narrowed.data.toList[4]? = some 0x00 from (LBX9_narrowedr_0 4).trans (by decide +kernel)) (show cX9_narrowed.data.toList[5]? = some 0x0a from (LBX9_narrowedr_0 5).trans (by decide +kernel)) (by decide)
theorem dX9_narrowed_6 : decode cX9_narrowed 6 = .ok (.lload_n 1, 1) := dk_31_ (show cX9_narrowed.data.toList[6]? = some 0x1f from (LBX9_narrowedr_0 6).trans (by decide +kernel))
theorem dX9_narrowed_7 : decode cX9_narrowed 7 = .ok (.l2i, 1) := dk_136_ (show cX9_narrowed.data.toList[7]? = some 0x88 from (LBX9_narrowedr_0 7).trans (by decide +kernel))
theorem dX9_narrowed_8 : decode cX9_narrowed 8 = .ok (.i2b, 1) := dk_145_ (show cX9_narrowed.data.toList[8]? = some 0x91 from (LBX9_narrowedr_0 8).trans (by decide +kernel))
theorem dX9_narrowed_9 : decode cX9_narrowed 9 = .ok (.i2l, 1) := dk_133_ (show cX9_narrowed.data.toList[9]? = some 0x85 from (LBX9_narrowedr_0 9).trans (by decide +kernel))
theorem dX9_narrowed_10 : decode cX9_narrowed 10 = .ok (.goto 17, 3) := dk_167_ (show cX9_narrowed.data.toList[10]? = some 0xa7 from (LBX9_narrowedr_0 10).trans (by decide +kernel)) (show cX9_narrowed.data.toList[11]? = some 0x00 from (LBX9_narrowedr_0 11).trans (by decide +kernel)) (show cX9_narrowed.data.toList[12]? = some 0x11 from (LBX9_narrowedr_0 12).trans (by decide +kernel)) (by decide)
theorem dX9_narrowed_13 : decode cX9_narrowed 13 = .ok (.iload_n 0, 1) := dk_26_ (show cX9_narrowed.data.toList[13]? = some 0x1a from (LBX9_narrowedr_0 13).trans (by decide +kernel))
theorem dX9_narrowed_14 : decode cX9_narrowed 14 = .ok (.bipush 16, 2) := dk_16_ (show cX9_narrowed.data.toList[14]? = some 0x10 from (LBX9_narrowedr_0 14).trans (by decide +kernel)) (show cX9_narrowed.data.toList[15]? = some 0x10 from (LBX9_narrowedr_0 15).trans (by decide +kernel)) (by decide)
theorem dX9_narrowed_16 : decode cX9_narrowed 16 = .ok (.if_icmp .ne 10, 3) := dk_160_ (show cX9_narrowed.data.toList[16]? = some 0xa0 from (LBX9_narrowedr_1 0).trans (by decide +kernel)) (show cX9_narrowed.data.toList[17]? = some 0x00 from (LBX9_narrowedr_1 1).trans (by decide +kernel)) (show cX9_narrowed.data.toList[18]? = some 0x0a from (LBX9_narrowedr_1 2).trans (by decide +kernel)) (by decide)
theorem dX9_narrowed_19 : decode cX9_narrowed 19 = .ok (.lload_n 1, 1) := dk_31_ (show cX9_narrowed.data.toList[19]? = some 0x1f from (LBX9_narrowedr_1 3).trans (by decide +kernel))
theorem dX9_narrowed_20 : decode cX9_narrowed 20 = .ok (.l2i, 1) := dk_136_ (show cX9_narrowed.data.toList[20]? = some 0x88 from (LBX9_narrowedr_1 4).trans (by decide +kernel))
theorem dX9_narrowed_21 : decode cX9_narrowed 21 = .ok (.i2s, 1) := dk_147_ (show cX9_narrowed.data.toList[21]? = some 0x93 from (LBX9_narrowedr_1 5).trans (by decide +kernel))
theorem dX9_narrowed_22 : decode cX9_narrowed 22 = .ok (.i2l, 1) := dk_133_ (show cX9_narrowed.data.toList[22]? = some 0x85 from (LBX9_narrowedr_1 6).trans (by decide +kernel))
theorem dX9_narrowed_23 : decode cX9_narrowed 23 = .ok (.goto 4, 3) := dk_167_ (show cX9_narrowed.data.toList[23]? = some 0xa7 from (LBX9_narrowedr_1 7).trans (by decide +kernel)) (show cX9_narrowed.data.toList[24]? = some 0x00 from (LBX9_narrowedr_1 8).trans (by decide +kernel)) (show cX9_narrowed.data.toList[25]? = some 0x04 from (LBX9_narrowedr_1 9).trans (by decide +kernel)) (by decide)
theorem dX9_narrowed_26 : decode cX9_narrowed 26 = .ok (.lload_n 1, 1) := dk_31_ (show cX9_narrowed.data.toList[26]? = some 0x1f from (LBX9_narrowedr_1 10).trans (by decide +kernel))
theorem dX9_narrowed_27 : decode cX9_narrowed 27 = .ok (.lreturn, 1) := dk_173_ (show cX9_narrowed.data.toList[27]? = some 0xad from (LBX9_narrowedr_1 11).trans (by decide +kernel))
def LRX9_wrong_2 : List UInt8 := []
def LBX9_wrong_1 : List UInt8 := [0x1b, 0x2e, 0x9a, 0x00, 0x09, 0x13, 0x01, 0x35, 0xa7, 0x00, 0x04, 0x03, 0xac]
def LRX9_wrong_1 : List UInt8 := LBX9_wrong_1 ++ LRX9_wrong_2
def LBX9_wrong_0 : List UInt8 := [0x1b, 0xb8, 0x01, 0x31, 0x9a, 0x00, 0x08, 0x12, 0x38, 0xa7, 0x00, 0x13, 0x2a, 0xb4, 0x00, 0x2b]
def LRX9_wrong_0 : List UInt8 := LBX9_wrong_0 ++ LRX9_wrong_1
set_option maxRecDepth 100000 in
theorem LBX9_wrong_eq : cX9_wrong.data.toList = LRX9_wrong_0 := by decide +kernel
theorem LBX9_wrongr_0 (k : Nat) : cX9_wrong.data.toList[0 + k]? = LRX9_wrong_0[k]? := by rw [LBX9_wrong_eq, Nat.zero_add]
theorem LBX9_wrongr_1 (k : Nat) : cX9_wrong.data.toList[16 + k]? = LRX9_wrong_1[k]? := by
  have h := LBX9_wrongr_0 (16 + k)
  rw [show 0 + (16 + k) = 16 + k by omega] at h
  rw [h]
  exact (List.getElem?_append_right (l₁ := LBX9_wrong_0) (l₂ := LRX9_wrong_1) (show 16 ≤ 16 + k by omega)).trans (congrArg (fun i => LRX9_wrong_1[i]?) (show 16 + k - 16 = k by omega))
theorem dX9_wrong_0 : decode cX9_wrong 0 = .ok (.iload_n 1, 1) := dk_27_ (show cX9_wrong.data.toList[0]? = some 0x1b from (LBX9_wrongr_0 0).trans (by decide +kernel))
theorem dX9_wrong_1 : decode cX9_wrong 1 = .ok (.invokestatic 305, 3) := dk_184_ (show cX9_wrong.data.toList[1]? = some 0xb8 from (LBX9_wrongr_0 1).trans (by decide +kernel)) (show cX9_wrong.data.toList[2]? = some 0x01 from (LBX9_wrongr_0 2).trans (by decide +kernel)) (show cX9_wrong.data.toList[3]? = some 0x31 from (LBX9_wrongr_0 3).trans (by decide +kernel)) (by decide)
theorem dX9_wrong_4 : decode cX9_wrong 4 = .ok (.ifCond .ne 8, 3) := dk_154_ (show cX9_wrong.data.toList[4]? = some 0x9a from (LBX9_wrongr_0 4).trans (by decide +kernel)) (show cX9_wrong.data.toList[5]? = some 0x00 from (LBX9_wrongr_0 5).trans (by decide +kernel)) (show cX9_wrong.data.toList[6]? = some 0x08 from (LBX9_wrongr_0 6).trans (by decide +kernel)) (by decide)
theorem dX9_wrong_7 : decode cX9_wrong 7 = .ok (.ldc 56, 2) := dk_18_ (show cX9_wrong.data.toList[7]? = some 0x12 from (LBX9_wrongr_0 7).trans (by decide +kernel)) (show cX9_wrong.data.toList[8]? = some 0x38 from (LBX9_wrongr_0 8).trans (by decide +kernel)) (by decide)
theorem dX9_wrong_9 : decode cX9_wrong 9 = .ok (.goto 19, 3) := dk_167_ (show cX9_wrong.data.toList[9]? = some 0xa7 from (LBX9_wrongr_0 9).trans (by decide +kernel)) (show cX9_wrong.data.toList[10]? = some 0x00 from (LBX9_wrongr_0 10).trans (by decide +kernel)) (show cX9_wrong.data.toList[11]? = some 0x13 from (LBX9_wrongr_0 11).trans (by decide +kernel)) (by decide)
theorem dX9_wrong_12 : decode cX9_wrong 12 = .ok (.aload_n 0, 1) := dk_42_ (show cX9_wrong.data.toList[12]? = some 0x2a from (LBX9_wrongr_0 12).trans (by decide +kernel))
theorem dX9_wrong_13 : decode cX9_wrong 13 = .ok (.getfield 43, 3) := dk_180_ (show cX9_wrong.data.toList[13]? = some 0xb4 from (LBX9_wrongr_0 13).trans (by decide +kernel)) (show cX9_wrong.data.toList[14]? = some 0x00 from (LBX9_wrongr_0 14).trans (by decide +kernel)) (show cX9_wrong.data.toList[15]? = some 0x2b from (LBX9_wrongr_0 15).trans (by decide +kernel)) (by decide)
theorem dX9_wrong_16 : decode cX9_wrong 16 = .ok (.iload_n 1, 1) := dk_27_ (show cX9_wrong.data.toList[16]? = some 0x1b from (LBX9_wrongr_1 0).trans (by decide +kernel))
theorem dX9_wrong_17 : decode cX9_wrong 17 = .ok (.iaload, 1) := dk_46_ (show cX9_wrong.data.toList[17]? = some 0x2e from (LBX9_wrongr_1 1).trans (by decide +kernel))
theorem dX9_wrong_18 : decode cX9_wrong 18 = .ok (.ifCond .ne 9, 3) := dk_154_ (show cX9_wrong.data.toList[18]? = some 0x9a from (LBX9_wrongr_1 2).trans (by decide +kernel)) (show cX9_wrong.data.toList[19]? = some 0x00 from (LBX9_wrongr_1 3).trans (by decide +kernel)) (show cX9_wrong.data.toList[20]? = some 0x09 from (LBX9_wrongr_1 4).trans (by decide +kernel)) (by decide)
theorem dX9_wrong_21 : decode cX9_wrong 21 = .ok (.ldc_w 309, 3) := dk_19_ (show cX9_wrong.data.toList[21]? = some 0x13 from (LBX9_wrongr_1 5).trans (by decide +kernel)) (show cX9_wrong.data.toList[22]? = some 0x01 from (LBX9_wrongr_1 6).trans (by decide +kernel)) (show cX9_wrong.data.toList[23]? = some 0x35 from (LBX9_wrongr_1 7).trans (by decide +kernel)) (by decide)
theorem dX9_wrong_24 : decode cX9_wrong 24 = .ok (.goto 4, 3) := dk_167_ (show cX9_wrong.data.toList[24]? = some 0xa7 from (LBX9_wrongr_1 8).trans (by decide +kernel)) (show cX9_wrong.data.toList[25]? = some 0x00 from (LBX9_wrongr_1 9).trans (by decide +kernel)) (show cX9_wrong.data.toList[26]? = some 0x04 from (LBX9_wrongr_1 10).trans (by decide +kernel)) (by decide)
theorem dX9_wrong_27 : decode cX9_wrong 27 = .ok (.iconst 0, 1) := dk_3_ (show cX9_wrong.data.toList[27]? = some 0x03 from (LBX9_wrongr_1 11).trans (by decide +kernel))
theorem dX9_wrong_28 : decode cX9_wrong 28 = .ok (.ireturn, 1) := dk_172_ (show cX9_wrong.data.toList[28]? = some 0xac from (LBX9_wrongr_1 12).trans (by decide +kernel))
theorem uw905 : Cond.methodLink RX9 305 yX9_isOne ∈ wsU := ut6 (List.mem_of_getElem? (i := 180) rfl) rfl
theorem uw906 : Cond.static yX9_isOne ∈ wsU := ut6 (List.mem_of_getElem? (i := 181) rfl) rfl
theorem uw907 : Cond.initialized yX9_isOne.cls ∈ wsU := ut1 (List.mem_of_getElem? (i := 10) rfl) rfl
theorem uw908 : Cond.code yX9_isOne cX9_isOne 1 (some .boolean) ∈ wsU := ut6 (List.mem_of_getElem? (i := 182) rfl) rfl
theorem uw909 : Cond.fieldLink RX9 43 "LongerBackModel" "bitsOf" "[I" ∈ wsU := ut4 (List.mem_of_getElem? (i := 231) rfl) rfl
theorem uw910 : Cond.constant RX9 309 (-1000000006) ∈ wsU := ut6 (List.mem_of_getElem? (i := 193) rfl) rfl
theorem ks_X9_305 : xWS RX9 305 yX9_isOne cX9_isOne 1 (some .boolean) 1 := ⟨⟨uw905, uw906, uw907, uw908⟩, by decide +kernel⟩
theorem kf_X9_43 : xWF RX9 43 9 23 RX9 TX9 27 := ⟨inUX9, rfl, by decide, uw909⟩
set_option maxHeartbeats 4000000 in
set_option maxRecDepth 100000 in
theorem c_X9_narrowed (l : Launch) (D : va_G) (cI cJ cZ cS : ClassId) (ta : Nat) (sa sv : Nat → Nat) (sz : Nat) (p0 : Int32) (p1 : Int64) : Met l yX9_narrowed (Cond.code yX9_narrowed cX9_narrowed 3 (some .long) :: wsU) ({ frames := 0, cells := 0, slots := 0, locals := 0 }) (va_Pc [.int p0, .long p1] (XW D (xT cI cJ cZ cS) ta sa sv [] sz)) (vp_Sl (fun r : Int64 => (r = sp_low p0 p1))) 0 0 (fun _ => False) := by
  refine xh (QA := fun _ => vp_Sl (fun r : Int64 => (r = sp_low p0 p1))) (fr := fun _ _ => False) (by decide) (Nat.le_of_ble_eq_true rfl) ?_
  intro p e s m below meth c ls A hF hr hlk hin hsz hP hK hD hN hZ hA hS hl
  have hF : CallFix p m c cX9_narrowed 3 s _ _ RX9 := hF
  have hx := hF.1
  have hb := hF.2.1
  have hml := hF.2.2.1
  have hown := hF.2.2.2.1
  have hu : ∀ w ∈ wsU, w.before _ s = true := fun w h => hF.2.2.2.2 w (List.mem_cons_of_mem _ h)
  have hl : lv_has ls 3 [(0, .int p0), (1, .long p1)] := hl
  refine lv_iload_n hx hb dX9_narrowed_0 rfl (lv_at hl 0 rfl) ?_
  refine lv_bipush (v := 8) hx hb dX9_narrowed_1 (by decide) ?_
  refine lv_icmp_ne (tgt := 13) hx hb dX9_narrowed_3 (by decide) (fun c_1 => ?_) (fun c_1 => ?_)
  · skip
    refine lv_iload_n hx hb dX9_narrowed_13 rfl (lv_at hl 0 rfl) ?_
    refine lv_bipush (v := 16) hx hb dX9_narrowed_14 (by decide) ?_
    refine lv_icmp_ne (tgt := 26) hx hb dX9_narrowed_16 (by decide) (fun c_2 => ?_) (fun c_2 => ?_)
    · skip
      refine lv_lload_n hx hb dX9_narrowed_26 rfl (lv_at hl 1 rfl) ?_
      exact W.lret (v := p1) hx hb hr (fun t ht hW => ⟨p1, rfl, (sp_low64 c_1 c_2), ht⟩) (fun q h => by cases h) dX9_narrowed_27 hlk
    · skip
      refine lv_lload_n hx hb dX9_narrowed_19 rfl (lv_at hl 1 rfl) ?_
      refine lv_l2i (v := p1.toInt32) hx hb dX9_narrowed_20 rfl ?_
      refine lv_i2s hx hb dX9_narrowed_21 rfl ?_
      refine lv_i2l (v := p1.toInt32.toInt16.toInt32.toInt64) hx hb dX9_narrowed_22 rfl ?_
      refine lv_goto (tgt := 27) hx hb dX9_narrowed_23 (by decide) ?_
      exact W.lret (v := p1.toInt32.toInt16.toInt32.toInt64) hx hb hr (fun t ht hW => ⟨p1.toInt32.toInt16.toInt32.toInt64, rfl, (sp_low16 c_1 c_2), ht⟩) (fun q h => by cases h) dX9_narrowed_27 hlk
  · skip
    refine lv_lload_n hx hb dX9_narrowed_6 rfl (lv_at hl 1 rfl) ?_
    refine lv_l2i (v := p1.toInt32) hx hb dX9_narrowed_7 rfl ?_
    refine lv_i2b hx hb dX9_narrowed_8 rfl ?_
    refine lv_i2l (v := p1.toInt32.toInt8.toInt32.toInt64) hx hb dX9_narrowed_9 rfl ?_
    refine lv_goto (tgt := 27) hx hb dX9_narrowed_10 (by decide) ?_
    exact W.lret (v := p1.toInt32.toInt8.toInt32.toInt64) hx hb hr (fun t ht hW => ⟨p1.toInt32.toInt8.toInt32.toInt64, rfl, (sp_low8 c_1), ht⟩) (fun q h => by cases h) dX9_narrowed_27 hlk
set_option maxHeartbeats 4000000 in
set_option maxRecDepth 100000 in
theorem c_X9_wrong (l : Launch) (D : va_G) (cI cJ cZ cS : ClassId) (ta : Nat) (sa sv : Nat → Nat) (sz : Nat) (h0 : Nat) (ys : Nat) (yk : Nat) (yo : Nat) (yt : Nat) (mk0 : Int32) (yfa : Nat) (yfe : Nat) (mL : Int32) (mS : Int32) (mM : Int32) (yro : Nat) (yhe : Nat) (ygr : Nat) (mF : Int32) (mC : Int32) (mY : Int32) (yta : Nat) (mz : Nat) (mf : Nat) (mt : Nat) (mv : Int32) (mw : Int32) (ywa : Nat) (ybi : Nat) (ysi : Nat) (ynu : Nat) (ymo : Nat) (bi : Nat → Int32) (p0 : Int32) : Met l yX9_wrong (Cond.code yX9_wrong cX9_wrong 2 (some .int) :: wsU) ({ frames := 2, cells := 0, slots := 0, locals := 45 }) (va_Pc [.ref h0, .int p0] (XW D (xT cI cJ cZ cS) ta sa sv [(h0, .inr (9, [.ref ys, .ref yk, .ref yo, .ref yt, .int mk0, .ref yfa, .ref yfe, .int mL, .int mS, .int mM, .ref yro, .ref yhe, .ref ygr, .int mF, .int mC, .int mY, .ref yta, .int (nI (mz)), .int (nI (mf)), .int (nI (mt)), .int mv, .int mw, .ref ywa, .ref ybi, .ref ysi, .ref ynu, .ref ymo])), (ybi, .inl (cI, 4, .inl bi))] sz)) (vp_Si (fun r : Int32 => (r = (-1000000001)) ∨ (r = (-1000000006)) ∨ (r = 0 ∧ (¬ p0 < 0) ∧ (¬ 3 < p0)))) 0 0 (fun _ => False) := by
  refine xh (QA := fun _ => vp_Si (fun r : Int32 => (r = (-1000000001)) ∨ (r = (-1000000006)) ∨ (r = 0 ∧ (¬ p0 < 0) ∧ (¬ 3 < p0)))) (fr := fun _ _ => False) (by decide) (Nat.le_of_ble_eq_true rfl) ?_
  intro p e s m below meth c ls A hF hr hlk hin hsz hP hK hD hN hZ hA hS hl
  have hF : CallFix p m c cX9_wrong 2 s _ _ RX9 := hF
  have hx := hF.1
  have hb := hF.2.1
  have hml := hF.2.2.1
  have hown := hF.2.2.2.1
  have hu : ∀ w ∈ wsU, w.before _ s = true := fun w h => hF.2.2.2.2 w (List.mem_cons_of_mem _ h)
  have hl : lv_has ls 2 [(0, .ref h0), (1, .int p0)] := hl
  refine lv_iload_n hx hb dX9_wrong_0 rfl (lv_at hl 1 rfl) ?_
  refine xc_Sr hF (c_X9_isOne l D cI cJ cZ cS ta sa sv s.heap.size p0 ) ks_X9_305 ⟨rfl, rfl, Nat.le_of_ble_eq_true rfl, Nat.le_of_ble_eq_true rfl⟩ ⟨Nat.le_of_ble_eq_true rfl, Nat.le_of_ble_eq_true rfl⟩ hK hN hZ hP hD hS hA [] rfl rfl rfl hl.1 rfl (Nat.le_of_ble_eq_true rfl) dX9_wrong_1 (fun r_1 hw_r_1 => ?_)
  rcases hw_r_1 with ⟨rfl, h_2, h_3⟩ | ⟨rfl, h_4⟩
  · skip
    refine lv_if_ne (tgt := 12) hx hb dX9_wrong_4 (by decide) (fun c_5 => ?_) (fun c_5 => absurd c_5 (by decide))
    refine lv_aload_n hx hb dX9_wrong_12 rfl (lv_at hl 0 rfl) ?_
    refine xg hF kf_X9_43 hK hP 0 rfl rfl dX9_wrong_13 ?_
    refine lv_iload_n hx hb dX9_wrong_16 rfl (lv_at hl 1 rfl) ?_
    refine va_iald hx hb hK hP 1 0 rfl rfl (x_in4 h_2 h_3) dX9_wrong_17 ?_
    refine lv_if_ne (tgt := 27) hx hb dX9_wrong_18 (by decide) (fun c_6 => ?_) (fun c_6 => ?_)
    · skip
      refine lv_iconst (v := 0) hx hb dX9_wrong_27 (by decide) ?_
      exact W.iret (v := 0) hx hb hr (fun t ht hW => ⟨0, rfl, (by first | exact Or.inr (Or.inr (⟨rfl, (by first | assumption | omega | exact Or.inl (by first | assumption | omega) | exact Or.inr (by first | assumption | omega)), (by first | assumption | omega | exact Or.inl (by first | assumption | omega) | exact Or.inr (by first | assumption | omega))⟩))), ht⟩) (fun q h => by cases h) dX9_wrong_28 hlk
    · skip
      refine lv_ldcw (v := (-1000000006)) hx hb hown (hu _ uw910) dX9_wrong_21 ?_
      refine lv_goto (tgt := 28) hx hb dX9_wrong_24 (by decide) ?_
      exact W.iret (v := (-1000000006)) hx hb hr (fun t ht hW => ⟨(-1000000006), rfl, (by first | exact Or.inr (Or.inl rfl)), ht⟩) (fun q h => by cases h) dX9_wrong_28 hlk
  · skip
    refine lv_if_ne (tgt := 12) hx hb dX9_wrong_4 (by decide) (fun c_7 => absurd (by decide) c_7) (fun c_7 => ?_)
    refine lv_ldc (v := (-1000000001)) hx hb hown (hu _ uw648) dX9_wrong_7 ?_
    refine lv_goto (tgt := 28) hx hb dX9_wrong_9 (by decide) ?_
    exact W.iret (v := (-1000000001)) hx hb hr (fun t ht hW => ⟨(-1000000001), rfl, (by first | exact Or.inl rfl), ht⟩) (fun q h => by cases h) dX9_wrong_28 hlk
