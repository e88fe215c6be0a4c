set_option maxHeartbeats 4000000 in
set_option maxRecDepth 100000 in
theorem c_X9_in (l : Launch) (D : va_G) (cI cJ cZ cS : ClassId) (sa : Nat → Nat) (sz : Nat) (p0 : Int32) (p1 : Int32) (p2 : Int32) : Met l yX9_in (Cond.code yX9_in cX9_in 6 (some .boolean) :: wsU) ({ frames := 0, cells := 0, slots := 0, locals := 0 }) (va_Pc [.long p0.toInt64, .long p1.toInt64, .long p2.toInt64] (XW D (xT cI cJ cZ cS) sa [] sz)) (vp_Si (fun r : Int32 => (r = 1 ∧ (¬ p0 < p1) ∧ (¬ p2 < p0)) ∨ (r = 0 ∧ (p0 < p1 ∨ p2 < p0)))) 0 0 (fun _ => False) := by
  refine xh (by decide) (Nat.le_of_ble_eq_true rfl) ?_
  intro p e s m below meth c ls hF hr hlk hin hsz hP hK hD hN hl
  have hF : CallFix p m c cX9_in 6 s _ _ RX9 := hF
  have hx := hF.1
  have hb := hF.2.1
  have hml := hF.2.2.1
  have hown := hF.2.2.2.1
  have hu : ∀ w ∈ wsU, w.before _ s = true := fun w h => hF.2.2.2.2 w (List.mem_cons_of_mem _ h)
  have hl : lv_has ls 6 [(0, .long p0.toInt64), (2, .long p1.toInt64), (4, .long p2.toInt64)] := hl
  refine lv_lload_n hx hb dX9_in_0 rfl (lv_at hl 0 rfl) ?_
  refine lv_lload_n hx hb dX9_in_1 rfl (lv_at hl 1 rfl) ?_
  refine W.lcmp hx hb dX9_in_2 ?_
  refine lv_if_lt (tgt := 17) hx hb dX9_in_3 (by decide) (fun c_1 => ?_) (fun c_1 => ?_)
  · skip
    refine lv_iconst (v := 0) hx hb dX9_in_17 (by decide) ?_
    exact W.zret (v := 0) hx hb hr rfl (fun t ht hW => ⟨0, rfl, Or.inr ⟨rfl, Or.inl (xq1.mp c_1)⟩, ht⟩) (fun q h => by cases h) dX9_in_18 hlk
  · skip
    refine lv_lload_n hx hb dX9_in_6 rfl (lv_at hl 0 rfl) ?_
    refine lv_lload hx hb dX9_in_7 (lv_at hl 2 rfl) ?_
    refine W.lcmp hx hb dX9_in_9 ?_
    refine lv_if_gt (tgt := 17) hx hb dX9_in_10 (by decide) (fun c_2 => ?_) (fun c_2 => ?_)
    · skip
      refine lv_iconst (v := 0) hx hb dX9_in_17 (by decide) ?_
      exact W.zret (v := 0) hx hb hr rfl (fun t ht hW => ⟨0, rfl, Or.inr ⟨rfl, Or.inr (xq2.mp c_2)⟩, ht⟩) (fun q h => by cases h) dX9_in_18 hlk
    · skip
      refine lv_iconst (v := 1) hx hb dX9_in_13 (by decide) ?_
      refine lv_goto (tgt := 18) hx hb dX9_in_14 (by decide) ?_
      exact W.zret (v := 1) hx hb hr rfl (fun t ht hW => ⟨1, rfl, Or.inl ⟨rfl, fun h => c_1 (xq1.mpr h), fun h => c_2 (xq2.mpr h)⟩, ht⟩) (fun q h => by cases h) dX9_in_18 hlk
set_option maxHeartbeats 4000000 in
set_option maxRecDepth 100000 in
theorem c_X9_finds_B (l : Launch) (D : va_G) (cI cJ cZ cS : ClassId) (sa : Nat → Nat) (sz : Nat) (h0 : Nat) (ys : Nat) (yk : Nat) (yo : Nat) (yt : Nat) (yfa : Nat) (yfe : Nat) (yro : Nat) (yhe : Nat) (ygr : Nat) (yta : Nat) (ywa : Nat) (ybi : Nat) (ysi : Nat) (ynu : Nat) (ymo : Nat) (b1 : Int32) (b2 : Int32) (b3 : Int32) (f : Nat → Int32) : Met l yX9_finds (Cond.code yX9_finds cX9_finds 2 (some .int) :: wsU) ({ frames := 0, cells := 0, slots := 0, locals := 0 }) (va_Pc [.ref h0, .int (-1000000001)] (XW D (xT cI cJ cZ cS) sa [(h0, .inr (9, [.ref ys, .ref yk, .ref yo, .ref yt, .int b3, .ref yfa, .ref yfe, .int b1, .int 0, .int 0, .ref yro, .ref yhe, .ref ygr, .int b2, .int 0, .int 0, .ref yta, .int 0, .int 0, .int 0, .int 0, .int 0, .ref ywa, .ref ybi, .ref ysi, .ref ynu, .ref ymo])), (yt, .inl (cI, 7, .inl f))] sz)) (XQi (fun (r : Int32) (_ : Unit) => r = (-1000000001)) D (fun _ : Unit => []) (va_A [(h0, .inr (9, [.ref ys, .ref yk, .ref yo, .ref yt, .int b3, .ref yfa, .ref yfe, .int b1, .int 0, .int 0, .ref yro, .ref yhe, .ref ygr, .int b2, .int 0, .int 0, .ref yta, .int 0, .int 0, .int 0, .int 0, .int 0, .ref ywa, .ref ybi, .ref ysi, .ref ynu, .ref ymo])), (yt, .inl (cI, 7, .inl f))] sz)) 0 0 (va_A [(h0, .inr (9, [.ref ys, .ref yk, .ref yo, .ref yt, .int b3, .ref yfa, .ref yfe, .int b1, .int 0, .int 0, .ref yro, .ref yhe, .ref ygr, .int b2, .int 0, .int 0, .ref yta, .int 0, .int 0, .int 0, .int 0, .int 0, .ref ywa, .ref ybi, .ref ysi, .ref ynu, .ref ymo])), (yt, .inl (cI, 7, .inl f))] sz) := by
  refine xhw (QA := fun A => XQi (fun (r : Int32) (_ : Unit) => r = (-1000000001)) D (fun _ : Unit => []) A) (by decide) (Nat.le_of_ble_eq_true rfl) ?_
  intro p e s m below meth c ls A hF hr hlk hin hsz hP hK hD hN hA hS hl
  have hF : CallFix p m c cX9_finds 2 s _ _ RX9 := hF
  have hx := hF.1
  have hb := hF.2.1
  have hml := hF.2.2.1
  have hown := hF.2.2.2.1
  have hu : ∀ w ∈ wsU, w.before _ s = true := fun w h => hF.2.2.2.2 w (List.mem_cons_of_mem _ h)
  have hl : lv_has ls 2 [(0, .ref h0), (1, .int (-1000000001))] := hl
  refine lv_aload_n hx hb dX9_finds_0 rfl (lv_at hl 0 rfl) ?_
  refine xg hF kf_X9_19 hK hP 0 rfl rfl dX9_finds_1 ?_
  refine lv_ldc (v := (-1000000001)) hx hb hown (hu _ uw352) dX9_finds_4 ?_
  refine lv_iload_n hx hb dX9_finds_6 rfl (lv_at hl 1 rfl) ?_
  refine lv_isub hx hb dX9_finds_7 ?_
  refine xl_i (y := 0) (by decide) ?_
  refine lv_dup2_11 hx hb dX9_finds_8 rfl rfl ?_
  refine va_iald hx hb hK hP 1 0 rfl rfl (xin 0 7 (by decide) (by decide)) dX9_finds_9 ?_
  refine xl_i (y := f 0) (congrArg f rfl) ?_
  refine lv_iconst (v := 1) hx hb dX9_finds_10 (by decide) ?_
  refine lv_iadd hx hb dX9_finds_11 ?_
  refine va_iast hx hb hK hP hD hS 1 0 rfl rfl (xin 0 7 (by decide) (by decide)) dX9_finds_12 (fun H locs hP hD hS => ?_)
  obtain ⟨f_1, ef_1⟩ : ∃ g, g = upd f (0 : Int32).toNatClampNeg ((f 0) + 1) := ⟨_, rfl⟩
  rw [← ef_1] at hP hD
  have hP : va_P D vwCl [(h0, .inr (9, [.ref ys, .ref yk, .ref yo, .ref yt, .int b3, .ref yfa, .ref yfe, .int b1, .int 0, .int 0, .ref yro, .ref yhe, .ref ygr, .int b2, .int 0, .int 0, .ref yta, .int 0, .int 0, .int 0, .int 0, .int 0, .ref ywa, .ref ybi, .ref ysi, .ref ynu, .ref ymo])), (yt, .inl (cI, 7, .inl f_1))] H := hP
  have hD : va_D A [(h0, .inr (9, [.ref ys, .ref yk, .ref yo, .ref yt, .int b3, .ref yfa, .ref yfe, .int b1, .int 0, .int 0, .ref yro, .ref yhe, .ref ygr, .int b2, .int 0, .int 0, .ref yta, .int 0, .int 0, .int 0, .int 0, .int 0, .ref ywa, .ref ybi, .ref ysi, .ref ynu, .ref ymo])), (yt, .inl (cI, 7, .inl f_1))] := hD
  refine lv_iload_n hx hb dX9_finds_13 rfl (lv_at hl 1 rfl) ?_
  exact W.iret (v := (-1000000001)) hx hb hr (fun t ht hW => ⟨⟨(-1000000001), (), rfl, rfl, by rw [ht]; exact hP.sub [] rfl, hD.sub [] (by decide) rfl⟩, hS.F ht⟩) hS.2.2 dX9_finds_14 hlk
set_option maxHeartbeats 4000000 in
set_option maxRecDepth 100000 in
theorem c_X9_finds_N (l : Launch) (D : va_G) (cI cJ cZ cS : ClassId) (sa : Nat → Nat) (sz : Nat) (h0 : Nat) (ys : Nat) (yk : Nat) (yo : Nat) (yt : Nat) (yfa : Nat) (yfe : Nat) (yro : Nat) (yhe : Nat) (ygr : Nat) (yta : Nat) (ywa : Nat) (ybi : Nat) (ysi : Nat) (ynu : Nat) (ymo : Nat) (b1 : Int32) (b2 : Int32) (b3 : Int32) (f : Nat → Int32) : Met l yX9_finds (Cond.code yX9_finds cX9_finds 2 (some .int) :: wsU) ({ frames := 0, cells := 0, slots := 0, locals := 0 }) (va_Pc [.ref h0, .int (-1000000004)] (XW D (xT cI cJ cZ cS) sa [(h0, .inr (9, [.ref ys, .ref yk, .ref yo, .ref yt, .int b3, .ref yfa, .ref yfe, .int b1, .int 0, .int 0, .ref yro, .ref yhe, .ref ygr, .int b2, .int 0, .int 0, .ref yta, .int 0, .int 0, .int 0, .int 0, .int 0, .ref ywa, .ref ybi, .ref ysi, .ref ynu, .ref ymo])), (yt, .inl (cI, 7, .inl f))] sz)) (XQi (fun (r : Int32) (_ : Unit) => r = (-1000000004)) D (fun _ : Unit => []) (va_A [(h0, .inr (9, [.ref ys, .ref yk, .ref yo, .ref yt, .int b3, .ref yfa, .ref yfe, .int b1, .int 0, .int 0, .ref yro, .ref yhe, .ref ygr, .int b2, .int 0, .int 0, .ref yta, .int 0, .int 0, .int 0, .int 0, .int 0, .ref ywa, .ref ybi, .ref ysi, .ref ynu, .ref ymo])), (yt, .inl (cI, 7, .inl f))] sz)) 0 0 (va_A [(h0, .inr (9, [.ref ys, .ref yk, .ref yo, .ref yt, .int b3, .ref yfa, .ref yfe, .int b1, .int 0, .int 0, .ref yro, .ref yhe, .ref ygr, .int b2, .int 0, .int 0, .ref yta, .int 0, .int 0, .int 0, .int 0, .int 0, .ref ywa, .ref ybi, .ref ysi, .ref ynu, .ref ymo])), (yt, .inl (cI, 7, .inl f))] sz) := by
  refine xhw (QA := fun A => XQi (fun (r : Int32) (_ : Unit) => r = (-1000000004)) D (fun _ : Unit => []) A) (by decide) (Nat.le_of_ble_eq_true rfl) ?_
  intro p e s m below meth c ls A hF hr hlk hin hsz hP hK hD hN hA hS hl
  have hF : CallFix p m c cX9_finds 2 s _ _ RX9 := hF
  have hx := hF.1
  have hb := hF.2.1
  have hml := hF.2.2.1
  have hown := hF.2.2.2.1
  have hu : ∀ w ∈ wsU, w.before _ s = true := fun w h => hF.2.2.2.2 w (List.mem_cons_of_mem _ h)
  have hl : lv_has ls 2 [(0, .ref h0), (1, .int (-1000000004))] := hl
  refine lv_aload_n hx hb dX9_finds_0 rfl (lv_at hl 0 rfl) ?_
  refine xg hF kf_X9_19 hK hP 0 rfl rfl dX9_finds_1 ?_
  refine lv_ldc (v := (-1000000001)) hx hb hown (hu _ uw352) dX9_finds_4 ?_
  refine lv_iload_n hx hb dX9_finds_6 rfl (lv_at hl 1 rfl) ?_
  refine lv_isub hx hb dX9_finds_7 ?_
  refine xl_i (y := 3) (by decide) ?_
  refine lv_dup2_11 hx hb dX9_finds_8 rfl rfl ?_
  refine va_iald hx hb hK hP 1 0 rfl rfl (xin 3 7 (by decide) (by decide)) dX9_finds_9 ?_
  refine xl_i (y := f 3) (congrArg f rfl) ?_
  refine lv_iconst (v := 1) hx hb dX9_finds_10 (by decide) ?_
  refine lv_iadd hx hb dX9_finds_11 ?_
  refine va_iast hx hb hK hP hD hS 1 0 rfl rfl (xin 3 7 (by decide) (by decide)) dX9_finds_12 (fun H locs hP hD hS => ?_)
  obtain ⟨f_1, ef_1⟩ : ∃ g, g = upd f (3 : Int32).toNatClampNeg ((f 3) + 1) := ⟨_, rfl⟩
  rw [← ef_1] at hP hD
  have hP : va_P D vwCl [(h0, .inr (9, [.ref ys, .ref yk, .ref yo, .ref yt, .int b3, .ref yfa, .ref yfe, .int b1, .int 0, .int 0, .ref yro, .ref yhe, .ref ygr, .int b2, .int 0, .int 0, .ref yta, .int 0, .int 0, .int 0, .int 0, .int 0, .ref ywa, .ref ybi, .ref ysi, .ref ynu, .ref ymo])), (yt, .inl (cI, 7, .inl f_1))] H := hP
  have hD : va_D A [(h0, .inr (9, [.ref ys, .ref yk, .ref yo, .ref yt, .int b3, .ref yfa, .ref yfe, .int b1, .int 0, .int 0, .ref yro, .ref yhe, .ref ygr, .int b2, .int 0, .int 0, .ref yta, .int 0, .int 0, .int 0, .int 0, .int 0, .ref ywa, .ref ybi, .ref ysi, .ref ynu, .ref ymo])), (yt, .inl (cI, 7, .inl f_1))] := hD
  refine lv_iload_n hx hb dX9_finds_13 rfl (lv_at hl 1 rfl) ?_
  exact W.iret (v := (-1000000004)) hx hb hr (fun t ht hW => ⟨⟨(-1000000004), (), rfl, rfl, by rw [ht]; exact hP.sub [] rfl, hD.sub [] (by decide) rfl⟩, hS.F ht⟩) hS.2.2 dX9_finds_14 hlk
set_option maxHeartbeats 4000000 in
set_option maxRecDepth 100000 in
theorem c_X9_finds_M (l : Launch) (D : va_G) (cI cJ cZ cS : ClassId) (sa : Nat → Nat) (sz : Nat) (h0 : Nat) (ys : Nat) (yk : Nat) (yo : Nat) (yt : Nat) (yfa : Nat) (yfe : Nat) (yro : Nat) (yhe : Nat) (ygr : Nat) (yta : Nat) (ywa : Nat) (ybi : Nat) (ysi : Nat) (ynu : Nat) (ymo : Nat) (b1 : Int32) (b2 : Int32) (b3 : Int32) (f : Nat → Int32) : Met l yX9_finds (Cond.code yX9_finds cX9_finds 2 (some .int) :: wsU) ({ frames := 0, cells := 0, slots := 0, locals := 0 }) (va_Pc [.ref h0, .int (-1000000006)] (XW D (xT cI cJ cZ cS) sa [(h0, .inr (9, [.ref ys, .ref yk, .ref yo, .ref yt, .int b3, .ref yfa, .ref yfe, .int b1, .int 0, .int 0, .ref yro, .ref yhe, .ref ygr, .int b2, .int 0, .int 0, .ref yta, .int 0, .int 0, .int 0, .int 0, .int 0, .ref ywa, .ref ybi, .ref ysi, .ref ynu, .ref ymo])), (yt, .inl (cI, 7, .inl f))] sz)) (XQi (fun (r : Int32) (_ : Unit) => r = (-1000000006)) D (fun _ : Unit => []) (va_A [(h0, .inr (9, [.ref ys, .ref yk, .ref yo, .ref yt, .int b3, .ref yfa, .ref yfe, .int b1, .int 0, .int 0, .ref yro, .ref yhe, .ref ygr, .int b2, .int 0, .int 0, .ref yta, .int 0, .int 0, .int 0, .int 0, .int 0, .ref ywa, .ref ybi, .ref ysi, .ref ynu, .ref ymo])), (yt, .inl (cI, 7, .inl f))] sz)) 0 0 (va_A [(h0, .inr (9, [.ref ys, .ref yk, .ref yo, .ref yt, .int b3, .ref yfa, .ref yfe, .int b1, .int 0, .int 0, .ref yro, .ref yhe, .ref ygr, .int b2, .int 0, .int 0, .ref yta, .int 0, .int 0, .int 0, .int 0, .int 0, .ref ywa, .ref ybi, .ref ysi, .ref ynu, .ref ymo])), (yt, .inl (cI, 7, .inl f))] sz) := by
  refine xhw (QA := fun A => XQi (fun (r : Int32) (_ : Unit) => r = (-1000000006)) D (fun _ : Unit => []) A) (by decide) (Nat.le_of_ble_eq_true rfl) ?_
  intro p e s m below meth c ls A hF hr hlk hin hsz hP hK hD hN hA hS hl
  have hF : CallFix p m c cX9_finds 2 s _ _ RX9 := hF
  have hx := hF.1
  have hb := hF.2.1
  have hml := hF.2.2.1
  have hown := hF.2.2.2.1
  have hu : ∀ w ∈ wsU, w.before _ s = true := fun w h => hF.2.2.2.2 w (List.mem_cons_of_mem _ h)
  have hl : lv_has ls 2 [(0, .ref h0), (1, .int (-1000000006))] := hl
  refine lv_aload_n hx hb dX9_finds_0 rfl (lv_at hl 0 rfl) ?_
  refine xg hF kf_X9_19 hK hP 0 rfl rfl dX9_finds_1 ?_
  refine lv_ldc (v := (-1000000001)) hx hb hown (hu _ uw352) dX9_finds_4 ?_
  refine lv_iload_n hx hb dX9_finds_6 rfl (lv_at hl 1 rfl) ?_
  refine lv_isub hx hb dX9_finds_7 ?_
  refine xl_i (y := 5) (by decide) ?_
  refine lv_dup2_11 hx hb dX9_finds_8 rfl rfl ?_
  refine va_iald hx hb hK hP 1 0 rfl rfl (xin 5 7 (by decide) (by decide)) dX9_finds_9 ?_
  refine xl_i (y := f 5) (congrArg f rfl) ?_
  refine lv_iconst (v := 1) hx hb dX9_finds_10 (by decide) ?_
  refine lv_iadd hx hb dX9_finds_11 ?_
  refine va_iast hx hb hK hP hD hS 1 0 rfl rfl (xin 5 7 (by decide) (by decide)) dX9_finds_12 (fun H locs hP hD hS => ?_)
  obtain ⟨f_1, ef_1⟩ : ∃ g, g = upd f (5 : Int32).toNatClampNeg ((f 5) + 1) := ⟨_, rfl⟩
  rw [← ef_1] at hP hD
  have hP : va_P D vwCl [(h0, .inr (9, [.ref ys, .ref yk, .ref yo, .ref yt, .int b3, .ref yfa, .ref yfe, .int b1, .int 0, .int 0, .ref yro, .ref yhe, .ref ygr, .int b2, .int 0, .int 0, .ref yta, .int 0, .int 0, .int 0, .int 0, .int 0, .ref ywa, .ref ybi, .ref ysi, .ref ynu, .ref ymo])), (yt, .inl (cI, 7, .inl f_1))] H := hP
  have hD : va_D A [(h0, .inr (9, [.ref ys, .ref yk, .ref yo, .ref yt, .int b3, .ref yfa, .ref yfe, .int b1, .int 0, .int 0, .ref yro, .ref yhe, .ref ygr, .int b2, .int 0, .int 0, .ref yta, .int 0, .int 0, .int 0, .int 0, .int 0, .ref ywa, .ref ybi, .ref ysi, .ref ynu, .ref ymo])), (yt, .inl (cI, 7, .inl f_1))] := hD
  refine lv_iload_n hx hb dX9_finds_13 rfl (lv_at hl 1 rfl) ?_
  exact W.iret (v := (-1000000006)) hx hb hr (fun t ht hW => ⟨⟨(-1000000006), (), rfl, rfl, by rw [ht]; exact hP.sub [] rfl, hD.sub [] (by decide) rfl⟩, hS.F ht⟩) hS.2.2 dX9_finds_14 hlk
set_option maxHeartbeats 4000000 in
set_option maxRecDepth 100000 in
theorem c_X9_finds_S (l : Launch) (D : va_G) (cI cJ cZ cS : ClassId) (sa : Nat → Nat) (sz : Nat) (h0 : Nat) (ys : Nat) (yk : Nat) (yo : Nat) (yt : Nat) (yfa : Nat) (yfe : Nat) (yro : Nat) (yhe : Nat) (ygr : Nat) (yta : Nat) (ywa : Nat) (ybi : Nat) (ysi : Nat) (ynu : Nat) (ymo : Nat) (b1 : Int32) (b2 : Int32) (b3 : Int32) (f : Nat → Int32) : Met l yX9_finds (Cond.code yX9_finds cX9_finds 2 (some .int) :: wsU) ({ frames := 0, cells := 0, slots := 0, locals := 0 }) (va_Pc [.ref h0, .int (-1000000007)] (XW D (xT cI cJ cZ cS) sa [(h0, .inr (9, [.ref ys, .ref yk, .ref yo, .ref yt, .int b3, .ref yfa, .ref yfe, .int b1, .int 0, .int 0, .ref yro, .ref yhe, .ref ygr, .int b2, .int 0, .int 0, .ref yta, .int 0, .int 0, .int 0, .int 0, .int 0, .ref ywa, .ref ybi, .ref ysi, .ref ynu, .ref ymo])), (yt, .inl (cI, 7, .inl f))] sz)) (XQi (fun (r : Int32) (_ : Unit) => r = (-1000000007)) D (fun _ : Unit => []) (va_A [(h0, .inr (9, [.ref ys, .ref yk, .ref yo, .ref yt, .int b3, .ref yfa, .ref yfe, .int b1, .int 0, .int 0, .ref yro, .ref yhe, .ref ygr, .int b2, .int 0, .int 0, .ref yta, .int 0, .int 0, .int 0, .int 0, .int 0, .ref ywa, .ref ybi, .ref ysi, .ref ynu, .ref ymo])), (yt, .inl (cI, 7, .inl f))] sz)) 0 0 (va_A [(h0, .inr (9, [.ref ys, .ref yk, .ref yo, .ref yt, .int b3, .ref yfa, .ref yfe, .int b1, .int 0, .int 0, .ref yro, .ref yhe, .ref ygr, .int b2, .int 0, .int 0, .ref yta, .int 0, .int 0, .int 0, .int 0, .int 0, .ref ywa, .ref ybi, .ref ysi, .ref ynu, .ref ymo])), (yt, .inl (cI, 7, .inl f))] sz) := by
  refine xhw (QA := fun A => XQi (fun (r : Int32) (_ : Unit) => r = (-1000000007)) D (fun _ : Unit => []) A) (by decide) (Nat.le_of_ble_eq_true rfl) ?_
  intro p e s m below meth c ls A hF hr hlk hin hsz hP hK hD hN hA hS hl
  have hF : CallFix p m c cX9_finds 2 s _ _ RX9 := hF
  have hx := hF.1
  have hb := hF.2.1
  have hml := hF.2.2.1
  have hown := hF.2.2.2.1
  have hu : ∀ w ∈ wsU, w.before _ s = true := fun w h => hF.2.2.2.2 w (List.mem_cons_of_mem _ h)
  have hl : lv_has ls 2 [(0, .ref h0), (1, .int (-1000000007))] := hl
  refine lv_aload_n hx hb dX9_finds_0 rfl (lv_at hl 0 rfl) ?_
  refine xg hF kf_X9_19 hK hP 0 rfl rfl dX9_finds_1 ?_
  refine lv_ldc (v := (-1000000001)) hx hb hown (hu _ uw352) dX9_finds_4 ?_
  refine lv_iload_n hx hb dX9_finds_6 rfl (lv_at hl 1 rfl) ?_
  refine lv_isub hx hb dX9_finds_7 ?_
  refine xl_i (y := 6) (by decide) ?_
  refine lv_dup2_11 hx hb dX9_finds_8 rfl rfl ?_
  refine va_iald hx hb hK hP 1 0 rfl rfl (xin 6 7 (by decide) (by decide)) dX9_finds_9 ?_
  refine xl_i (y := f 6) (congrArg f rfl) ?_
  refine lv_iconst (v := 1) hx hb dX9_finds_10 (by decide) ?_
  refine lv_iadd hx hb dX9_finds_11 ?_
  refine va_iast hx hb hK hP hD hS 1 0 rfl rfl (xin 6 7 (by decide) (by decide)) dX9_finds_12 (fun H locs hP hD hS => ?_)
  obtain ⟨f_1, ef_1⟩ : ∃ g, g = upd f (6 : Int32).toNatClampNeg ((f 6) + 1) := ⟨_, rfl⟩
  rw [← ef_1] at hP hD
  have hP : va_P D vwCl [(h0, .inr (9, [.ref ys, .ref yk, .ref yo, .ref yt, .int b3, .ref yfa, .ref yfe, .int b1, .int 0, .int 0, .ref yro, .ref yhe, .ref ygr, .int b2, .int 0, .int 0, .ref yta, .int 0, .int 0, .int 0, .int 0, .int 0, .ref ywa, .ref ybi, .ref ysi, .ref ynu, .ref ymo])), (yt, .inl (cI, 7, .inl f_1))] H := hP
  have hD : va_D A [(h0, .inr (9, [.ref ys, .ref yk, .ref yo, .ref yt, .int b3, .ref yfa, .ref yfe, .int b1, .int 0, .int 0, .ref yro, .ref yhe, .ref ygr, .int b2, .int 0, .int 0, .ref yta, .int 0, .int 0, .int 0, .int 0, .int 0, .ref ywa, .ref ybi, .ref ysi, .ref ynu, .ref ymo])), (yt, .inl (cI, 7, .inl f_1))] := hD
  refine lv_iload_n hx hb dX9_finds_13 rfl (lv_at hl 1 rfl) ?_
  exact W.iret (v := (-1000000007)) hx hb hr (fun t ht hW => ⟨⟨(-1000000007), (), rfl, rfl, by rw [ht]; exact hP.sub [] rfl, hD.sub [] (by decide) rfl⟩, hS.F ht⟩) hS.2.2 dX9_finds_14 hlk
set_option maxHeartbeats 4000000 in
set_option maxRecDepth 100000 in
theorem c_X9_isPlace (l : Launch) (D : va_G) (cI cJ cZ cS : ClassId) (sa : Nat → Nat) (sz : Nat) (h0 : Nat) (ys : Nat) (yk : Nat) (yo : Nat) (yt : Nat) (yfa : Nat) (yfe : Nat) (yro : Nat) (yhe : Nat) (ygr : Nat) (yta : Nat) (ywa : Nat) (ybi : Nat) (ysi : Nat) (ynu : Nat) (ymo : Nat) (p0 : Int32) : Met l yX9_isPlace (Cond.code yX9_isPlace cX9_isPlace 2 (some .boolean) :: wsU) ({ frames := 1, cells := 0, slots := 0, locals := 25 }) (va_Pc [.ref h0, .int p0] (XW D (xT cI cJ cZ cS) sa [(h0, .inr (9, [.ref ys, .ref yk, .ref yo, .ref yt, .int 0, .ref yfa, .ref yfe, .int 0, .int 0, .int 0, .ref yro, .ref yhe, .ref ygr, .int 0, .int 0, .int 0, .ref yta, .int 0, .int 0, .int 0, .int 0, .int 0, .ref ywa, .ref ybi, .ref ysi, .ref ynu, .ref ymo])), (ys, .inl (cI, 449, .inl (fun _ => 0)))] sz)) (vp_Si (fun r : Int32 => r = 0)) 0 0 (fun _ => False) := by
  refine xh (by decide) (Nat.le_of_ble_eq_true rfl) ?_
  intro p e s m below meth c ls hF hr hlk hin hsz hP hK hD hN hl
  have hF : CallFix p m c cX9_isPlace 2 s _ _ RX9 := hF
  have hx := hF.1
  have hb := hF.2.1
  have hml := hF.2.2.1
  have hown := hF.2.2.2.1
  have hu : ∀ w ∈ wsU, w.before _ s = true := fun w h => hF.2.2.2.2 w (List.mem_cons_of_mem _ h)
  have hl : lv_has ls 2 [(0, .ref h0), (1, .int p0)] := hl
  refine lv_iload_n hx hb dX9_isPlace_0 rfl (lv_at hl 1 rfl) ?_
  refine lv_i2l (v := p0.toInt64) hx hb dX9_isPlace_1 rfl ?_
  refine lv_lconst (v := 0) hx hb dX9_isPlace_2 (by decide) ?_
  refine xl_l (y := (0 : Int32).toInt64) (by decide) ?_
  refine lv_aload_n hx hb dX9_isPlace_3 rfl (lv_at hl 0 rfl) ?_
  refine xg hF kf_X9_7 hK hP 0 rfl rfl dX9_isPlace_4 ?_
  refine lv_iconst (v := 0) hx hb dX9_isPlace_7 (by decide) ?_
  refine va_iald hx hb hK hP 1 0 rfl rfl (xin 0 449 (by decide) (by decide)) dX9_isPlace_8 ?_
  refine xl_i (y := 0) rfl ?_
  refine lv_iconst (v := 1) hx hb dX9_isPlace_9 (by decide) ?_
  refine lv_isub hx hb dX9_isPlace_10 ?_
  refine xl_i (y := (-1)) (by decide) ?_
  refine lv_i2l (v := ((-1) : Int32).toInt64) hx hb dX9_isPlace_11 rfl ?_
  refine xc_Sr hF (c_X9_in l D cI cJ cZ cS sa s.heap.size p0 0 ((-1) : Int32) ) ks_X9_57 ⟨rfl, rfl, Nat.le_of_ble_eq_true rfl, Nat.le_of_ble_eq_true rfl⟩ ⟨Nat.le_of_ble_eq_true rfl, Nat.le_of_ble_eq_true rfl⟩ hK hN hP hD [] rfl rfl rfl hl.1 rfl (Nat.le_of_ble_eq_true rfl) dX9_isPlace_12 (fun r_1 hw_r_1 => ?_)
  rcases hw_r_1 with ⟨rfl, h_2, h_3⟩ | ⟨rfl, h_4⟩
  · exact (x_m1 h_2 h_3).elim
  · skip
    exact W.zret (v := 0) hx hb hr rfl (fun t ht hW => ⟨0, rfl, rfl, ht⟩) (fun q h => by cases h) dX9_isPlace_15 hlk
set_option maxHeartbeats 4000000 in
set_option maxRecDepth 100000 in
theorem c_X9_isRound (l : Launch) (D : va_G) (cI cJ cZ cS : ClassId) (sa : Nat → Nat) (sz : Nat) (h0 : Nat) (ys : Nat) (yk : Nat) (yo : Nat) (yt : Nat) (yfa : Nat) (yfe : Nat) (yro : Nat) (yhe : Nat) (ygr : Nat) (yta : Nat) (ywa : Nat) (ybi : Nat) (ysi : Nat) (ynu : Nat) (ymo : Nat) (p0 : Int32) : Met l yX9_isRound (Cond.code yX9_isRound cX9_isRound 2 (some .boolean) :: wsU) ({ frames := 1, cells := 0, slots := 0, locals := 25 }) (va_Pc [.ref h0, .int p0] (XW D (xT cI cJ cZ cS) sa [(h0, .inr (9, [.ref ys, .ref yk, .ref yo, .ref yt, .int 0, .ref yfa, .ref yfe, .int 0, .int 0, .int 0, .ref yro, .ref yhe, .ref ygr, .int 0, .int 0, .int 0, .ref yta, .int 0, .int 0, .int 0, .int 0, .int 0, .ref ywa, .ref ybi, .ref ysi, .ref ynu, .ref ymo])), (ys, .inl (cI, 449, .inl (fun _ => 0)))] sz)) (vp_Si (fun r : Int32 => r = 0)) 0 0 (fun _ => False) := by
  refine xh (by decide) (Nat.le_of_ble_eq_true rfl) ?_
  intro p e s m below meth c ls hF hr hlk hin hsz hP hK hD hN hl
  have hF : CallFix p m c cX9_isRound 2 s _ _ RX9 := hF
  have hx := hF.1
  have hb := hF.2.1
  have hml := hF.2.2.1
  have hown := hF.2.2.2.1
  have hu : ∀ w ∈ wsU, w.before _ s = true := fun w h => hF.2.2.2.2 w (List.mem_cons_of_mem _ h)
  have hl : lv_has ls 2 [(0, .ref h0), (1, .int p0)] := hl
  refine lv_iload_n hx hb dX9_isRound_0 rfl (lv_at hl 1 rfl) ?_
  refine lv_i2l (v := p0.toInt64) hx hb dX9_isRound_1 rfl ?_
  refine lv_lconst (v := 0) hx hb dX9_isRound_2 (by decide) ?_
  refine xl_l (y := (0 : Int32).toInt64) (by decide) ?_
  refine lv_aload_n hx hb dX9_isRound_3 rfl (lv_at hl 0 rfl) ?_
  refine xg hF kf_X9_7 hK hP 0 rfl rfl dX9_isRound_4 ?_
  refine lv_iconst (v := 1) hx hb dX9_isRound_7 (by decide) ?_
  refine va_iald hx hb hK hP 1 0 rfl rfl (xin 1 449 (by decide) (by decide)) dX9_isRound_8 ?_
  refine xl_i (y := 0) rfl ?_
  refine lv_iconst (v := 1) hx hb dX9_isRound_9 (by decide) ?_
  refine lv_isub hx hb dX9_isRound_10 ?_
  refine xl_i (y := (-1)) (by decide) ?_
  refine lv_i2l (v := ((-1) : Int32).toInt64) hx hb dX9_isRound_11 rfl ?_
  refine xc_Sr hF (c_X9_in l D cI cJ cZ cS sa s.heap.size p0 0 ((-1) : Int32) ) ks_X9_57 ⟨rfl, rfl, Nat.le_of_ble_eq_true rfl, Nat.le_of_ble_eq_true rfl⟩ ⟨Nat.le_of_ble_eq_true rfl, Nat.le_of_ble_eq_true rfl⟩ hK hN hP hD [] rfl rfl rfl hl.1 rfl (Nat.le_of_ble_eq_true rfl) dX9_isRound_12 (fun r_1 hw_r_1 => ?_)
  rcases hw_r_1 with ⟨rfl, h_2, h_3⟩ | ⟨rfl, h_4⟩
  · exact (x_m1 h_2 h_3).elim
  · skip
    exact W.zret (v := 0) hx hb hr rfl (fun t ht hW => ⟨0, rfl, rfl, ht⟩) (fun q h => by cases h) dX9_isRound_15 hlk
set_option maxHeartbeats 4000000 in
set_option maxRecDepth 100000 in
theorem c_X9_areTwo (l : Launch) (D : va_G) (cI cJ cZ cS : ClassId) (sa : Nat → Nat) (sz : Nat) (h0 : Nat) (ys : Nat) (yk : Nat) (yo : Nat) (yt : Nat) (yfa : Nat) (yfe : Nat) (yro : Nat) (yhe : Nat) (ygr : Nat) (yta : Nat) (ywa : Nat) (ybi : Nat) (ysi : Nat) (ynu : Nat) (ymo : Nat) (p0 : Int32) (p1 : Int32) : Met l yX9_areTwo (Cond.code yX9_areTwo cX9_areTwo 3 (some .boolean) :: wsU) ({ frames := 2, cells := 0, slots := 0, locals := 46 }) (va_Pc [.ref h0, .int p0, .int p1] (XW D (xT cI cJ cZ cS) sa [(h0, .inr (9, [.ref ys, .ref yk, .ref yo, .ref yt, .int 0, .ref yfa, .ref yfe, .int 0, .int 0, .int 0, .ref yro, .ref yhe, .ref ygr, .int 0, .int 0, .int 0, .ref yta, .int 0, .int 0, .int 0, .int 0, .int 0, .ref ywa, .ref ybi, .ref ysi, .ref ynu, .ref ymo])), (ys, .inl (cI, 449, .inl (fun _ => 0)))] sz)) (vp_Si (fun r : Int32 => r = 0)) 0 0 (fun _ => False) := by
  refine xh (by decide) (Nat.le_of_ble_eq_true rfl) ?_
  intro p e s m below meth c ls hF hr hlk hin hsz hP hK hD hN hl
  have hF : CallFix p m c cX9_areTwo 3 s _ _ RX9 := hF
  have hx := hF.1
  have hb := hF.2.1
  have hml := hF.2.2.1
  have hown := hF.2.2.2.1
  have hu : ∀ w ∈ wsU, w.before _ s = true := fun w h => hF.2.2.2.2 w (List.mem_cons_of_mem _ h)
  have hl : lv_has ls 3 [(0, .ref h0), (1, .int p0), (2, .int p1)] := hl
  refine lv_aload_n hx hb dX9_areTwo_0 rfl (lv_at hl 0 rfl) ?_
  refine lv_iload_n hx hb dX9_areTwo_1 rfl (lv_at hl 1 rfl) ?_
  refine xc_Vr hF (c_X9_isPlace l D cI cJ cZ cS sa s.heap.size h0 ys yk yo yt yfa yfe yro yhe ygr yta ywa ybi ysi ynu ymo p0 ) kv_X9_61 ⟨rfl, rfl, Nat.le_of_ble_eq_true rfl, Nat.le_of_ble_eq_true rfl⟩ ⟨Nat.le_of_ble_eq_true rfl, Nat.le_of_ble_eq_true rfl⟩ hK hN hP hD [0, 1] rfl rfl 0 rfl rfl rfl rfl hl.1 rfl (Nat.le_of_ble_eq_true rfl) dX9_areTwo_2 (fun r_1 hw_r_1 => ?_)
  subst hw_r_1
  refine lv_if_eq (tgt := 25) hx hb dX9_areTwo_5 (by decide) (fun c_2 => ?_) (fun c_2 => absurd (by decide) c_2)
  refine lv_iconst (v := 0) hx hb dX9_areTwo_25 (by decide) ?_
  exact W.zret (v := 0) hx hb hr rfl (fun t ht hW => ⟨0, rfl, rfl, ht⟩) (fun q h => by cases h) dX9_areTwo_26 hlk
set_option maxHeartbeats 4000000 in
set_option maxRecDepth 100000 in
theorem c_X9_isOne (l : Launch) (D : va_G) (cI cJ cZ cS : ClassId) (sa : Nat → Nat) (sz : Nat) (p0 : Int32) : Met l yX9_isOne (Cond.code yX9_isOne cX9_isOne 1 (some .boolean) :: wsU) ({ frames := 1, cells := 0, slots := 0, locals := 25 }) (va_Pc [.int p0] (XW D (xT cI cJ cZ cS) sa [] sz)) (vp_Si (fun r : Int32 => (r = 1 ∧ (¬ p0 < 0) ∧ (¬ 3 < p0)) ∨ (r = 0 ∧ (p0 < 0 ∨ 3 < p0)))) 0 0 (fun _ => False) := by
  refine xh (by decide) (Nat.le_of_ble_eq_true rfl) ?_
  intro p e s m below meth c ls hF hr hlk hin hsz hP hK hD hN hl
  have hF : CallFix p m c cX9_isOne 1 s _ _ RX9 := hF
  have hx := hF.1
  have hb := hF.2.1
  have hml := hF.2.2.1
  have hown := hF.2.2.2.1
  have hu : ∀ w ∈ wsU, w.before _ s = true := fun w h => hF.2.2.2.2 w (List.mem_cons_of_mem _ h)
  have hl : lv_has ls 1 [(0, .int p0)] := hl
  refine lv_iload_n hx hb dX9_isOne_0 rfl (lv_at hl 0 rfl) ?_
  refine lv_i2l (v := p0.toInt64) hx hb dX9_isOne_1 rfl ?_
  refine lv_lconst (v := 0) hx hb dX9_isOne_2 (by decide) ?_
  refine xl_l (y := (0 : Int32).toInt64) (by decide) ?_
  refine lv_ldc2 (v := 3) hx hb hown (hu _ uw362) dX9_isOne_3 ?_
  refine xl_l (y := (3 : Int32).toInt64) (by decide) ?_
  refine xc_Sr hF (c_X9_in l D cI cJ cZ cS sa s.heap.size p0 0 3 ) ks_X9_57 ⟨rfl, rfl, Nat.le_of_ble_eq_true rfl, Nat.le_of_ble_eq_true rfl⟩ ⟨Nat.le_of_ble_eq_true rfl, Nat.le_of_ble_eq_true rfl⟩ hK hN hP hD [] rfl rfl rfl hl.1 rfl (Nat.le_of_ble_eq_true rfl) dX9_isOne_6 (fun r_1 hw_r_1 => ?_)
  rcases hw_r_1 with ⟨rfl, h_2, h_3⟩ | ⟨rfl, h_4⟩
  · skip
    exact W.zret (v := 1) hx hb hr rfl (fun t ht hW => ⟨1, rfl, (by first | exact Or.inl ⟨rfl, (by first | assumption | exact Or.inl (by assumption) | exact Or.inr (by assumption)), (by first | assumption | exact Or.inl (by assumption) | exact Or.inr (by assumption))⟩ | exact Or.inr (⟨rfl, (by first | assumption | exact Or.inl (by assumption) | exact Or.inr (by assumption))⟩)), ht⟩) (fun q h => by cases h) dX9_isOne_9 hlk
  · skip
    exact W.zret (v := 0) hx hb hr rfl (fun t ht hW => ⟨0, rfl, (by first | exact Or.inl ⟨rfl, (by first | assumption | exact Or.inl (by assumption) | exact Or.inr (by assumption)), (by first | assumption | exact Or.inl (by assumption) | exact Or.inr (by assumption))⟩ | exact Or.inr (⟨rfl, (by first | assumption | exact Or.inl (by assumption) | exact Or.inr (by assumption))⟩)), ht⟩) (fun q h => by cases h) dX9_isOne_9 hlk
set_option maxHeartbeats 4000000 in
set_option maxRecDepth 100000 in
theorem c_X9_wrong (l : Launch) (D : va_G) (cI cJ cZ cS : ClassId) (sa : Nat → Nat) (sz : Nat) (h0 : Nat) (ys : Nat) (yk : Nat) (yo : Nat) (yt : Nat) (yfa : Nat) (yfe : Nat) (yro : Nat) (yhe : Nat) (ygr : Nat) (yta : Nat) (ywa : Nat) (ybi : Nat) (ysi : Nat) (ynu : Nat) (ymo : Nat) (p0 : Int32) : Met l yX9_wrong (Cond.code yX9_wrong cX9_wrong 2 (some .int) :: wsU) ({ frames := 2, cells := 0, slots := 0, locals := 45 }) (va_Pc [.ref h0, .int p0] (XW D (xT cI cJ cZ cS) sa [(h0, .inr (9, [.ref ys, .ref yk, .ref yo, .ref yt, .int 0, .ref yfa, .ref yfe, .int 0, .int 0, .int 0, .ref yro, .ref yhe, .ref ygr, .int 0, .int 0, .int 0, .ref yta, .int 0, .int 0, .int 0, .int 0, .int 0, .ref ywa, .ref ybi, .ref ysi, .ref ynu, .ref ymo])), (ybi, .inl (cI, 4, .inl (fun _ => 0)))] sz)) (vp_Si (fun r : Int32 => (r = (-1000000001) ∧ (p0 < 0 ∨ 3 < p0)) ∨ (r = (-1000000006) ∧ (¬ p0 < 0) ∧ (¬ 3 < p0)))) 0 0 (fun _ => False) := by
  refine xh (by decide) (Nat.le_of_ble_eq_true rfl) ?_
  intro p e s m below meth c ls hF hr hlk hin hsz hP hK hD hN hl
  have hF : CallFix p m c cX9_wrong 2 s _ _ RX9 := hF
  have hx := hF.1
  have hb := hF.2.1
  have hml := hF.2.2.1
  have hown := hF.2.2.2.1
  have hu : ∀ w ∈ wsU, w.before _ s = true := fun w h => hF.2.2.2.2 w (List.mem_cons_of_mem _ h)
  have hl : lv_has ls 2 [(0, .ref h0), (1, .int p0)] := hl
  refine lv_iload_n hx hb dX9_wrong_0 rfl (lv_at hl 1 rfl) ?_
  refine xc_Sr hF (c_X9_isOne l D cI cJ cZ cS sa s.heap.size p0 ) ks_X9_305 ⟨rfl, rfl, Nat.le_of_ble_eq_true rfl, Nat.le_of_ble_eq_true rfl⟩ ⟨Nat.le_of_ble_eq_true rfl, Nat.le_of_ble_eq_true rfl⟩ hK hN hP hD [] rfl rfl rfl hl.1 rfl (Nat.le_of_ble_eq_true rfl) dX9_wrong_1 (fun r_1 hw_r_1 => ?_)
  rcases hw_r_1 with ⟨rfl, h_2, h_3⟩ | ⟨rfl, h_4⟩
  · skip
    refine lv_if_ne (tgt := 12) hx hb dX9_wrong_4 (by decide) (fun c_5 => ?_) (fun c_5 => absurd c_5 (by decide))
    refine lv_aload_n hx hb dX9_wrong_12 rfl (lv_at hl 0 rfl) ?_
    refine xg hF kf_X9_43 hK hP 0 rfl rfl dX9_wrong_13 ?_
    refine lv_iload_n hx hb dX9_wrong_16 rfl (lv_at hl 1 rfl) ?_
    refine va_iald hx hb hK hP 1 0 rfl rfl (x_in4 h_2 h_3) dX9_wrong_17 ?_
    refine xl_i (y := 0) rfl ?_
    refine lv_if_ne (tgt := 27) hx hb dX9_wrong_18 (by decide) (fun c_6 => absurd (by decide) c_6) (fun c_6 => ?_)
    refine lv_ldcw (v := (-1000000006)) hx hb hown (hu _ uw367) dX9_wrong_21 ?_
    refine lv_goto (tgt := 28) hx hb dX9_wrong_24 (by decide) ?_
    exact W.iret (v := (-1000000006)) hx hb hr (fun t ht hW => ⟨(-1000000006), rfl, (by first | exact Or.inl ⟨rfl, (by first | assumption | exact Or.inl (by assumption) | exact Or.inr (by assumption))⟩ | exact Or.inr (⟨rfl, (by first | assumption | exact Or.inl (by assumption) | exact Or.inr (by assumption)), (by first | assumption | exact Or.inl (by assumption) | exact Or.inr (by assumption))⟩)), ht⟩) (fun q h => by cases h) dX9_wrong_28 hlk
  · skip
    refine lv_if_ne (tgt := 12) hx hb dX9_wrong_4 (by decide) (fun c_7 => absurd (by decide) c_7) (fun c_7 => ?_)
    refine lv_ldc (v := (-1000000001)) hx hb hown (hu _ uw352) dX9_wrong_7 ?_
    refine lv_goto (tgt := 28) hx hb dX9_wrong_9 (by decide) ?_
    exact W.iret (v := (-1000000001)) hx hb hr (fun t ht hW => ⟨(-1000000001), rfl, (by first | exact Or.inl ⟨rfl, (by first | assumption | exact Or.inl (by assumption) | exact Or.inr (by assumption))⟩ | exact Or.inr (⟨rfl, (by first | assumption | exact Or.inl (by assumption) | exact Or.inr (by assumption)), (by first | assumption | exact Or.inl (by assumption) | exact Or.inr (by assumption))⟩)), ht⟩) (fun q h => by cases h) dX9_wrong_28 hlk
set_option maxHeartbeats 4000000 in
set_option maxRecDepth 100000 in
theorem c_X9_newPlace (l : Launch) (D : va_G) (cI cJ cZ cS : ClassId) (sa : Nat → Nat) (sz : Nat) (h0 : Nat) (ys : Nat) (yk : Nat) (yo : Nat) (yt : Nat) (yfa : Nat) (yfe : Nat) (yro : Nat) (yhe : Nat) (ygr : Nat) (yta : Nat) (ywa : Nat) (ybi : Nat) (ysi : Nat) (ynu : Nat) (ymo : Nat) : Met l yX9_newPlace (Cond.code yX9_newPlace cX9_newPlace 1 (some .int) :: wsU) ({ frames := 0, cells := 0, slots := 0, locals := 0 }) (va_Pc [.ref h0] (XW D (xT cI cJ cZ cS) sa [(h0, .inr (9, [.ref ys, .ref yk, .ref yo, .ref yt, .int 0, .ref yfa, .ref yfe, .int 0, .int 0, .int 0, .ref yro, .ref yhe, .ref ygr, .int 0, .int 0, .int 0, .ref yta, .int 0, .int 0, .int 0, .int 0, .int 0, .ref ywa, .ref ybi, .ref ysi, .ref ynu, .ref ymo])), (ys, .inl (cI, 449, .inl (fun _ => 0)))] sz)) (XQi (fun (r : Int32) (_ : Unit) => r = 0) D (fun _ : Unit => []) (va_A [(h0, .inr (9, [.ref ys, .ref yk, .ref yo, .ref yt, .int 0, .ref yfa, .ref yfe, .int 0, .int 0, .int 0, .ref yro, .ref yhe, .ref ygr, .int 0, .int 0, .int 0, .ref yta, .int 0, .int 0, .int 0, .int 0, .int 0, .ref ywa, .ref ybi, .ref ysi, .ref ynu, .ref ymo])), (ys, .inl (cI, 449, .inl (fun _ => 0)))] sz)) 0 0 (va_A [(h0, .inr (9, [.ref ys, .ref yk, .ref yo, .ref yt, .int 0, .ref yfa, .ref yfe, .int 0, .int 0, .int 0, .ref yro, .ref yhe, .ref ygr, .int 0, .int 0, .int 0, .ref yta, .int 0, .int 0, .int 0, .int 0, .int 0, .ref ywa, .ref ybi, .ref ysi, .ref ynu, .ref ymo])), (ys, .inl (cI, 449, .inl (fun _ => 0)))] sz) := by
  refine xhw (QA := fun A => XQi (fun (r : Int32) (_ : Unit) => r = 0) D (fun _ : Unit => []) A) (by decide) (Nat.le_of_ble_eq_true rfl) ?_
  intro p e s m below meth c ls A hF hr hlk hin hsz hP hK hD hN hA hS hl
  have hF : CallFix p m c cX9_newPlace 1 s _ _ RX9 := hF
  have hx := hF.1
  have hb := hF.2.1
  have hml := hF.2.2.1
  have hown := hF.2.2.2.1
  have hu : ∀ w ∈ wsU, w.before _ s = true := fun w h => hF.2.2.2.2 w (List.mem_cons_of_mem _ h)
  have hl : lv_has ls 1 [(0, .ref h0)] := hl
  refine lv_aload_n hx hb dX9_newPlace_0 rfl (lv_at hl 0 rfl) ?_
  refine xg hF kf_X9_7 hK hP 0 rfl rfl dX9_newPlace_1 ?_
  refine lv_iconst (v := 0) hx hb dX9_newPlace_4 (by decide) ?_
  refine lv_dup2_11 hx hb dX9_newPlace_5 rfl rfl ?_
  refine va_iald hx hb hK hP 1 0 rfl rfl (xin 0 449 (by decide) (by decide)) dX9_newPlace_6 ?_
  refine xl_i (y := 0) rfl ?_
  refine lv_iconst (v := 1) hx hb dX9_newPlace_7 (by decide) ?_
  refine lv_iadd hx hb dX9_newPlace_8 ?_
  refine xl_i (y := 1) (by decide) ?_
  refine va_iast hx hb hK hP hD hS 1 0 rfl rfl (xin 0 449 (by decide) (by decide)) dX9_newPlace_9 (fun H locs hP hD hS => ?_)
  obtain ⟨f_1, ef_1⟩ : ∃ g, g = upd (fun _ => 0) (0 : Int32).toNatClampNeg 1 := ⟨_, rfl⟩
  rw [← ef_1] at hP hD
  have hP : va_P D vwCl [(h0, .inr (9, [.ref ys, .ref yk, .ref yo, .ref yt, .int 0, .ref yfa, .ref yfe, .int 0, .int 0, .int 0, .ref yro, .ref yhe, .ref ygr, .int 0, .int 0, .int 0, .ref yta, .int 0, .int 0, .int 0, .int 0, .int 0, .ref ywa, .ref ybi, .ref ysi, .ref ynu, .ref ymo])), (ys, .inl (cI, 449, .inl f_1))] H := hP
  have hD : va_D A [(h0, .inr (9, [.ref ys, .ref yk, .ref yo, .ref yt, .int 0, .ref yfa, .ref yfe, .int 0, .int 0, .int 0, .ref yro, .ref yhe, .ref ygr, .int 0, .int 0, .int 0, .ref yta, .int 0, .int 0, .int 0, .int 0, .int 0, .ref ywa, .ref ybi, .ref ysi, .ref ynu, .ref ymo])), (ys, .inl (cI, 449, .inl f_1))] := hD
  refine lv_aload_n hx hb dX9_newPlace_10 rfl (lv_at hl 0 rfl) ?_
  refine xg hF kf_X9_7 hK hP 0 rfl rfl dX9_newPlace_11 ?_
  refine lv_iconst (v := 0) hx hb dX9_newPlace_14 (by decide) ?_
  refine va_iald hx hb hK hP 1 0 rfl rfl (xin 0 449 (by decide) (by decide)) dX9_newPlace_15 ?_
  refine xl_i (y := f_1 0) (congrArg f_1 rfl) ?_
  refine xl_i (y := 1) (by rw [ef_1]; rfl) ?_
  refine lv_iconst (v := 1) hx hb dX9_newPlace_16 (by decide) ?_
  refine lv_isub hx hb dX9_newPlace_17 ?_
  refine xl_i (y := 0) (by decide) ?_
  exact W.iret (v := 0) hx hb hr (fun t ht hW => ⟨⟨0, (), rfl, rfl, by rw [ht]; exact hP.sub [] rfl, hD.sub [] (by decide) rfl⟩, hS.F ht⟩) hS.2.2 dX9_newPlace_18 hlk
set_option maxHeartbeats 4000000 in
set_option maxRecDepth 100000 in
theorem c_X9_findFar (l : Launch) (D : va_G) (cI cJ cZ cS : ClassId) (sa : Nat → Nat) (sz : Nat) (h0 : Nat) (ys : Nat) (yk : Nat) (yo : Nat) (yt : Nat) (yfa : Nat) (yfe : Nat) (yro : Nat) (yhe : Nat) (ygr : Nat) (yta : Nat) (ywa : Nat) (ybi : Nat) (ysi : Nat) (ynu : Nat) (ymo : Nat) : Met l yX9_findFar (Cond.code yX9_findFar cX9_findFar 5 none :: wsU) ({ frames := 0, cells := 0, slots := 0, locals := 0 }) (va_Pc [.ref h0] (XW D (xT cI cJ cZ cS) sa [(h0, .inr (9, [.ref ys, .ref yk, .ref yo, .ref yt, .int 0, .ref yfa, .ref yfe, .int 0, .int 0, .int 0, .ref yro, .ref yhe, .ref ygr, .int 0, .int 0, .int 0, .ref yta, .int 0, .int 0, .int 0, .int 0, .int 0, .ref ywa, .ref ybi, .ref ysi, .ref ynu, .ref ymo])), (ys, .inl (cI, 449, .inl (fun _ => 0)))] sz)) (XQv (fun _ : Unit => True) D (fun _ : Unit => [(h0, .inr (9, [.ref ys, .ref yk, .ref yo, .ref yt, .int 0, .ref yfa, .ref yfe, .int 0, .int 0, .int 0, .ref yro, .ref yhe, .ref ygr, .int 0, .int 0, .int 0, .ref yta, .int 0, .int 0, .int 0, .int 0, .int 0, .ref ywa, .ref ybi, .ref ysi, .ref ynu, .ref ymo])), (ys, .inl (cI, 449, .inl (fun _ => 0)))]) (va_A [(h0, .inr (9, [.ref ys, .ref yk, .ref yo, .ref yt, .int 0, .ref yfa, .ref yfe, .int 0, .int 0, .int 0, .ref yro, .ref yhe, .ref ygr, .int 0, .int 0, .int 0, .ref yta, .int 0, .int 0, .int 0, .int 0, .int 0, .ref ywa, .ref ybi, .ref ysi, .ref ynu, .ref ymo])), (ys, .inl (cI, 449, .inl (fun _ => 0)))] sz)) 0 0 (va_A [(h0, .inr (9, [.ref ys, .ref yk, .ref yo, .ref yt, .int 0, .ref yfa, .ref yfe, .int 0, .int 0, .int 0, .ref yro, .ref yhe, .ref ygr, .int 0, .int 0, .int 0, .ref yta, .int 0, .int 0, .int 0, .int 0, .int 0, .ref ywa, .ref ybi, .ref ysi, .ref ynu, .ref ymo])), (ys, .inl (cI, 449, .inl (fun _ => 0)))] sz) := by
  refine xhw (QA := fun A => XQv (fun _ : Unit => True) D (fun _ : Unit => [(h0, .inr (9, [.ref ys, .ref yk, .ref yo, .ref yt, .int 0, .ref yfa, .ref yfe, .int 0, .int 0, .int 0, .ref yro, .ref yhe, .ref ygr, .int 0, .int 0, .int 0, .ref yta, .int 0, .int 0, .int 0, .int 0, .int 0, .ref ywa, .ref ybi, .ref ysi, .ref ynu, .ref ymo])), (ys, .inl (cI, 449, .inl (fun _ => 0)))]) A) (by decide) (Nat.le_of_ble_eq_true rfl) ?_
  intro p e s m below meth c ls A hF hr hlk hin hsz hP hK hD hN hA hS hl
  have hF : CallFix p m c cX9_findFar 5 s _ _ RX9 := hF
  have hx := hF.1
  have hb := hF.2.1
  have hml := hF.2.2.1
  have hown := hF.2.2.2.1
  have hu : ∀ w ∈ wsU, w.before _ s = true := fun w h => hF.2.2.2.2 w (List.mem_cons_of_mem _ h)
  have hl : lv_has ls 5 [(0, .ref h0)] := hl
  refine lv_aload_n hx hb dX9_findFar_0 rfl (lv_at hl 0 rfl) ?_
  refine xg hF kf_X9_7 hK hP 0 rfl rfl dX9_findFar_1 ?_
  refine lv_iconst (v := 0) hx hb dX9_findFar_4 (by decide) ?_
  refine va_iald hx hb hK hP 1 0 rfl rfl (xin 0 449 (by decide) (by decide)) dX9_findFar_5 ?_
  refine xl_i (y := 0) rfl ?_
  refine lv_istore_n (lv' := [(1, .int 0), (0, .ref h0)]) hx hb dX9_findFar_6 rfl hl (by decide) rfl (fun ls hl => ?_)
  refine lv_iconst (v := 0) hx hb dX9_findFar_7 (by decide) ?_
  refine lv_istore_n (lv' := [(2, .int 0), (1, .int 0), (0, .ref h0)]) hx hb dX9_findFar_8 rfl hl (by decide) rfl (fun ls hl => ?_)
  refine lv_iload_n hx hb dX9_findFar_9 rfl (lv_at hl 0 rfl) ?_
  refine lv_iload_n hx hb dX9_findFar_10 rfl (lv_at hl 1 rfl) ?_
  refine lv_icmp_ge (tgt := 111) hx hb dX9_findFar_11 (by decide) (fun c_1 => ?_) (fun c_1 => absurd (by decide) c_1)
  refine lv_iconst (v := 0) hx hb dX9_findFar_111 (by decide) ?_
  refine lv_istore_n (lv' := [(2, .int 0), (1, .int 0), (0, .ref h0)]) hx hb dX9_findFar_112 rfl hl (by decide) rfl (fun ls hl => ?_)
  refine lv_iload_n hx hb dX9_findFar_113 rfl (lv_at hl 0 rfl) ?_
  refine lv_iload_n hx hb dX9_findFar_114 rfl (lv_at hl 1 rfl) ?_
  refine lv_icmp_ge (tgt := 160) hx hb dX9_findFar_115 (by decide) (fun c_2 => ?_) (fun c_2 => absurd (by decide) c_2)
  refine lv_aload_n hx hb dX9_findFar_160 rfl (lv_at hl 2 rfl) ?_
  refine lv_iconst (v := 0) hx hb dX9_findFar_161 (by decide) ?_
  refine xp hF kf_X9_109 tyX9_ok nmX9 hK hP hD hS 0 rfl rfl rfl rfl (Nat.le_of_ble_eq_true rfl) dX9_findFar_162 (fun H locs hP hD hS => ?_)
  have hP : va_P D vwCl [(h0, .inr (9, [.ref ys, .ref yk, .ref yo, .ref yt, .int 0, .ref yfa, .ref yfe, .int 0, .int 0, .int 0, .ref yro, .ref yhe, .ref ygr, .int 0, .int 0, .int 0, .ref yta, .int 0, .int 0, .int 0, .int 0, .int 0, .ref ywa, .ref ybi, .ref ysi, .ref ynu, .ref ymo])), (ys, .inl (cI, 449, .inl (fun _ => 0)))] H := hP
  have hD : va_D A [(h0, .inr (9, [.ref ys, .ref yk, .ref yo, .ref yt, .int 0, .ref yfa, .ref yfe, .int 0, .int 0, .int 0, .ref yro, .ref yhe, .ref ygr, .int 0, .int 0, .int 0, .ref yta, .int 0, .int 0, .int 0, .int 0, .int 0, .ref ywa, .ref ybi, .ref ysi, .ref ynu, .ref ymo])), (ys, .inl (cI, 449, .inl (fun _ => 0)))] := hD
  refine lv_iconst (v := 0) hx hb dX9_findFar_165 (by decide) ?_
  refine lv_istore_n (lv' := [(2, .int 0), (1, .int 0), (0, .ref h0)]) hx hb dX9_findFar_166 rfl hl (by decide) rfl (fun ls hl => ?_)
  refine lv_iload_n hx hb dX9_findFar_167 rfl (lv_at hl 0 rfl) ?_
  refine lv_iload_n hx hb dX9_findFar_168 rfl (lv_at hl 1 rfl) ?_
  refine lv_icmp_ge (tgt := 206) hx hb dX9_findFar_169 (by decide) (fun c_3 => ?_) (fun c_3 => absurd (by decide) c_3)
  exact W.vret hx hb hr (fun t ht hW => ⟨⟨(), rfl, trivial, by rw [ht]; exact hP.sub [0, 1] rfl, hD.sub [0, 1] (by decide) rfl⟩, hS.F ht⟩) hS.2.2 dX9_findFar_206 hlk
set_option maxHeartbeats 4000000 in
set_option maxRecDepth 100000 in
theorem c_X9_findHeights (l : Launch) (D : va_G) (cI cJ cZ cS : ClassId) (sa : Nat → Nat) (sz : Nat) (h0 : Nat) (ys : Nat) (yk : Nat) (yo : Nat) (yt : Nat) (yfa : Nat) (yfe : Nat) (yro : Nat) (yhe : Nat) (ygr : Nat) (yta : Nat) (ywa : Nat) (ybi : Nat) (ysi : Nat) (ynu : Nat) (ymo : Nat) : Met l yX9_findHeights (Cond.code yX9_findHeights cX9_findHeights 4 none :: wsU) ({ frames := 0, cells := 0, slots := 0, locals := 0 }) (va_Pc [.ref h0] (XW D (xT cI cJ cZ cS) sa [(h0, .inr (9, [.ref ys, .ref yk, .ref yo, .ref yt, .int 0, .ref yfa, .ref yfe, .int 0, .int 0, .int 0, .ref yro, .ref yhe, .ref ygr, .int 0, .int 0, .int 0, .ref yta, .int 0, .int 0, .int 0, .int 0, .int 0, .ref ywa, .ref ybi, .ref ysi, .ref ynu, .ref ymo])), (ys, .inl (cI, 449, .inl (fun _ => 0)))] sz)) (XQv (fun _ : Unit => True) D (fun _ : Unit => [(h0, .inr (9, [.ref ys, .ref yk, .ref yo, .ref yt, .int 0, .ref yfa, .ref yfe, .int 0, .int 0, .int 0, .ref yro, .ref yhe, .ref ygr, .int 1, .int 0, .int 0, .ref yta, .int 0, .int 0, .int 0, .int 0, .int 0, .ref ywa, .ref ybi, .ref ysi, .ref ynu, .ref ymo])), (ys, .inl (cI, 449, .inl (fun _ => 0)))]) (va_A [(h0, .inr (9, [.ref ys, .ref yk, .ref yo, .ref yt, .int 0, .ref yfa, .ref yfe, .int 0, .int 0, .int 0, .ref yro, .ref yhe, .ref ygr, .int 0, .int 0, .int 0, .ref yta, .int 0, .int 0, .int 0, .int 0, .int 0, .ref ywa, .ref ybi, .ref ysi, .ref ynu, .ref ymo])), (ys, .inl (cI, 449, .inl (fun _ => 0)))] sz)) 0 0 (va_A [(h0, .inr (9, [.ref ys, .ref yk, .ref yo, .ref yt, .int 0, .ref yfa, .ref yfe, .int 0, .int 0, .int 0, .ref yro, .ref yhe, .ref ygr, .int 0, .int 0, .int 0, .ref yta, .int 0, .int 0, .int 0, .int 0, .int 0, .ref ywa, .ref ybi, .ref ysi, .ref ynu, .ref ymo])), (ys, .inl (cI, 449, .inl (fun _ => 0)))] sz) := by
  refine xhw (QA := fun A => XQv (fun _ : Unit => True) D (fun _ : Unit => [(h0, .inr (9, [.ref ys, .ref yk, .ref yo, .ref yt, .int 0, .ref yfa, .ref yfe, .int 0, .int 0, .int 0, .ref yro, .ref yhe, .ref ygr, .int 1, .int 0, .int 0, .ref yta, .int 0, .int 0, .int 0, .int 0, .int 0, .ref ywa, .ref ybi, .ref ysi, .ref ynu, .ref ymo])), (ys, .inl (cI, 449, .inl (fun _ => 0)))]) A) (by decide) (Nat.le_of_ble_eq_true rfl) ?_
  intro p e s m below meth c ls A hF hr hlk hin hsz hP hK hD hN hA hS hl
  have hF : CallFix p m c cX9_findHeights 4 s _ _ RX9 := hF
  have hx := hF.1
  have hb := hF.2.1
  have hml := hF.2.2.1
  have hown := hF.2.2.2.1
  have hu : ∀ w ∈ wsU, w.before _ s = true := fun w h => hF.2.2.2.2 w (List.mem_cons_of_mem _ h)
  have hl : lv_has ls 4 [(0, .ref h0)] := hl
  refine lv_aload_n hx hb dX9_findHeights_0 rfl (lv_at hl 0 rfl) ?_
  refine xg hF kf_X9_7 hK hP 0 rfl rfl dX9_findHeights_1 ?_
  refine lv_iconst (v := 0) hx hb dX9_findHeights_4 (by decide) ?_
  refine va_iald hx hb hK hP 1 0 rfl rfl (xin 0 449 (by decide) (by decide)) dX9_findHeights_5 ?_
  refine xl_i (y := 0) rfl ?_
  refine lv_istore_n (lv' := [(1, .int 0), (0, .ref h0)]) hx hb dX9_findHeights_6 rfl hl (by decide) rfl (fun ls hl => ?_)
  refine lv_iconst (v := 0) hx hb dX9_findHeights_7 (by decide) ?_
  refine lv_istore_n (lv' := [(2, .int 0), (1, .int 0), (0, .ref h0)]) hx hb dX9_findHeights_8 rfl hl (by decide) rfl (fun ls hl => ?_)
  refine lv_iload_n hx hb dX9_findHeights_9 rfl (lv_at hl 0 rfl) ?_
  refine lv_iload_n hx hb dX9_findHeights_10 rfl (lv_at hl 1 rfl) ?_
  refine lv_icmp_ge (tgt := 27) hx hb dX9_findHeights_11 (by decide) (fun c_1 => ?_) (fun c_1 => absurd (by decide) c_1)
  refine lv_iconst (v := 0) hx hb dX9_findHeights_27 (by decide) ?_
  refine lv_istore_n (lv' := [(2, .int 0), (1, .int 0), (0, .ref h0)]) hx hb dX9_findHeights_28 rfl hl (by decide) rfl (fun ls hl => ?_)
  refine lv_iload_n hx hb dX9_findHeights_29 rfl (lv_at hl 0 rfl) ?_
  refine lv_iload_n hx hb dX9_findHeights_30 rfl (lv_at hl 1 rfl) ?_
  refine lv_icmp_ge (tgt := 68) hx hb dX9_findHeights_31 (by decide) (fun c_2 => ?_) (fun c_2 => absurd (by decide) c_2)
  refine lv_aload_n hx hb dX9_findHeights_68 rfl (lv_at hl 2 rfl) ?_
  refine lv_iconst (v := 1) hx hb dX9_findHeights_69 (by decide) ?_
  refine xp hF kf_X9_180 tyX9_ok nmX9 hK hP hD hS 0 rfl rfl rfl rfl (Nat.le_of_ble_eq_true rfl) dX9_findHeights_70 (fun H locs hP hD hS => ?_)
  have hP : va_P D vwCl [(h0, .inr (9, [.ref ys, .ref yk, .ref yo, .ref yt, .int 0, .ref yfa, .ref yfe, .int 0, .int 0, .int 0, .ref yro, .ref yhe, .ref ygr, .int 1, .int 0, .int 0, .ref yta, .int 0, .int 0, .int 0, .int 0, .int 0, .ref ywa, .ref ybi, .ref ysi, .ref ynu, .ref ymo])), (ys, .inl (cI, 449, .inl (fun _ => 0)))] H := hP
  have hD : va_D A [(h0, .inr (9, [.ref ys, .ref yk, .ref yo, .ref yt, .int 0, .ref yfa, .ref yfe, .int 0, .int 0, .int 0, .ref yro, .ref yhe, .ref ygr, .int 1, .int 0, .int 0, .ref yta, .int 0, .int 0, .int 0, .int 0, .int 0, .ref ywa, .ref ybi, .ref ysi, .ref ynu, .ref ymo])), (ys, .inl (cI, 449, .inl (fun _ => 0)))] := hD
  refine lv_iconst (v := 0) hx hb dX9_findHeights_73 (by decide) ?_
  refine lv_istore_n (lv' := [(2, .int 0), (1, .int 0), (0, .ref h0)]) hx hb dX9_findHeights_74 rfl hl (by decide) rfl (fun ls hl => ?_)
  refine lv_iload_n hx hb dX9_findHeights_75 rfl (lv_at hl 0 rfl) ?_
  refine lv_iload_n hx hb dX9_findHeights_76 rfl (lv_at hl 1 rfl) ?_
  refine lv_icmp_ge (tgt := 153) hx hb dX9_findHeights_77 (by decide) (fun c_3 => ?_) (fun c_3 => absurd (by decide) c_3)
  exact W.vret hx hb hr (fun t ht hW => ⟨⟨(), rfl, trivial, by rw [ht]; exact hP.sub [0, 1] rfl, hD.sub [0, 1] (by decide) rfl⟩, hS.F ht⟩) hS.2.2 dX9_findHeights_153 hlk
set_option maxHeartbeats 4000000 in
set_option maxRecDepth 100000 in
theorem c_X9_home (l : Launch) (D : va_G) (cI cJ cZ cS : ClassId) (sa : Nat → Nat) (sz : Nat) (h0 : Nat) (ys : Nat) (yk : Nat) (yo : Nat) (yt : Nat) (yfa : Nat) (yfe : Nat) (yro : Nat) (yhe : Nat) (ygr : Nat) (yta : Nat) (ywa : Nat) (ybi : Nat) (ysi : Nat) (ynu : Nat) (ymo : Nat) : Met l yX9_home (Cond.code yX9_home cX9_home 5 (some .int) :: wsU) ({ frames := 0, cells := 0, slots := 0, locals := 0 }) (va_Pc [.ref h0] (XW D (xT cI cJ cZ cS) sa [(h0, .inr (9, [.ref ys, .ref yk, .ref yo, .ref yt, .int 0, .ref yfa, .ref yfe, .int 0, .int 0, .int 0, .ref yro, .ref yhe, .ref ygr, .int 0, .int 0, .int 0, .ref yta, .int 0, .int 0, .int 0, .int 0, .int 0, .ref ywa, .ref ybi, .ref ysi, .ref ynu, .ref ymo])), (ys, .inl (cI, 449, .inl (fun _ => 0)))] sz)) (vp_Si (fun r : Int32 => r = (-1))) 0 0 (fun _ => False) := by
  refine xh (by decide) (Nat.le_of_ble_eq_true rfl) ?_
  intro p e s m below meth c ls hF hr hlk hin hsz hP hK hD hN hl
  have hF : CallFix p m c cX9_home 5 s _ _ RX9 := hF
  have hx := hF.1
  have hb := hF.2.1
  have hml := hF.2.2.1
  have hown := hF.2.2.2.1
  have hu : ∀ w ∈ wsU, w.before _ s = true := fun w h => hF.2.2.2.2 w (List.mem_cons_of_mem _ h)
  have hl : lv_has ls 5 [(0, .ref h0)] := hl
  refine lv_iconst (v := (-1)) hx hb dX9_home_0 (by decide) ?_
  refine lv_istore_n (lv' := [(1, .int (-1)), (0, .ref h0)]) hx hb dX9_home_1 rfl hl (by decide) rfl (fun ls hl => ?_)
  refine lv_ldc (v := 100000000) hx hb hown (hu _ uw370) dX9_home_2 ?_
  refine lv_istore_n (lv' := [(2, .int 100000000), (1, .int (-1)), (0, .ref h0)]) hx hb dX9_home_4 rfl hl (by decide) rfl (fun ls hl => ?_)
  refine lv_iconst (v := 0) hx hb dX9_home_5 (by decide) ?_
  refine lv_istore_n (lv' := [(3, .int 0), (2, .int 100000000), (1, .int (-1)), (0, .ref h0)]) hx hb dX9_home_6 rfl hl (by decide) rfl (fun ls hl => ?_)
  refine lv_iload_n hx hb dX9_home_7 rfl (lv_at hl 0 rfl) ?_
  refine lv_aload_n hx hb dX9_home_8 rfl (lv_at hl 3 rfl) ?_
  refine xg hF kf_X9_7 hK hP 0 rfl rfl dX9_home_9 ?_
  refine lv_iconst (v := 0) hx hb dX9_home_12 (by decide) ?_
  refine va_iald hx hb hK hP 1 0 rfl rfl (xin 0 449 (by decide) (by decide)) dX9_home_13 ?_
  refine xl_i (y := 0) rfl ?_
  refine lv_icmp_ge (tgt := 41) hx hb dX9_home_14 (by decide) (fun c_1 => ?_) (fun c_1 => absurd (by decide) c_1)
  refine lv_iload_n hx hb dX9_home_41 rfl (lv_at hl 2 rfl) ?_
  exact W.iret (v := (-1)) hx hb hr (fun t ht hW => ⟨(-1), rfl, rfl, ht⟩) (fun q h => by cases h) dX9_home_42 hlk
set_option maxHeartbeats 4000000 in
set_option maxRecDepth 100000 in
theorem c_X9_tripOfHome (l : Launch) (D : va_G) (cI cJ cZ cS : ClassId) (sa : Nat → Nat) (sz : Nat) (h0 : Nat) (ys : Nat) (yk : Nat) (yo : Nat) (yt : Nat) (yfa : Nat) (yfe : Nat) (yro : Nat) (yhe : Nat) (ygr : Nat) (yta : Nat) (ywa : Nat) (ybi : Nat) (ysi : Nat) (ynu : Nat) (ymo : Nat) : Met l yX9_tripOfHome (Cond.code yX9_tripOfHome cX9_tripOfHome 2 (some .int) :: wsU) ({ frames := 1, cells := 0, slots := 0, locals := 24 }) (va_Pc [.ref h0] (XW D (xT cI cJ cZ cS) sa [(h0, .inr (9, [.ref ys, .ref yk, .ref yo, .ref yt, .int 0, .ref yfa, .ref yfe, .int 0, .int 0, .int 0, .ref yro, .ref yhe, .ref ygr, .int 0, .int 0, .int 0, .ref yta, .int 0, .int 0, .int 0, .int 0, .int 0, .ref ywa, .ref ybi, .ref ysi, .ref ynu, .ref ymo])), (ys, .inl (cI, 449, .inl (fun _ => 0)))] sz)) (vp_Si (fun r : Int32 => r = 100000000)) 0 0 (fun _ => False) := by
  refine xh (by decide) (Nat.le_of_ble_eq_true rfl) ?_
  intro p e s m below meth c ls hF hr hlk hin hsz hP hK hD hN hl
  have hF : CallFix p m c cX9_tripOfHome 2 s _ _ RX9 := hF
  have hx := hF.1
  have hb := hF.2.1
  have hml := hF.2.2.1
  have hown := hF.2.2.2.1
  have hu : ∀ w ∈ wsU, w.before _ s = true := fun w h => hF.2.2.2.2 w (List.mem_cons_of_mem _ h)
  have hl : lv_has ls 2 [(0, .ref h0)] := hl
  refine lv_aload_n hx hb dX9_tripOfHome_0 rfl (lv_at hl 0 rfl) ?_
  refine xc_Vr hF (c_X9_home l D cI cJ cZ cS sa s.heap.size h0 ys yk yo yt yfa yfe yro yhe ygr yta ywa ybi ysi ynu ymo ) kv_X9_171 ⟨rfl, rfl, Nat.le_of_ble_eq_true rfl, Nat.le_of_ble_eq_true rfl⟩ ⟨Nat.le_of_ble_eq_true rfl, Nat.le_of_ble_eq_true rfl⟩ hK hN hP hD [0, 1] rfl rfl 0 rfl rfl rfl rfl hl.1 rfl (Nat.le_of_ble_eq_true rfl) dX9_tripOfHome_1 (fun r_1 hw_r_1 => ?_)
  subst hw_r_1
  refine lv_istore_n (lv' := [(1, .int (-1)), (0, .ref h0)]) hx hb dX9_tripOfHome_4 rfl hl (by decide) rfl (fun ls hl => ?_)
  refine lv_iload_n hx hb dX9_tripOfHome_5 rfl (lv_at hl 0 rfl) ?_
  refine lv_if_ge (tgt := 14) hx hb dX9_tripOfHome_6 (by decide) (fun c_2 => absurd c_2 (by decide)) (fun c_2 => ?_)
  refine lv_ldc (v := 100000000) hx hb hown (hu _ uw370) dX9_tripOfHome_9 ?_
  refine lv_goto (tgt := 19) hx hb dX9_tripOfHome_11 (by decide) ?_
  exact W.iret (v := 100000000) hx hb hr (fun t ht hW => ⟨100000000, rfl, rfl, ht⟩) (fun q h => by cases h) dX9_tripOfHome_19 hlk
set_option maxHeartbeats 4000000 in
set_option maxRecDepth 100000 in
theorem c_X9_learning (l : Launch) (D : va_G) (cI cJ cZ cS : ClassId) (sa : Nat → Nat) (sz : Nat) (h0 : Nat) (ys : Nat) (yk : Nat) (yo : Nat) (yt : Nat) (yfa : Nat) (yfe : Nat) (yro : Nat) (yhe : Nat) (ygr : Nat) (yta : Nat) (ywa : Nat) (ybi : Nat) (ysi : Nat) (ynu : Nat) (ymo : Nat) : Met l yX9_learning (Cond.code yX9_learning cX9_learning 4 (some .int) :: wsU) ({ frames := 0, cells := 0, slots := 0, locals := 0 }) (va_Pc [.ref h0] (XW D (xT cI cJ cZ cS) sa [(h0, .inr (9, [.ref ys, .ref yk, .ref yo, .ref yt, .int 0, .ref yfa, .ref yfe, .int 0, .int 0, .int 0, .ref yro, .ref yhe, .ref ygr, .int 0, .int 0, .int 0, .ref yta, .int 0, .int 0, .int 0, .int 0, .int 0, .ref ywa, .ref ybi, .ref ysi, .ref ynu, .ref ymo])), (ys, .inl (cI, 449, .inl (fun _ => 0)))] sz)) (XQi (fun (r : Int32) (_ : Unit) => r = 0) D (fun _ : Unit => [(h0, .inr (9, [.ref ys, .ref yk, .ref yo, .ref yt, .int 0, .ref yfa, .ref yfe, .int 0, .int 0, .int 0, .ref yro, .ref yhe, .ref ygr, .int 0, .int 0, .int 0, .ref yta, .int 0, .int 0, .int 0, .int 0, .int 0, .ref ywa, .ref ybi, .ref ysi, .ref ynu, .ref ymo])), (ys, .inl (cI, 449, .inl (fun _ => 0)))]) (va_A [(h0, .inr (9, [.ref ys, .ref yk, .ref yo, .ref yt, .int 0, .ref yfa, .ref yfe, .int 0, .int 0, .int 0, .ref yro, .ref yhe, .ref ygr, .int 0, .int 0, .int 0, .ref yta, .int 0, .int 0, .int 0, .int 0, .int 0, .ref ywa, .ref ybi, .ref ysi, .ref ynu, .ref ymo])), (ys, .inl (cI, 449, .inl (fun _ => 0)))] sz)) 0 0 (va_A [(h0, .inr (9, [.ref ys, .ref yk, .ref yo, .ref yt, .int 0, .ref yfa, .ref yfe, .int 0, .int 0, .int 0, .ref yro, .ref yhe, .ref ygr, .int 0, .int 0, .int 0, .ref yta, .int 0, .int 0, .int 0, .int 0, .int 0, .ref ywa, .ref ybi, .ref ysi, .ref ynu, .ref ymo])), (ys, .inl (cI, 449, .inl (fun _ => 0)))] sz) := by
  refine xhw (QA := fun A => XQi (fun (r : Int32) (_ : Unit) => r = 0) D (fun _ : Unit => [(h0, .inr (9, [.ref ys, .ref yk, .ref yo, .ref yt, .int 0, .ref yfa, .ref yfe, .int 0, .int 0, .int 0, .ref yro, .ref yhe, .ref ygr, .int 0, .int 0, .int 0, .ref yta, .int 0, .int 0, .int 0, .int 0, .int 0, .ref ywa, .ref ybi, .ref ysi, .ref ynu, .ref ymo])), (ys, .inl (cI, 449, .inl (fun _ => 0)))]) A) (by decide) (Nat.le_of_ble_eq_true rfl) ?_
  intro p e s m below meth c ls A hF hr hlk hin hsz hP hK hD hN hA hS hl
  have hF : CallFix p m c cX9_learning 4 s _ _ RX9 := hF
  have hx := hF.1
  have hb := hF.2.1
  have hml := hF.2.2.1
  have hown := hF.2.2.2.1
  have hu : ∀ w ∈ wsU, w.before _ s = true := fun w h => hF.2.2.2.2 w (List.mem_cons_of_mem _ h)
  have hl : lv_has ls 4 [(0, .ref h0)] := hl
  refine lv_aload_n hx hb dX9_learning_0 rfl (lv_at hl 0 rfl) ?_
  refine lv_iconst (v := 0) hx hb dX9_learning_1 (by decide) ?_
  refine xp hF kf_X9_208 tyX9_ok nmX9 hK hP hD hS 0 rfl rfl rfl rfl (Nat.le_of_ble_eq_true rfl) dX9_learning_2 (fun H locs hP hD hS => ?_)
  have hP : va_P D vwCl [(h0, .inr (9, [.ref ys, .ref yk, .ref yo, .ref yt, .int 0, .ref yfa, .ref yfe, .int 0, .int 0, .int 0, .ref yro, .ref yhe, .ref ygr, .int 0, .int 0, .int 0, .ref yta, .int 0, .int 0, .int 0, .int 0, .int 0, .ref ywa, .ref ybi, .ref ysi, .ref ynu, .ref ymo])), (ys, .inl (cI, 449, .inl (fun _ => 0)))] H := hP
  have hD : va_D A [(h0, .inr (9, [.ref ys, .ref yk, .ref yo, .ref yt, .int 0, .ref yfa, .ref yfe, .int 0, .int 0, .int 0, .ref yro, .ref yhe, .ref ygr, .int 0, .int 0, .int 0, .ref yta, .int 0, .int 0, .int 0, .int 0, .int 0, .ref ywa, .ref ybi, .ref ysi, .ref ynu, .ref ymo])), (ys, .inl (cI, 449, .inl (fun _ => 0)))] := hD
  refine lv_iconst (v := 0) hx hb dX9_learning_5 (by decide) ?_
  refine lv_istore_n (lv' := [(1, .int 0), (0, .ref h0)]) hx hb dX9_learning_6 rfl hl (by decide) rfl (fun ls hl => ?_)
  refine lv_aload_n hx hb dX9_learning_7 rfl (lv_at hl 1 rfl) ?_
  refine lv_iconst (v := 1) hx hb dX9_learning_8 (by decide) ?_
  refine xp hF kf_X9_205 tyX9_ok nmX9 hK hP hD hS 0 rfl rfl rfl rfl (Nat.le_of_ble_eq_true rfl) dX9_learning_9 (fun H locs hP hD hS => ?_)
  have hP : va_P D vwCl [(h0, .inr (9, [.ref ys, .ref yk, .ref yo, .ref yt, .int 0, .ref yfa, .ref yfe, .int 0, .int 0, .int 0, .ref yro, .ref yhe, .ref ygr, .int 0, .int 1, .int 0, .ref yta, .int 0, .int 0, .int 0, .int 0, .int 0, .ref ywa, .ref ybi, .ref ysi, .ref ynu, .ref ymo])), (ys, .inl (cI, 449, .inl (fun _ => 0)))] H := hP
  have hD : va_D A [(h0, .inr (9, [.ref ys, .ref yk, .ref yo, .ref yt, .int 0, .ref yfa, .ref yfe, .int 0, .int 0, .int 0, .ref yro, .ref yhe, .ref ygr, .int 0, .int 1, .int 0, .ref yta, .int 0, .int 0, .int 0, .int 0, .int 0, .ref ywa, .ref ybi, .ref ysi, .ref ynu, .ref ymo])), (ys, .inl (cI, 449, .inl (fun _ => 0)))] := hD
  refine lv_iconst (v := 0) hx hb dX9_learning_12 (by decide) ?_
  refine lv_istore_n (lv' := [(2, .int 0), (1, .int 0), (0, .ref h0)]) hx hb dX9_learning_13 rfl hl (by decide) rfl (fun ls hl => ?_)
  refine lv_iload_n hx hb dX9_learning_14 rfl (lv_at hl 0 rfl) ?_
  refine lv_bipush (v := 50) hx hb dX9_learning_15 (by decide) ?_
  refine lv_icmp_ge (tgt := 95) hx hb dX9_learning_17 (by decide) (fun c_1 => absurd c_1 (by decide)) (fun c_1 => ?_)
  refine lv_aload_n hx hb dX9_learning_20 rfl (lv_at hl 2 rfl) ?_
  refine xg hF kf_X9_205 hK hP 0 rfl rfl dX9_learning_21 ?_
  refine lv_if_eq (tgt := 95) hx hb dX9_learning_24 (by decide) (fun c_2 => absurd c_2 (by decide)) (fun c_2 => ?_)
  refine lv_aload_n hx hb dX9_learning_27 rfl (lv_at hl 2 rfl) ?_
  refine lv_iconst (v := 0) hx hb dX9_learning_28 (by decide) ?_
  refine xp hF kf_X9_205 tyX9_ok nmX9 hK hP hD hS 0 rfl rfl rfl rfl (Nat.le_of_ble_eq_true rfl) dX9_learning_29 (fun H locs hP hD hS => ?_)
  have hP : va_P D vwCl [(h0, .inr (9, [.ref ys, .ref yk, .ref yo, .ref yt, .int 0, .ref yfa, .ref yfe, .int 0, .int 0, .int 0, .ref yro, .ref yhe, .ref ygr, .int 0, .int 0, .int 0, .ref yta, .int 0, .int 0, .int 0, .int 0, .int 0, .ref ywa, .ref ybi, .ref ysi, .ref ynu, .ref ymo])), (ys, .inl (cI, 449, .inl (fun _ => 0)))] H := hP
  have hD : va_D A [(h0, .inr (9, [.ref ys, .ref yk, .ref yo, .ref yt, .int 0, .ref yfa, .ref yfe, .int 0, .int 0, .int 0, .ref yro, .ref yhe, .ref ygr, .int 0, .int 0, .int 0, .ref yta, .int 0, .int 0, .int 0, .int 0, .int 0, .ref ywa, .ref ybi, .ref ysi, .ref ynu, .ref ymo])), (ys, .inl (cI, 449, .inl (fun _ => 0)))] := hD
  refine lv_iconst (v := 0) hx hb dX9_learning_32 (by decide) ?_
  refine lv_istore_n (lv' := [(3, .int 0), (2, .int 0), (1, .int 0), (0, .ref h0)]) hx hb dX9_learning_33 rfl hl (by decide) rfl (fun ls hl => ?_)
  refine lv_iload_n hx hb dX9_learning_34 rfl (lv_at hl 0 rfl) ?_
  refine lv_aload_n hx hb dX9_learning_35 rfl (lv_at hl 3 rfl) ?_
  refine xg hF kf_X9_7 hK hP 0 rfl rfl dX9_learning_36 ?_
  refine lv_iconst (v := 2) hx hb dX9_learning_39 (by decide) ?_
  refine va_iald hx hb hK hP 1 0 rfl rfl (xin 2 449 (by decide) (by decide)) dX9_learning_40 ?_
  refine xl_i (y := 0) rfl ?_
  refine lv_icmp_ge (tgt := 74) hx hb dX9_learning_41 (by decide) (fun c_3 => ?_) (fun c_3 => absurd (by decide) c_3)
  refine lv_iload_n hx hb dX9_learning_74 rfl (lv_at hl 2 rfl) ?_
  refine lv_aload_n hx hb dX9_learning_75 rfl (lv_at hl 3 rfl) ?_
  refine xg hF kf_X9_205 hK hP 0 rfl rfl dX9_learning_76 ?_
  refine lv_if_eq (tgt := 86) hx hb dX9_learning_79 (by decide) (fun c_4 => ?_) (fun c_4 => absurd (by decide) c_4)
  refine lv_iconst (v := 0) hx hb dX9_learning_86 (by decide) ?_
  refine lv_iadd hx hb dX9_learning_87 ?_
  refine xl_i (y := 0) (by decide) ?_
  refine lv_istore_n (lv' := [(1, .int 0), (3, .int 0), (2, .int 0), (0, .ref h0)]) hx hb dX9_learning_88 rfl hl (by decide) rfl (fun ls hl => ?_)
  refine lv_iinc (v := 1) (lv' := [(2, .int 1), (1, .int 0), (3, .int 0), (0, .ref h0)]) hx hb dX9_learning_89 hl (k := 2) rfl (by decide) (by decide) rfl (fun ls hl => ?_)
  refine lv_goto (tgt := 14) hx hb dX9_learning_92 (by decide) ?_
  refine lv_iload_n hx hb dX9_learning_14 rfl (lv_at hl 0 rfl) ?_
  refine lv_bipush (v := 50) hx hb dX9_learning_15 (by decide) ?_
  refine lv_icmp_ge (tgt := 95) hx hb dX9_learning_17 (by decide) (fun c_5 => absurd c_5 (by decide)) (fun c_5 => ?_)
  refine lv_aload_n hx hb dX9_learning_20 rfl (lv_at hl 3 rfl) ?_
  refine xg hF kf_X9_205 hK hP 0 rfl rfl dX9_learning_21 ?_
  refine lv_if_eq (tgt := 95) hx hb dX9_learning_24 (by decide) (fun c_6 => ?_) (fun c_6 => absurd (by decide) c_6)
  refine lv_iload_n hx hb dX9_learning_95 rfl (lv_at hl 1 rfl) ?_
  exact W.iret (v := 0) hx hb hr (fun t ht hW => ⟨⟨0, (), rfl, rfl, by rw [ht]; exact hP.sub [0, 1] rfl, hD.sub [0, 1] (by decide) rfl⟩, hS.F ht⟩) hS.2.2 dX9_learning_96 hlk
set_option maxHeartbeats 4000000 in
set_option maxRecDepth 100000 in
theorem c_X9_puts (l : Launch) (D : va_G) (cI cJ cZ cS : ClassId) (sa : Nat → Nat) (sz : Nat) (h0 : Nat) (ys : Nat) (yk : Nat) (yo : Nat) (yt : Nat) (yfa : Nat) (yfe : Nat) (yro : Nat) (yhe : Nat) (ygr : Nat) (yta : Nat) (ywa : Nat) (ybi : Nat) (ysi : Nat) (ynu : Nat) (ymo : Nat) : Met l yX9_puts (Cond.code yX9_puts cX9_puts 2 none :: wsU) ({ frames := 0, cells := 0, slots := 0, locals := 0 }) (va_Pc [.ref h0] (XW D (xT cI cJ cZ cS) sa [(h0, .inr (9, [.ref ys, .ref yk, .ref yo, .ref yt, .int 0, .ref yfa, .ref yfe, .int 0, .int 0, .int 0, .ref yro, .ref yhe, .ref ygr, .int 0, .int 0, .int 0, .ref yta, .int 0, .int 0, .int 0, .int 0, .int 0, .ref ywa, .ref ybi, .ref ysi, .ref ynu, .ref ymo])), (ys, .inl (cI, 449, .inl (fun _ => 0))), (yo, .inl (cI, 449, .inl (fun _ => 0)))] sz)) (XQv (fun _ : (Nat → Int32) => True) D (fun (f2 : Nat → Int32) => [(h0, .inr (9, [.ref ys, .ref yk, .ref yo, .ref yt, .int 0, .ref yfa, .ref yfe, .int 0, .int 0, .int 0, .ref yro, .ref yhe, .ref ygr, .int 0, .int 0, .int 0, .ref yta, .int 0, .int 0, .int 0, .int 0, .int 0, .ref ywa, .ref ybi, .ref ysi, .ref ynu, .ref ymo])), (ys, .inl (cI, 449, .inl (fun _ => 0))), (yo, .inl (cI, 449, .inl f2))]) (va_A [(h0, .inr (9, [.ref ys, .ref yk, .ref yo, .ref yt, .int 0, .ref yfa, .ref yfe, .int 0, .int 0, .int 0, .ref yro, .ref yhe, .ref ygr, .int 0, .int 0, .int 0, .ref yta, .int 0, .int 0, .int 0, .int 0, .int 0, .ref ywa, .ref ybi, .ref ysi, .ref ynu, .ref ymo])), (ys, .inl (cI, 449, .inl (fun _ => 0))), (yo, .inl (cI, 449, .inl (fun _ => 0)))] sz)) 0 0 (va_A [(h0, .inr (9, [.ref ys, .ref yk, .ref yo, .ref yt, .int 0, .ref yfa, .ref yfe, .int 0, .int 0, .int 0, .ref yro, .ref yhe, .ref ygr, .int 0, .int 0, .int 0, .ref yta, .int 0, .int 0, .int 0, .int 0, .int 0, .ref ywa, .ref ybi, .ref ysi, .ref ynu, .ref ymo])), (ys, .inl (cI, 449, .inl (fun _ => 0))), (yo, .inl (cI, 449, .inl (fun _ => 0)))] sz) := by
  refine xhw (QA := fun A => XQv (fun _ : (Nat → Int32) => True) D (fun (f2 : Nat → Int32) => [(h0, .inr (9, [.ref ys, .ref yk, .ref yo, .ref yt, .int 0, .ref yfa, .ref yfe, .int 0, .int 0, .int 0, .ref yro, .ref yhe, .ref ygr, .int 0, .int 0, .int 0, .ref yta, .int 0, .int 0, .int 0, .int 0, .int 0, .ref ywa, .ref ybi, .ref ysi, .ref ynu, .ref ymo])), (ys, .inl (cI, 449, .inl (fun _ => 0))), (yo, .inl (cI, 449, .inl f2))]) A) (by decide) (Nat.le_of_ble_eq_true rfl) ?_
  intro p e s m below meth c ls A hF hr hlk hin hsz hP hK hD hN hA hS hl
  have hF : CallFix p m c cX9_puts 2 s _ _ RX9 := hF
  have hx := hF.1
  have hb := hF.2.1
  have hml := hF.2.2.1
  have hown := hF.2.2.2.1
  have hu : ∀ w ∈ wsU, w.before _ s = true := fun w h => hF.2.2.2.2 w (List.mem_cons_of_mem _ h)
  have hl : lv_has ls 2 [(0, .ref h0)] := hl
  refine lv_iconst (v := 0) hx hb dX9_puts_0 (by decide) ?_
  refine lv_istore_n (lv' := [(1, .int 0), (0, .ref h0)]) hx hb dX9_puts_1 rfl hl (by decide) rfl (fun ls hl => ?_)
  suffices loop_2 : ∀ (n k_1 : Nat) (f9 : Nat → Int32) (H : Heap) (locs : List Loc) (ls : Array Slot), k_1 + n = 449 → va_P D vwCl [(h0, .inr (9, [.ref ys, .ref yk, .ref yo, .ref yt, .int 0, .ref yfa, .ref yfe, .int 0, .int 0, .int 0, .ref yro, .ref yhe, .ref ygr, .int 0, .int 0, .int 0, .ref yta, .int 0, .int 0, .int 0, .int 0, .int 0, .ref ywa, .ref ybi, .ref ysi, .ref ynu, .ref ymo])), (ys, .inl (cI, 449, .inl (fun _ => 0))), (yo, .inl (cI, 449, .inl f9))] H → va_D A [(h0, .inr (9, [.ref ys, .ref yk, .ref yo, .ref yt, .int 0, .ref yfa, .ref yfe, .int 0, .int 0, .int 0, .ref yro, .ref yhe, .ref ygr, .int 0, .int 0, .int 0, .ref yta, .int 0, .int 0, .int 0, .int 0, .int 0, .ref ywa, .ref ybi, .ref ysi, .ref ynu, .ref ymo])), (ys, .inl (cI, 449, .inl (fun _ => 0))), (yo, .inl (cI, 449, .inl f9))] → va_S A s.heap H locs → lv_has ls 2 [(1, .int (nI (k_1))), (0, .ref h0)] → W p l e ({ frames := 0, cells := 0, slots := 0, locals := 0 }) s m ([.ref h0] : List Value).toArray below meth c H locs 0 0 (MQ below (XQv (fun _ : (Nat → Int32) => True) D (fun (f2 : Nat → Int32) => [(h0, .inr (9, [.ref ys, .ref yk, .ref yo, .ref yt, .int 0, .ref yfa, .ref yfe, .int 0, .int 0, .int 0, .ref yro, .ref yhe, .ref ygr, .int 0, .int 0, .int 0, .ref yta, .int 0, .int 0, .int 0, .int 0, .int 0, .ref ywa, .ref ybi, .ref ysi, .ref ynu, .ref ymo])), (ys, .inl (cI, 449, .inl (fun _ => 0))), (yo, .inl (cI, 449, .inl f2))]) A) ([.ref h0] : List Value).toArray s 0 0 A) (F0 m 2 ls []) by
    exact loop_2 449 0 (fun _ => 0) _ _ _ (by decide) hP hD hS (lv_sub hl [0, 1] rfl)
  intro n
  induction n with
  | zero =>
    intro k_1 f9 H locs ls hk hP hD hS hl 
    have hk2 : k_1 = 449 := by omega
    subst hk2
    have hl : lv_has ls 2 [(1, .int 449), (0, .ref h0)] := hl
    refine lv_iload_n hx hb dX9_puts_2 rfl (lv_at hl 0 rfl) ?_
    refine lv_sipush (v := 449) hx hb dX9_puts_3 (by decide) ?_
    refine lv_icmp_ge (tgt := 27) hx hb dX9_puts_6 (by decide) (fun c_3 => ?_) (fun c_3 => absurd (by decide) c_3)
    exact W.vret hx hb hr (fun t ht hW => ⟨⟨f9, rfl, trivial, by rw [ht]; exact hP.sub [0, 1, 2] rfl, hD.sub [0, 1, 2] (by decide) rfl⟩, hS.F ht⟩) hS.2.2 dX9_puts_27 hlk
  | succ n ih =>
    intro k_1 f9 H locs ls hk hP hD hS hl 
    have hlt_k_1 : k_1 < 449 := by omega
    refine lv_iload_n hx hb dX9_puts_2 rfl (lv_at hl 0 rfl) ?_
    refine lv_sipush (v := 449) hx hb dX9_puts_3 (by decide) ?_
    refine lv_icmp_ge (tgt := 27) hx hb dX9_puts_6 (by decide) (fun c_4 => absurd c_4 (nI_ge hlt_k_1 (by decide))) (fun c_4 => ?_)
    refine lv_aload_n hx hb dX9_puts_9 rfl (lv_at hl 1 rfl) ?_
    refine xg hF kf_X9_16 hK hP 0 rfl rfl dX9_puts_10 ?_
    refine lv_iload_n hx hb dX9_puts_13 rfl (lv_at hl 0 rfl) ?_
    refine lv_aload_n hx hb dX9_puts_14 rfl (lv_at hl 1 rfl) ?_
    refine xg hF kf_X9_7 hK hP 0 rfl rfl dX9_puts_15 ?_
    refine lv_iload_n hx hb dX9_puts_18 rfl (lv_at hl 0 rfl) ?_
    refine va_iald hx hb hK hP 1 0 rfl rfl (vp_in_nI (show k_1 < 449 by omega) (by decide)) dX9_puts_19 ?_
    refine xl_i (y := 0) rfl ?_
    refine va_iast hx hb hK hP hD hS 2 0 rfl rfl (vp_in_nI (show k_1 < 449 by omega) (by decide)) dX9_puts_20 (fun H locs hP hD hS => ?_)
    obtain ⟨f_5, ef_5⟩ : ∃ g, g = upd f9 (nI (k_1)).toNatClampNeg 0 := ⟨_, rfl⟩
    rw [← ef_5] at hP hD
    have hP : va_P D vwCl [(h0, .inr (9, [.ref ys, .ref yk, .ref yo, .ref yt, .int 0, .ref yfa, .ref yfe, .int 0, .int 0, .int 0, .ref yro, .ref yhe, .ref ygr, .int 0, .int 0, .int 0, .ref yta, .int 0, .int 0, .int 0, .int 0, .int 0, .ref ywa, .ref ybi, .ref ysi, .ref ynu, .ref ymo])), (ys, .inl (cI, 449, .inl (fun _ => 0))), (yo, .inl (cI, 449, .inl f_5))] H := hP
    have hD : va_D A [(h0, .inr (9, [.ref ys, .ref yk, .ref yo, .ref yt, .int 0, .ref yfa, .ref yfe, .int 0, .int 0, .int 0, .ref yro, .ref yhe, .ref ygr, .int 0, .int 0, .int 0, .ref yta, .int 0, .int 0, .int 0, .int 0, .int 0, .ref ywa, .ref ybi, .ref ysi, .ref ynu, .ref ymo])), (ys, .inl (cI, 449, .inl (fun _ => 0))), (yo, .inl (cI, 449, .inl f_5))] := hD
    refine lv_iinc (v := nI (k_1 + 1)) (lv' := [(1, .int (nI (k_1 + 1))), (0, .ref h0)]) hx hb dX9_puts_21 hl (k := 0) rfl (nI_1 (k_1)) (by decide) rfl (fun ls hl => ?_)
    refine lv_goto (tgt := 2) hx hb dX9_puts_24 (by decide) ?_
    exact ih (k_1 + 1) f_5 _ _ _ (by omega) (hP.sub [0, 1, 2] rfl) (hD.sub [0, 1, 2] (by decide) rfl) hS (lv_sub hl [0, 1] rfl)
set_option maxHeartbeats 4000000 in
set_option maxRecDepth 100000 in
theorem c_X9_putsBack (l : Launch) (D : va_G) (cI cJ cZ cS : ClassId) (sa : Nat → Nat) (sz : Nat) (h0 : Nat) (ys : Nat) (yk : Nat) (yo : Nat) (yt : Nat) (yfa : Nat) (yfe : Nat) (yro : Nat) (yhe : Nat) (ygr : Nat) (yta : Nat) (ywa : Nat) (ybi : Nat) (ysi : Nat) (ynu : Nat) (ymo : Nat) (b1 : Int32) (f : Nat → Int32) : Met l yX9_putsBack (Cond.code yX9_putsBack cX9_putsBack 2 none :: wsU) ({ frames := 0, cells := 0, slots := 0, locals := 0 }) (va_Pc [.ref h0] (XW D (xT cI cJ cZ cS) sa [(h0, .inr (9, [.ref ys, .ref yk, .ref yo, .ref yt, .int 0, .ref yfa, .ref yfe, .int 0, .int 0, .int 0, .ref yro, .ref yhe, .ref ygr, .int 0, .int 0, .int 0, .ref yta, .int 0, .int 0, .int 0, .int 0, .int b1, .ref ywa, .ref ybi, .ref ysi, .ref ynu, .ref ymo])), (ys, .inl (cI, 449, .inl (fun _ => 0))), (yo, .inl (cI, 449, .inl f))] sz)) (XQv (fun _ : Unit => True) D (fun _ : Unit => [(h0, .inr (9, [.ref ys, .ref yk, .ref yo, .ref yt, .int 0, .ref yfa, .ref yfe, .int 0, .int 0, .int 0, .ref yro, .ref yhe, .ref ygr, .int 0, .int 0, .int 0, .ref yta, .int 0, .int 0, .int 0, .int 0, .int b1, .ref ywa, .ref ybi, .ref ysi, .ref ynu, .ref ymo]))]) (va_A [(h0, .inr (9, [.ref ys, .ref yk, .ref yo, .ref yt, .int 0, .ref yfa, .ref yfe, .int 0, .int 0, .int 0, .ref yro, .ref yhe, .ref ygr, .int 0, .int 0, .int 0, .ref yta, .int 0, .int 0, .int 0, .int 0, .int b1, .ref ywa, .ref ybi, .ref ysi, .ref ynu, .ref ymo])), (ys, .inl (cI, 449, .inl (fun _ => 0))), (yo, .inl (cI, 449, .inl f))] sz)) 0 0 (va_A [(h0, .inr (9, [.ref ys, .ref yk, .ref yo, .ref yt, .int 0, .ref yfa, .ref yfe, .int 0, .int 0, .int 0, .ref yro, .ref yhe, .ref ygr, .int 0, .int 0, .int 0, .ref yta, .int 0, .int 0, .int 0, .int 0, .int b1, .ref ywa, .ref ybi, .ref ysi, .ref ynu, .ref ymo])), (ys, .inl (cI, 449, .inl (fun _ => 0))), (yo, .inl (cI, 449, .inl f))] sz) := by
  refine xhw (QA := fun A => XQv (fun _ : Unit => True) D (fun _ : Unit => [(h0, .inr (9, [.ref ys, .ref yk, .ref yo, .ref yt, .int 0, .ref yfa, .ref yfe, .int 0, .int 0, .int 0, .ref yro, .ref yhe, .ref ygr, .int 0, .int 0, .int 0, .ref yta, .int 0, .int 0, .int 0, .int 0, .int b1, .ref ywa, .ref ybi, .ref ysi, .ref ynu, .ref ymo]))]) A) (by decide) (Nat.le_of_ble_eq_true rfl) ?_
  intro p e s m below meth c ls A hF hr hlk hin hsz hP hK hD hN hA hS hl
  have hF : CallFix p m c cX9_putsBack 2 s _ _ RX9 := hF
  have hx := hF.1
  have hb := hF.2.1
  have hml := hF.2.2.1
  have hown := hF.2.2.2.1
  have hu : ∀ w ∈ wsU, w.before _ s = true := fun w h => hF.2.2.2.2 w (List.mem_cons_of_mem _ h)
  have hl : lv_has ls 2 [(0, .ref h0)] := hl
  refine lv_iconst (v := 0) hx hb dX9_putsBack_0 (by decide) ?_
  refine lv_istore_n (lv' := [(1, .int 0), (0, .ref h0)]) hx hb dX9_putsBack_1 rfl hl (by decide) rfl (fun ls hl => ?_)
  suffices loop_2 : ∀ (n k_1 : Nat) (f9 : Nat → Int32) (H : Heap) (locs : List Loc) (ls : Array Slot), k_1 + n = 449 → va_P D vwCl [(h0, .inr (9, [.ref ys, .ref yk, .ref yo, .ref yt, .int 0, .ref yfa, .ref yfe, .int 0, .int 0, .int 0, .ref yro, .ref yhe, .ref ygr, .int 0, .int 0, .int 0, .ref yta, .int 0, .int 0, .int 0, .int 0, .int b1, .ref ywa, .ref ybi, .ref ysi, .ref ynu, .ref ymo])), (ys, .inl (cI, 449, .inl f9)), (yo, .inl (cI, 449, .inl f))] H → va_D A [(h0, .inr (9, [.ref ys, .ref yk, .ref yo, .ref yt, .int 0, .ref yfa, .ref yfe, .int 0, .int 0, .int 0, .ref yro, .ref yhe, .ref ygr, .int 0, .int 0, .int 0, .ref yta, .int 0, .int 0, .int 0, .int 0, .int b1, .ref ywa, .ref ybi, .ref ysi, .ref ynu, .ref ymo])), (ys, .inl (cI, 449, .inl f9)), (yo, .inl (cI, 449, .inl f))] → va_S A s.heap H locs → lv_has ls 2 [(1, .int (nI (k_1))), (0, .ref h0)] → W p l e ({ frames := 0, cells := 0, slots := 0, locals := 0 }) s m ([.ref h0] : List Value).toArray below meth c H locs 0 0 (MQ below (XQv (fun _ : Unit => True) D (fun _ : Unit => [(h0, .inr (9, [.ref ys, .ref yk, .ref yo, .ref yt, .int 0, .ref yfa, .ref yfe, .int 0, .int 0, .int 0, .ref yro, .ref yhe, .ref ygr, .int 0, .int 0, .int 0, .ref yta, .int 0, .int 0, .int 0, .int 0, .int b1, .ref ywa, .ref ybi, .ref ysi, .ref ynu, .ref ymo]))]) A) ([.ref h0] : List Value).toArray s 0 0 A) (F0 m 2 ls []) by
    exact loop_2 449 0 (fun _ => 0) _ _ _ (by decide) hP hD hS (lv_sub hl [0, 1] rfl)
  intro n
  induction n with
  | zero =>
    intro k_1 f9 H locs ls hk hP hD hS hl 
    have hk2 : k_1 = 449 := by omega
    subst hk2
    have hl : lv_has ls 2 [(1, .int 449), (0, .ref h0)] := hl
    refine lv_iload_n hx hb dX9_putsBack_2 rfl (lv_at hl 0 rfl) ?_
    refine lv_sipush (v := 449) hx hb dX9_putsBack_3 (by decide) ?_
    refine lv_icmp_ge (tgt := 27) hx hb dX9_putsBack_6 (by decide) (fun c_3 => ?_) (fun c_3 => absurd (by decide) c_3)
    exact W.vret hx hb hr (fun t ht hW => ⟨⟨(), rfl, trivial, by rw [ht]; exact hP.sub [0] rfl, hD.sub [0] (by decide) rfl⟩, hS.F ht⟩) hS.2.2 dX9_putsBack_27 hlk
  | succ n ih =>
    intro k_1 f9 H locs ls hk hP hD hS hl 
    have hlt_k_1 : k_1 < 449 := by omega
    refine lv_iload_n hx hb dX9_putsBack_2 rfl (lv_at hl 0 rfl) ?_
    refine lv_sipush (v := 449) hx hb dX9_putsBack_3 (by decide) ?_
    refine lv_icmp_ge (tgt := 27) hx hb dX9_putsBack_6 (by decide) (fun c_4 => absurd c_4 (nI_ge hlt_k_1 (by decide))) (fun c_4 => ?_)
    refine lv_aload_n hx hb dX9_putsBack_9 rfl (lv_at hl 1 rfl) ?_
    refine xg hF kf_X9_7 hK hP 0 rfl rfl dX9_putsBack_10 ?_
    refine lv_iload_n hx hb dX9_putsBack_13 rfl (lv_at hl 0 rfl) ?_
    refine lv_aload_n hx hb dX9_putsBack_14 rfl (lv_at hl 1 rfl) ?_
    refine xg hF kf_X9_16 hK hP 0 rfl rfl dX9_putsBack_15 ?_
    refine lv_iload_n hx hb dX9_putsBack_18 rfl (lv_at hl 0 rfl) ?_
    refine va_iald hx hb hK hP 2 0 rfl rfl (vp_in_nI (show k_1 < 449 by omega) (by decide)) dX9_putsBack_19 ?_
    refine xl_i (y := f k_1) (congrArg f (nI_clamp (show k_1 < 2 ^ 31 by omega))) ?_
    refine va_iast hx hb hK hP hD hS 1 0 rfl rfl (vp_in_nI (show k_1 < 449 by omega) (by decide)) dX9_putsBack_20 (fun H locs hP hD hS => ?_)
    obtain ⟨f_5, ef_5⟩ : ∃ g, g = upd f9 (nI (k_1)).toNatClampNeg (f k_1) := ⟨_, rfl⟩
    rw [← ef_5] at hP hD
    have hP : va_P D vwCl [(h0, .inr (9, [.ref ys, .ref yk, .ref yo, .ref yt, .int 0, .ref yfa, .ref yfe, .int 0, .int 0, .int 0, .ref yro, .ref yhe, .ref ygr, .int 0, .int 0, .int 0, .ref yta, .int 0, .int 0, .int 0, .int 0, .int b1, .ref ywa, .ref ybi, .ref ysi, .ref ynu, .ref ymo])), (ys, .inl (cI, 449, .inl f_5)), (yo, .inl (cI, 449, .inl f))] H := hP
    have hD : va_D A [(h0, .inr (9, [.ref ys, .ref yk, .ref yo, .ref yt, .int 0, .ref yfa, .ref yfe, .int 0, .int 0, .int 0, .ref yro, .ref yhe, .ref ygr, .int 0, .int 0, .int 0, .ref yta, .int 0, .int 0, .int 0, .int 0, .int b1, .ref ywa, .ref ybi, .ref ysi, .ref ynu, .ref ymo])), (ys, .inl (cI, 449, .inl f_5)), (yo, .inl (cI, 449, .inl f))] := hD
    refine lv_iinc (v := nI (k_1 + 1)) (lv' := [(1, .int (nI (k_1 + 1))), (0, .ref h0)]) hx hb dX9_putsBack_21 hl (k := 0) rfl (nI_1 (k_1)) (by decide) rfl (fun ls hl => ?_)
    refine lv_goto (tgt := 2) hx hb dX9_putsBack_24 (by decide) ?_
    exact ih (k_1 + 1) f_5 _ _ _ (by omega) (hP.sub [0, 1, 2] rfl) (hD.sub [0, 1, 2] (by decide) rfl) hS (lv_sub hl [0, 1] rfl)
set_option maxHeartbeats 4000000 in
set_option maxRecDepth 100000 in
theorem c_X9_between (l : Launch) (D : va_G) (cI cJ cZ cS : ClassId) (sa : Nat → Nat) (sz : Nat) (h0 : Nat) (ys : Nat) (yk : Nat) (yo : Nat) (yt : Nat) (yfa : Nat) (yfe : Nat) (yro : Nat) (yhe : Nat) (ygr : Nat) (yta : Nat) (ywa : Nat) (ybi : Nat) (ysi : Nat) (ynu : Nat) (ymo : Nat) (k : Nat) (hk0 : k < 100) : Met l yX9_between (Cond.code yX9_between cX9_between 2 (some .int) :: wsU) ({ frames := 0, cells := 0, slots := 0, locals := 0 }) (va_Pc [.ref h0, .int (nI (k))] (XW D (xT cI cJ cZ cS) sa [(h0, .inr (9, [.ref ys, .ref yk, .ref yo, .ref yt, .int 0, .ref yfa, .ref yfe, .int 0, .int 0, .int 0, .ref yro, .ref yhe, .ref ygr, .int 0, .int 0, .int 0, .ref yta, .int 0, .int 0, .int 0, .int 0, .int 0, .ref ywa, .ref ybi, .ref ysi, .ref ynu, .ref ymo])), (ys, .inl (cI, 449, .inl (fun _ => 0)))] sz)) (vp_Si (fun r : Int32 => r = (-1))) 0 0 (fun _ => False) := by
  refine xh (by decide) (Nat.le_of_ble_eq_true rfl) ?_
  intro p e s m below meth c ls hF hr hlk hin hsz hP hK hD hN hl
  have hF : CallFix p m c cX9_between 2 s _ _ RX9 := hF
  have hx := hF.1
  have hb := hF.2.1
  have hml := hF.2.2.1
  have hown := hF.2.2.2.1
  have hu : ∀ w ∈ wsU, w.before _ s = true := fun w h => hF.2.2.2.2 w (List.mem_cons_of_mem _ h)
  have hl : lv_has ls 2 [(0, .ref h0), (1, .int (nI (k)))] := hl
  refine lv_aload_n hx hb dX9_between_0 rfl (lv_at hl 0 rfl) ?_
  refine xg hF kf_X9_7 hK hP 0 rfl rfl dX9_between_1 ?_
  refine lv_sipush (v := 213) hx hb dX9_between_4 (by decide) ?_
  refine lv_iload_n hx hb dX9_between_7 rfl (lv_at hl 1 rfl) ?_
  refine lv_iadd hx hb dX9_between_8 ?_
  refine xl_i (y := nI (213 + k)) (nI_add 213 k) ?_
  refine va_iald hx hb hK hP 1 0 rfl rfl (vp_in_nI (show 213 + k < 449 by omega) (by decide)) dX9_between_9 ?_
  refine xl_i (y := 0) rfl ?_
  refine lv_if_le (tgt := 35) hx hb dX9_between_10 (by decide) (fun c_1 => ?_) (fun c_1 => absurd (by decide) c_1)
  refine lv_iconst (v := (-1)) hx hb dX9_between_35 (by decide) ?_
  exact W.iret (v := (-1)) hx hb hr (fun t ht hW => ⟨(-1), rfl, rfl, ht⟩) (fun q h => by cases h) dX9_between_36 hlk
set_option maxHeartbeats 4000000 in
set_option maxRecDepth 100000 in
theorem c_X9_byteAt (l : Launch) (D : va_G) (cI cJ cZ cS : ClassId) (sa : Nat → Nat) (sz : Nat) (h0 : Nat) (ys : Nat) (yk : Nat) (yo : Nat) (yt : Nat) (yfa : Nat) (yfe : Nat) (yro : Nat) (yhe : Nat) (ygr : Nat) (yta : Nat) (ywa : Nat) (ybi : Nat) (ysi : Nat) (ynu : Nat) (ymo : Nat) : Met l yX9_byteAt (Cond.code yX9_byteAt cX9_byteAt 2 (some .int) :: wsU) ({ frames := 0, cells := 0, slots := 0, locals := 0 }) (va_Pc [.ref h0, .int 0] (XW D (xT cI cJ cZ cS) sa [(h0, .inr (9, [.ref ys, .ref yk, .ref yo, .ref yt, .int 0, .ref yfa, .ref yfe, .int 0, .int 0, .int 0, .ref yro, .ref yhe, .ref ygr, .int 0, .int 0, .int 0, .ref yta, .int 0, .int 0, .int 0, .int 0, .int 0, .ref ywa, .ref ybi, .ref ysi, .ref ynu, .ref ymo]))] sz)) (vp_Si (fun r : Int32 => r = (-1))) 0 0 (fun _ => False) := by
  refine xh (by decide) (Nat.le_of_ble_eq_true rfl) ?_
  intro p e s m below meth c ls hF hr hlk hin hsz hP hK hD hN hl
  have hF : CallFix p m c cX9_byteAt 2 s _ _ RX9 := hF
  have hx := hF.1
  have hb := hF.2.1
  have hml := hF.2.2.1
  have hown := hF.2.2.2.1
  have hu : ∀ w ∈ wsU, w.before _ s = true := fun w h => hF.2.2.2.2 w (List.mem_cons_of_mem _ h)
  have hl : lv_has ls 2 [(0, .ref h0), (1, .int 0)] := hl
  refine lv_iload_n hx hb dX9_byteAt_0 rfl (lv_at hl 1 rfl) ?_
  refine lv_aload_n hx hb dX9_byteAt_1 rfl (lv_at hl 0 rfl) ?_
  refine xg hF kf_X9_240 hK hP 0 rfl rfl dX9_byteAt_2 ?_
  refine lv_icmp_ge (tgt := 17) hx hb dX9_byteAt_5 (by decide) (fun c_1 => ?_) (fun c_1 => absurd (by decide) c_1)
  refine lv_iconst (v := (-1)) hx hb dX9_byteAt_17 (by decide) ?_
  exact W.iret (v := (-1)) hx hb hr (fun t ht hW => ⟨(-1), rfl, rfl, ht⟩) (fun q h => by cases h) dX9_byteAt_18 hlk
set_option maxHeartbeats 4000000 in
set_option maxRecDepth 100000 in
theorem c_X9_isLetter (l : Launch) (D : va_G) (cI cJ cZ cS : ClassId) (sa : Nat → Nat) (sz : Nat) : Met l yX9_isLetter (Cond.code yX9_isLetter cX9_isLetter 1 (some .boolean) :: wsU) ({ frames := 1, cells := 0, slots := 0, locals := 25 }) (va_Pc [.int (-1)] (XW D (xT cI cJ cZ cS) sa [] sz)) (vp_Si (fun r : Int32 => r = 0)) 0 0 (fun _ => False) := by
  refine xh (by decide) (Nat.le_of_ble_eq_true rfl) ?_
  intro p e s m below meth c ls hF hr hlk hin hsz hP hK hD hN hl
  have hF : CallFix p m c cX9_isLetter 1 s _ _ RX9 := hF
  have hx := hF.1
  have hb := hF.2.1
  have hml := hF.2.2.1
  have hown := hF.2.2.2.1
  have hu : ∀ w ∈ wsU, w.before _ s = true := fun w h => hF.2.2.2.2 w (List.mem_cons_of_mem _ h)
  have hl : lv_has ls 1 [(0, .int (-1))] := hl
  refine lv_iload_n hx hb dX9_isLetter_0 rfl (lv_at hl 0 rfl) ?_
  refine lv_i2l (v := ((-1) : Int32).toInt64) hx hb dX9_isLetter_1 rfl ?_
  refine lv_ldc2 (v := 97) hx hb hown (hu _ uw378) dX9_isLetter_2 ?_
  refine xl_l (y := (97 : Int32).toInt64) (by decide) ?_
  refine lv_ldc2 (v := 122) hx hb hown (hu _ uw379) dX9_isLetter_5 ?_
  refine xl_l (y := (122 : Int32).toInt64) (by decide) ?_
  refine xc_Sr hF (c_X9_in l D cI cJ cZ cS sa s.heap.size ((-1) : Int32) 97 122 ) ks_X9_57 ⟨rfl, rfl, Nat.le_of_ble_eq_true rfl, Nat.le_of_ble_eq_true rfl⟩ ⟨Nat.le_of_ble_eq_true rfl, Nat.le_of_ble_eq_true rfl⟩ hK hN hP hD [] rfl rfl rfl hl.1 rfl (Nat.le_of_ble_eq_true rfl) dX9_isLetter_8 (fun r_1 hw_r_1 => ?_)
  rcases hw_r_1 with ⟨rfl, h_2, h_3⟩ | ⟨rfl, h_4⟩
  · exact absurd (by decide) h_2
  · skip
    exact W.zret (v := 0) hx hb hr rfl (fun t ht hW => ⟨0, rfl, rfl, ht⟩) (fun q h => by cases h) dX9_isLetter_11 hlk
set_option maxHeartbeats 4000000 in
set_option maxRecDepth 100000 in
theorem c_X9_isDigit (l : Launch) (D : va_G) (cI cJ cZ cS : ClassId) (sa : Nat → Nat) (sz : Nat) : Met l yX9_isDigit (Cond.code yX9_isDigit cX9_isDigit 1 (some .boolean) :: wsU) ({ frames := 1, cells := 0, slots := 0, locals := 25 }) (va_Pc [.int (-1)] (XW D (xT cI cJ cZ cS) sa [] sz)) (vp_Si (fun r : Int32 => r = 0)) 0 0 (fun _ => False) := by
  refine xh (by decide) (Nat.le_of_ble_eq_true rfl) ?_
  intro p e s m below meth c ls hF hr hlk hin hsz hP hK hD hN hl
  have hF : CallFix p m c cX9_isDigit 1 s _ _ RX9 := hF
  have hx := hF.1
  have hb := hF.2.1
  have hml := hF.2.2.1
  have hown := hF.2.2.2.1
  have hu : ∀ w ∈ wsU, w.before _ s = true := fun w h => hF.2.2.2.2 w (List.mem_cons_of_mem _ h)
  have hl : lv_has ls 1 [(0, .int (-1))] := hl
  refine lv_iload_n hx hb dX9_isDigit_0 rfl (lv_at hl 0 rfl) ?_
  refine lv_i2l (v := ((-1) : Int32).toInt64) hx hb dX9_isDigit_1 rfl ?_
  refine lv_ldc2 (v := 48) hx hb hown (hu _ uw380) dX9_isDigit_2 ?_
  refine xl_l (y := (48 : Int32).toInt64) (by decide) ?_
  refine lv_ldc2 (v := 57) hx hb hown (hu _ uw381) dX9_isDigit_5 ?_
  refine xl_l (y := (57 : Int32).toInt64) (by decide) ?_
  refine xc_Sr hF (c_X9_in l D cI cJ cZ cS sa s.heap.size ((-1) : Int32) 48 57 ) ks_X9_57 ⟨rfl, rfl, Nat.le_of_ble_eq_true rfl, Nat.le_of_ble_eq_true rfl⟩ ⟨Nat.le_of_ble_eq_true rfl, Nat.le_of_ble_eq_true rfl⟩ hK hN hP hD [] rfl rfl rfl hl.1 rfl (Nat.le_of_ble_eq_true rfl) dX9_isDigit_8 (fun r_1 hw_r_1 => ?_)
  rcases hw_r_1 with ⟨rfl, h_2, h_3⟩ | ⟨rfl, h_4⟩
  · exact absurd (by decide) h_2
  · skip
    exact W.zret (v := 0) hx hb hr rfl (fun t ht hW => ⟨0, rfl, rfl, ht⟩) (fun q h => by cases h) dX9_isDigit_11 hlk
set_option maxHeartbeats 4000000 in
set_option maxRecDepth 100000 in
theorem c_X9_next (l : Launch) (D : va_G) (cI cJ cZ cS : ClassId) (sa : Nat → Nat) (sz : Nat) (h0 : Nat) (ys : Nat) (yk : Nat) (yo : Nat) (yt : Nat) (yfa : Nat) (yfe : Nat) (yro : Nat) (yhe : Nat) (ygr : Nat) (yta : Nat) (ywa : Nat) (ybi : Nat) (ysi : Nat) (ynu : Nat) (ymo : Nat) : Met l yX9_next (Cond.code yX9_next cX9_next 3 none :: wsU) ({ frames := 2, cells := 0, slots := 0, locals := 45 }) (va_Pc [.ref h0] (XW D (xT cI cJ cZ cS) sa [(h0, .inr (9, [.ref ys, .ref yk, .ref yo, .ref yt, .int 0, .ref yfa, .ref yfe, .int 0, .int 0, .int 0, .ref yro, .ref yhe, .ref ygr, .int 0, .int 0, .int 0, .ref yta, .int 0, .int 0, .int 0, .int 0, .int 0, .ref ywa, .ref ybi, .ref ysi, .ref ynu, .ref ymo]))] sz)) (XQv (fun _ : Unit => True) D (fun _ : Unit => [(h0, .inr (9, [.ref ys, .ref yk, .ref yo, .ref yt, .int 0, .ref yfa, .ref yfe, .int 0, .int 0, .int 0, .ref yro, .ref yhe, .ref ygr, .int 0, .int 0, .int 0, .ref yta, .int 0, .int 0, .int 0, .int 0, .int 0, .ref ywa, .ref ybi, .ref ysi, .ref ynu, .ref ymo]))]) (va_A [(h0, .inr (9, [.ref ys, .ref yk, .ref yo, .ref yt, .int 0, .ref yfa, .ref yfe, .int 0, .int 0, .int 0, .ref yro, .ref yhe, .ref ygr, .int 0, .int 0, .int 0, .ref yta, .int 0, .int 0, .int 0, .int 0, .int 0, .ref ywa, .ref ybi, .ref ysi, .ref ynu, .ref ymo]))] sz)) 0 0 (va_A [(h0, .inr (9, [.ref ys, .ref yk, .ref yo, .ref yt, .int 0, .ref yfa, .ref yfe, .int 0, .int 0, .int 0, .ref yro, .ref yhe, .ref ygr, .int 0, .int 0, .int 0, .ref yta, .int 0, .int 0, .int 0, .int 0, .int 0, .ref ywa, .ref ybi, .ref ysi, .ref ynu, .ref ymo]))] sz) := by
  refine xhw (QA := fun A => XQv (fun _ : Unit => True) D (fun _ : Unit => [(h0, .inr (9, [.ref ys, .ref yk, .ref yo, .ref yt, .int 0, .ref yfa, .ref yfe, .int 0, .int 0, .int 0, .ref yro, .ref yhe, .ref ygr, .int 0, .int 0, .int 0, .ref yta, .int 0, .int 0, .int 0, .int 0, .int 0, .ref ywa, .ref ybi, .ref ysi, .ref ynu, .ref ymo]))]) A) (by decide) (Nat.le_of_ble_eq_true rfl) ?_
  intro p e s m below meth c ls A hF hr hlk hin hsz hP hK hD hN hA hS hl
  have hF : CallFix p m c cX9_next 3 s _ _ RX9 := hF
  have hx := hF.1
  have hb := hF.2.1
  have hml := hF.2.2.1
  have hown := hF.2.2.2.1
  have hu : ∀ w ∈ wsU, w.before _ s = true := fun w h => hF.2.2.2.2 w (List.mem_cons_of_mem _ h)
  have hl : lv_has ls 3 [(0, .ref h0)] := hl
  refine lv_aload_n hx hb dX9_next_0 rfl (lv_at hl 0 rfl) ?_
  refine lv_aload_n hx hb dX9_next_1 rfl (lv_at hl 0 rfl) ?_
  refine xg hF kf_X9_251 hK hP 0 rfl rfl dX9_next_2 ?_
  refine xp hF kf_X9_254 tyX9_ok nmX9 hK hP hD hS 0 rfl rfl rfl rfl (Nat.le_of_ble_eq_true rfl) dX9_next_5 (fun H locs hP hD hS => ?_)
  have hP : va_P D vwCl [(h0, .inr (9, [.ref ys, .ref yk, .ref yo, .ref yt, .int 0, .ref yfa, .ref yfe, .int 0, .int 0, .int 0, .ref yro, .ref yhe, .ref ygr, .int 0, .int 0, .int 0, .ref yta, .int 0, .int 0, .int 0, .int 0, .int 0, .ref ywa, .ref ybi, .ref ysi, .ref ynu, .ref ymo]))] H := hP
  have hD : va_D A [(h0, .inr (9, [.ref ys, .ref yk, .ref yo, .ref yt, .int 0, .ref yfa, .ref yfe, .int 0, .int 0, .int 0, .ref yro, .ref yhe, .ref ygr, .int 0, .int 0, .int 0, .ref yta, .int 0, .int 0, .int 0, .int 0, .int 0, .ref ywa, .ref ybi, .ref ysi, .ref ynu, .ref ymo]))] := hD
  refine lv_aload_n hx hb dX9_next_8 rfl (lv_at hl 0 rfl) ?_
  refine lv_aload_n hx hb dX9_next_9 rfl (lv_at hl 0 rfl) ?_
  refine xg hF kf_X9_254 hK hP 0 rfl rfl dX9_next_10 ?_
  refine xc_Vr hF (c_X9_byteAt l D cI cJ cZ cS sa H.size h0 ys yk yo yt yfa yfe yro yhe ygr yta ywa ybi ysi ynu ymo ) kv_X9_257 ⟨rfl, rfl, Nat.le_of_ble_eq_true rfl, Nat.le_of_ble_eq_true rfl⟩ ⟨Nat.le_of_ble_eq_true rfl, Nat.le_of_ble_eq_true rfl⟩ hK hN hP hD [0] rfl rfl 0 rfl rfl rfl rfl hl.1 rfl (Nat.le_of_ble_eq_true rfl) dX9_next_13 (fun r_1 hw_r_1 => ?_)
  subst hw_r_1
  refine lv_bipush (v := 32) hx hb dX9_next_16 (by decide) ?_
  refine lv_icmp_ne (tgt := 34) hx hb dX9_next_18 (by decide) (fun c_2 => ?_) (fun c_2 => absurd c_2 (by decide))
  refine lv_aload_n hx hb dX9_next_34 rfl (lv_at hl 0 rfl) ?_
  refine lv_aload_n hx hb dX9_next_35 rfl (lv_at hl 0 rfl) ?_
  refine xg hF kf_X9_254 hK hP 0 rfl rfl dX9_next_36 ?_
  refine xc_Vr hF (c_X9_byteAt l D cI cJ cZ cS sa H.size h0 ys yk yo yt yfa yfe yro yhe ygr yta ywa ybi ysi ynu ymo ) kv_X9_257 ⟨rfl, rfl, Nat.le_of_ble_eq_true rfl, Nat.le_of_ble_eq_true rfl⟩ ⟨Nat.le_of_ble_eq_true rfl, Nat.le_of_ble_eq_true rfl⟩ hK hN hP hD [0] rfl rfl 0 rfl rfl rfl rfl hl.1 rfl (Nat.le_of_ble_eq_true rfl) dX9_next_39 (fun r_3 hw_r_3 => ?_)
  subst hw_r_3
  refine xc_Sr hF (c_X9_isLetter l D cI cJ cZ cS sa H.size  ) ks_X9_260 ⟨rfl, rfl, Nat.le_of_ble_eq_true rfl, Nat.le_of_ble_eq_true rfl⟩ ⟨Nat.le_of_ble_eq_true rfl, Nat.le_of_ble_eq_true rfl⟩ hK hN hP hD [] rfl rfl rfl hl.1 rfl (Nat.le_of_ble_eq_true rfl) dX9_next_42 (fun r_4 hw_r_4 => ?_)
  subst hw_r_4
  refine lv_istore_n (lv' := [(1, .int 0), (0, .ref h0)]) hx hb dX9_next_45 rfl hl (by decide) rfl (fun ls hl => ?_)
  refine lv_aload_n hx hb dX9_next_46 rfl (lv_at hl 1 rfl) ?_
  refine lv_aload_n hx hb dX9_next_47 rfl (lv_at hl 1 rfl) ?_
  refine xg hF kf_X9_254 hK hP 0 rfl rfl dX9_next_48 ?_
  refine xc_Vr hF (c_X9_byteAt l D cI cJ cZ cS sa H.size h0 ys yk yo yt yfa yfe yro yhe ygr yta ywa ybi ysi ynu ymo ) kv_X9_257 ⟨rfl, rfl, Nat.le_of_ble_eq_true rfl, Nat.le_of_ble_eq_true rfl⟩ ⟨Nat.le_of_ble_eq_true rfl, Nat.le_of_ble_eq_true rfl⟩ hK hN hP hD [0] rfl rfl 0 rfl rfl rfl rfl hl.1 rfl (Nat.le_of_ble_eq_true rfl) dX9_next_51 (fun r_5 hw_r_5 => ?_)
  subst hw_r_5
  refine xc_Sr hF (c_X9_isDigit l D cI cJ cZ cS sa H.size  ) ks_X9_263 ⟨rfl, rfl, Nat.le_of_ble_eq_true rfl, Nat.le_of_ble_eq_true rfl⟩ ⟨Nat.le_of_ble_eq_true rfl, Nat.le_of_ble_eq_true rfl⟩ hK hN hP hD [] rfl rfl rfl hl.1 rfl (Nat.le_of_ble_eq_true rfl) dX9_next_54 (fun r_6 hw_r_6 => ?_)
  subst hw_r_6
  refine lv_istore_n (lv' := [(2, .int 0), (1, .int 0), (0, .ref h0)]) hx hb dX9_next_57 rfl hl (by decide) rfl (fun ls hl => ?_)
  refine lv_aload_n hx hb dX9_next_58 rfl (lv_at hl 2 rfl) ?_
  refine lv_aload_n hx hb dX9_next_59 rfl (lv_at hl 2 rfl) ?_
  refine xg hF kf_X9_254 hK hP 0 rfl rfl dX9_next_60 ?_
  refine lv_aload_n hx hb dX9_next_63 rfl (lv_at hl 2 rfl) ?_
  refine xg hF kf_X9_240 hK hP 0 rfl rfl dX9_next_64 ?_
  refine lv_icmp_ge (tgt := 79) hx hb dX9_next_67 (by decide) (fun c_7 => ?_) (fun c_7 => absurd (by decide) c_7)
  refine lv_aload_n hx hb dX9_next_79 rfl (lv_at hl 2 rfl) ?_
  refine xg hF kf_X9_254 hK hP 0 rfl rfl dX9_next_80 ?_
  refine xp hF kf_X9_251 tyX9_ok nmX9 hK hP hD hS 0 rfl rfl rfl rfl (Nat.le_of_ble_eq_true rfl) dX9_next_83 (fun H locs hP hD hS => ?_)
  have hP : va_P D vwCl [(h0, .inr (9, [.ref ys, .ref yk, .ref yo, .ref yt, .int 0, .ref yfa, .ref yfe, .int 0, .int 0, .int 0, .ref yro, .ref yhe, .ref ygr, .int 0, .int 0, .int 0, .ref yta, .int 0, .int 0, .int 0, .int 0, .int 0, .ref ywa, .ref ybi, .ref ysi, .ref ynu, .ref ymo]))] H := hP
  have hD : va_D A [(h0, .inr (9, [.ref ys, .ref yk, .ref yo, .ref yt, .int 0, .ref yfa, .ref yfe, .int 0, .int 0, .int 0, .ref yro, .ref yhe, .ref ygr, .int 0, .int 0, .int 0, .ref yta, .int 0, .int 0, .int 0, .int 0, .int 0, .ref ywa, .ref ybi, .ref ysi, .ref ynu, .ref ymo]))] := hD
  refine lv_iload_n hx hb dX9_next_86 rfl (lv_at hl 1 rfl) ?_
  refine lv_if_eq (tgt := 104) hx hb dX9_next_87 (by decide) (fun c_8 => ?_) (fun c_8 => absurd (by decide) c_8)
  refine lv_iload_n hx hb dX9_next_104 rfl (lv_at hl 0 rfl) ?_
  refine lv_if_eq (tgt := 135) hx hb dX9_next_105 (by decide) (fun c_9 => ?_) (fun c_9 => absurd (by decide) c_9)
  exact W.vret hx hb hr (fun t ht hW => ⟨⟨(), rfl, trivial, by rw [ht]; exact hP.sub [0] rfl, hD.sub [0] (by decide) rfl⟩, hS.F ht⟩) hS.2.2 dX9_next_135 hlk
set_option maxHeartbeats 4000000 in
set_option maxRecDepth 100000 in
theorem c_X9_isWord_way (l : Launch) (D : va_G) (cI cJ cZ cS : ClassId) (sa : Nat → Nat) (sz : Nat) (h0 : Nat) (ys : Nat) (yk : Nat) (yo : Nat) (yt : Nat) (yfa : Nat) (yfe : Nat) (yro : Nat) (yhe : Nat) (ygr : Nat) (yta : Nat) (ywa : Nat) (ybi : Nat) (ysi : Nat) (ynu : Nat) (ymo : Nat) : Met l yX9_isWord (Cond.code yX9_isWord cX9_isWord 9 (some .boolean) :: wsU) ({ frames := 0, cells := 0, slots := 0, locals := 0 }) (va_Pc [.ref h0, .int 119, .int 97, .int 121, .int 0, .int 0, .int 0, .int 0] (XW D (xT cI cJ cZ cS) sa [(h0, .inr (9, [.ref ys, .ref yk, .ref yo, .ref yt, .int 0, .ref yfa, .ref yfe, .int 0, .int 0, .int 0, .ref yro, .ref yhe, .ref ygr, .int 0, .int 0, .int 0, .ref yta, .int 0, .int 0, .int 0, .int 0, .int 0, .ref ywa, .ref ybi, .ref ysi, .ref ynu, .ref ymo]))] sz)) (vp_Si (fun r : Int32 => r = 0)) 0 0 (fun _ => False) := by
  refine xh (by decide) (Nat.le_of_ble_eq_true rfl) ?_
  intro p e s m below meth c ls hF hr hlk hin hsz hP hK hD hN hl
  have hF : CallFix p m c cX9_isWord 9 s _ _ RX9 := hF
  have hx := hF.1
  have hb := hF.2.1
  have hml := hF.2.2.1
  have hown := hF.2.2.2.1
  have hu : ∀ w ∈ wsU, w.before _ s = true := fun w h => hF.2.2.2.2 w (List.mem_cons_of_mem _ h)
  have hl : lv_has ls 9 [(0, .ref h0), (1, .int 119), (2, .int 97), (3, .int 121), (4, .int 0), (5, .int 0), (6, .int 0), (7, .int 0)] := hl
  refine lv_iload_n hx hb dX9_isWord_0 rfl (lv_at hl 3 rfl) ?_
  refine lv_if_ne (tgt := 8) hx hb dX9_isWord_1 (by decide) (fun c_1 => ?_) (fun c_1 => absurd c_1 (by decide))
  refine lv_iload hx hb dX9_isWord_8 (lv_at hl 4 rfl) ?_
  refine lv_if_ne (tgt := 17) hx hb dX9_isWord_10 (by decide) (fun c_2 => absurd (by decide) c_2) (fun c_2 => ?_)
  refine lv_iconst (v := 3) hx hb dX9_isWord_13 (by decide) ?_
  refine lv_goto (tgt := 47) hx hb dX9_isWord_14 (by decide) ?_
  refine lv_istore (lv' := [(8, .int 3), (0, .ref h0), (1, .int 119), (2, .int 97), (3, .int 121), (4, .int 0), (5, .int 0), (6, .int 0), (7, .int 0)]) hx hb dX9_isWord_47 hl (by decide) rfl (fun ls hl => ?_)
  refine lv_aload_n hx hb dX9_isWord_49 rfl (lv_at hl 1 rfl) ?_
  refine xg hF kf_X9_266 hK hP 0 rfl rfl dX9_isWord_50 ?_
  refine lv_if_ne (tgt := 142) hx hb dX9_isWord_53 (by decide) (fun c_3 => absurd (by decide) c_3) (fun c_3 => ?_)
  refine lv_aload_n hx hb dX9_isWord_56 rfl (lv_at hl 1 rfl) ?_
  refine xg hF kf_X9_251 hK hP 0 rfl rfl dX9_isWord_57 ?_
  refine lv_aload_n hx hb dX9_isWord_60 rfl (lv_at hl 1 rfl) ?_
  refine xg hF kf_X9_254 hK hP 0 rfl rfl dX9_isWord_61 ?_
  refine lv_isub hx hb dX9_isWord_64 ?_
  refine xl_i (y := 0) (by decide) ?_
  refine lv_iload hx hb dX9_isWord_65 (lv_at hl 0 rfl) ?_
  refine lv_icmp_ne (tgt := 142) hx hb dX9_isWord_67 (by decide) (fun c_4 => ?_) (fun c_4 => absurd c_4 (by decide))
  refine lv_iconst (v := 0) hx hb dX9_isWord_142 (by decide) ?_
  exact W.zret (v := 0) hx hb hr rfl (fun t ht hW => ⟨0, rfl, rfl, ht⟩) (fun q h => by cases h) dX9_isWord_143 hlk
set_option maxHeartbeats 4000000 in
set_option maxRecDepth 100000 in
theorem c_X9_isWord_walk (l : Launch) (D : va_G) (cI cJ cZ cS : ClassId) (sa : Nat → Nat) (sz : Nat) (h0 : Nat) (ys : Nat) (yk : Nat) (yo : Nat) (yt : Nat) (yfa : Nat) (yfe : Nat) (yro : Nat) (yhe : Nat) (ygr : Nat) (yta : Nat) (ywa : Nat) (ybi : Nat) (ysi : Nat) (ynu : Nat) (ymo : Nat) : Met l yX9_isWord (Cond.code yX9_isWord cX9_isWord 9 (some .boolean) :: wsU) ({ frames := 0, cells := 0, slots := 0, locals := 0 }) (va_Pc [.ref h0, .int 119, .int 97, .int 108, .int 107, .int 0, .int 0, .int 0] (XW D (xT cI cJ cZ cS) sa [(h0, .inr (9, [.ref ys, .ref yk, .ref yo, .ref yt, .int 0, .ref yfa, .ref yfe, .int 0, .int 0, .int 0, .ref yro, .ref yhe, .ref ygr, .int 0, .int 0, .int 0, .ref yta, .int 0, .int 0, .int 0, .int 0, .int 0, .ref ywa, .ref ybi, .ref ysi, .ref ynu, .ref ymo]))] sz)) (vp_Si (fun r : Int32 => r = 0)) 0 0 (fun _ => False) := by
  refine xh (by decide) (Nat.le_of_ble_eq_true rfl) ?_
  intro p e s m below meth c ls hF hr hlk hin hsz hP hK hD hN hl
  have hF : CallFix p m c cX9_isWord 9 s _ _ RX9 := hF
  have hx := hF.1
  have hb := hF.2.1
  have hml := hF.2.2.1
  have hown := hF.2.2.2.1
  have hu : ∀ w ∈ wsU, w.before _ s = true := fun w h => hF.2.2.2.2 w (List.mem_cons_of_mem _ h)
  have hl : lv_has ls 9 [(0, .ref h0), (1, .int 119), (2, .int 97), (3, .int 108), (4, .int 107), (5, .int 0), (6, .int 0), (7, .int 0)] := hl
  refine lv_iload_n hx hb dX9_isWord_0 rfl (lv_at hl 3 rfl) ?_
  refine lv_if_ne (tgt := 8) hx hb dX9_isWord_1 (by decide) (fun c_1 => ?_) (fun c_1 => absurd c_1 (by decide))
  refine lv_iload hx hb dX9_isWord_8 (lv_at hl 4 rfl) ?_
  refine lv_if_ne (tgt := 17) hx hb dX9_isWord_10 (by decide) (fun c_2 => ?_) (fun c_2 => absurd c_2 (by decide))
  refine lv_iload hx hb dX9_isWord_17 (lv_at hl 5 rfl) ?_
  refine lv_if_ne (tgt := 26) hx hb dX9_isWord_19 (by decide) (fun c_3 => absurd (by decide) c_3) (fun c_3 => ?_)
  refine lv_iconst (v := 4) hx hb dX9_isWord_22 (by decide) ?_
  refine lv_goto (tgt := 47) hx hb dX9_isWord_23 (by decide) ?_
  refine lv_istore (lv' := [(8, .int 4), (0, .ref h0), (1, .int 119), (2, .int 97), (3, .int 108), (4, .int 107), (5, .int 0), (6, .int 0), (7, .int 0)]) hx hb dX9_isWord_47 hl (by decide) rfl (fun ls hl => ?_)
  refine lv_aload_n hx hb dX9_isWord_49 rfl (lv_at hl 1 rfl) ?_
  refine xg hF kf_X9_266 hK hP 0 rfl rfl dX9_isWord_50 ?_
  refine lv_if_ne (tgt := 142) hx hb dX9_isWord_53 (by decide) (fun c_4 => absurd (by decide) c_4) (fun c_4 => ?_)
  refine lv_aload_n hx hb dX9_isWord_56 rfl (lv_at hl 1 rfl) ?_
  refine xg hF kf_X9_251 hK hP 0 rfl rfl dX9_isWord_57 ?_
  refine lv_aload_n hx hb dX9_isWord_60 rfl (lv_at hl 1 rfl) ?_
  refine xg hF kf_X9_254 hK hP 0 rfl rfl dX9_isWord_61 ?_
  refine lv_isub hx hb dX9_isWord_64 ?_
  refine xl_i (y := 0) (by decide) ?_
  refine lv_iload hx hb dX9_isWord_65 (lv_at hl 0 rfl) ?_
  refine lv_icmp_ne (tgt := 142) hx hb dX9_isWord_67 (by decide) (fun c_5 => ?_) (fun c_5 => absurd c_5 (by decide))
  refine lv_iconst (v := 0) hx hb dX9_isWord_142 (by decide) ?_
  exact W.zret (v := 0) hx hb hr rfl (fun t ht hW => ⟨0, rfl, rfl, ht⟩) (fun q h => by cases h) dX9_isWord_143 hlk
set_option maxHeartbeats 4000000 in
set_option maxRecDepth 100000 in
theorem c_X9_isWord_place (l : Launch) (D : va_G) (cI cJ cZ cS : ClassId) (sa : Nat → Nat) (sz : Nat) (h0 : Nat) (ys : Nat) (yk : Nat) (yo : Nat) (yt : Nat) (yfa : Nat) (yfe : Nat) (yro : Nat) (yhe : Nat) (ygr : Nat) (yta : Nat) (ywa : Nat) (ybi : Nat) (ysi : Nat) (ynu : Nat) (ymo : Nat) : Met l yX9_isWord (Cond.code yX9_isWord cX9_isWord 9 (some .boolean) :: wsU) ({ frames := 0, cells := 0, slots := 0, locals := 0 }) (va_Pc [.ref h0, .int 112, .int 108, .int 97, .int 99, .int 101, .int 0, .int 0] (XW D (xT cI cJ cZ cS) sa [(h0, .inr (9, [.ref ys, .ref yk, .ref yo, .ref yt, .int 0, .ref yfa, .ref yfe, .int 0, .int 0, .int 0, .ref yro, .ref yhe, .ref ygr, .int 0, .int 0, .int 0, .ref yta, .int 0, .int 0, .int 0, .int 0, .int 0, .ref ywa, .ref ybi, .ref ysi, .ref ynu, .ref ymo]))] sz)) (vp_Si (fun r : Int32 => r = 0)) 0 0 (fun _ => False) := by
  refine xh (by decide) (Nat.le_of_ble_eq_true rfl) ?_
  intro p e s m below meth c ls hF hr hlk hin hsz hP hK hD hN hl
  have hF : CallFix p m c cX9_isWord 9 s _ _ RX9 := hF
  have hx := hF.1
  have hb := hF.2.1
  have hml := hF.2.2.1
  have hown := hF.2.2.2.1
  have hu : ∀ w ∈ wsU, w.before _ s = true := fun w h => hF.2.2.2.2 w (List.mem_cons_of_mem _ h)
  have hl : lv_has ls 9 [(0, .ref h0), (1, .int 112), (2, .int 108), (3, .int 97), (4, .int 99), (5, .int 101), (6, .int 0), (7, .int 0)] := hl
  refine lv_iload_n hx hb dX9_isWord_0 rfl (lv_at hl 3 rfl) ?_
  refine lv_if_ne (tgt := 8) hx hb dX9_isWord_1 (by decide) (fun c_1 => ?_) (fun c_1 => absurd c_1 (by decide))
  refine lv_iload hx hb dX9_isWord_8 (lv_at hl 4 rfl) ?_
  refine lv_if_ne (tgt := 17) hx hb dX9_isWord_10 (by decide) (fun c_2 => ?_) (fun c_2 => absurd c_2 (by decide))
  refine lv_iload hx hb dX9_isWord_17 (lv_at hl 5 rfl) ?_
  refine lv_if_ne (tgt := 26) hx hb dX9_isWord_19 (by decide) (fun c_3 => ?_) (fun c_3 => absurd c_3 (by decide))
  refine lv_iload hx hb dX9_isWord_26 (lv_at hl 6 rfl) ?_
  refine lv_if_ne (tgt := 35) hx hb dX9_isWord_28 (by decide) (fun c_4 => absurd (by decide) c_4) (fun c_4 => ?_)
  refine lv_iconst (v := 5) hx hb dX9_isWord_31 (by decide) ?_
  refine lv_goto (tgt := 47) hx hb dX9_isWord_32 (by decide) ?_
  refine lv_istore (lv' := [(8, .int 5), (0, .ref h0), (1, .int 112), (2, .int 108), (3, .int 97), (4, .int 99), (5, .int 101), (6, .int 0), (7, .int 0)]) hx hb dX9_isWord_47 hl (by decide) rfl (fun ls hl => ?_)
  refine lv_aload_n hx hb dX9_isWord_49 rfl (lv_at hl 1 rfl) ?_
  refine xg hF kf_X9_266 hK hP 0 rfl rfl dX9_isWord_50 ?_
  refine lv_if_ne (tgt := 142) hx hb dX9_isWord_53 (by decide) (fun c_5 => absurd (by decide) c_5) (fun c_5 => ?_)
  refine lv_aload_n hx hb dX9_isWord_56 rfl (lv_at hl 1 rfl) ?_
  refine xg hF kf_X9_251 hK hP 0 rfl rfl dX9_isWord_57 ?_
  refine lv_aload_n hx hb dX9_isWord_60 rfl (lv_at hl 1 rfl) ?_
  refine xg hF kf_X9_254 hK hP 0 rfl rfl dX9_isWord_61 ?_
  refine lv_isub hx hb dX9_isWord_64 ?_
  refine xl_i (y := 0) (by decide) ?_
  refine lv_iload hx hb dX9_isWord_65 (lv_at hl 0 rfl) ?_
  refine lv_icmp_ne (tgt := 142) hx hb dX9_isWord_67 (by decide) (fun c_6 => ?_) (fun c_6 => absurd c_6 (by decide))
  refine lv_iconst (v := 0) hx hb dX9_isWord_142 (by decide) ?_
  exact W.zret (v := 0) hx hb hr rfl (fun t ht hW => ⟨0, rfl, rfl, ht⟩) (fun q h => by cases h) dX9_isWord_143 hlk
set_option maxHeartbeats 4000000 in
set_option maxRecDepth 100000 in
theorem c_X9_isWord_errands (l : Launch) (D : va_G) (cI cJ cZ cS : ClassId) (sa : Nat → Nat) (sz : Nat) (h0 : Nat) (ys : Nat) (yk : Nat) (yo : Nat) (yt : Nat) (yfa : Nat) (yfe : Nat) (yro : Nat) (yhe : Nat) (ygr : Nat) (yta : Nat) (ywa : Nat) (ybi : Nat) (ysi : Nat) (ynu : Nat) (ymo : Nat) : Met l yX9_isWord (Cond.code yX9_isWord cX9_isWord 9 (some .boolean) :: wsU) ({ frames := 0, cells := 0, slots := 0, locals := 0 }) (va_Pc [.ref h0, .int 101, .int 114, .int 114, .int 97, .int 110, .int 100, .int 115] (XW D (xT cI cJ cZ cS) sa [(h0, .inr (9, [.ref ys, .ref yk, .ref yo, .ref yt, .int 0, .ref yfa, .ref yfe, .int 0, .int 0, .int 0, .ref yro, .ref yhe, .ref ygr, .int 0, .int 0, .int 0, .ref yta, .int 0, .int 0, .int 0, .int 0, .int 1, .ref ywa, .ref ybi, .ref ysi, .ref ynu, .ref ymo]))] sz)) (vp_Si (fun r : Int32 => r = 0)) 0 0 (fun _ => False) := by
  refine xh (by decide) (Nat.le_of_ble_eq_true rfl) ?_
  intro p e s m below meth c ls hF hr hlk hin hsz hP hK hD hN hl
  have hF : CallFix p m c cX9_isWord 9 s _ _ RX9 := hF
  have hx := hF.1
  have hb := hF.2.1
  have hml := hF.2.2.1
  have hown := hF.2.2.2.1
  have hu : ∀ w ∈ wsU, w.before _ s = true := fun w h => hF.2.2.2.2 w (List.mem_cons_of_mem _ h)
  have hl : lv_has ls 9 [(0, .ref h0), (1, .int 101), (2, .int 114), (3, .int 114), (4, .int 97), (5, .int 110), (6, .int 100), (7, .int 115)] := hl
  refine lv_iload_n hx hb dX9_isWord_0 rfl (lv_at hl 3 rfl) ?_
  refine lv_if_ne (tgt := 8) hx hb dX9_isWord_1 (by decide) (fun c_1 => ?_) (fun c_1 => absurd c_1 (by decide))
  refine lv_iload hx hb dX9_isWord_8 (lv_at hl 4 rfl) ?_
  refine lv_if_ne (tgt := 17) hx hb dX9_isWord_10 (by decide) (fun c_2 => ?_) (fun c_2 => absurd c_2 (by decide))
  refine lv_iload hx hb dX9_isWord_17 (lv_at hl 5 rfl) ?_
  refine lv_if_ne (tgt := 26) hx hb dX9_isWord_19 (by decide) (fun c_3 => ?_) (fun c_3 => absurd c_3 (by decide))
  refine lv_iload hx hb dX9_isWord_26 (lv_at hl 6 rfl) ?_
  refine lv_if_ne (tgt := 35) hx hb dX9_isWord_28 (by decide) (fun c_4 => ?_) (fun c_4 => absurd c_4 (by decide))
  refine lv_iload hx hb dX9_isWord_35 (lv_at hl 7 rfl) ?_
  refine lv_if_ne (tgt := 45) hx hb dX9_isWord_37 (by decide) (fun c_5 => ?_) (fun c_5 => absurd c_5 (by decide))
  refine lv_bipush (v := 7) hx hb dX9_isWord_45 (by decide) ?_
  refine lv_istore (lv' := [(8, .int 7), (0, .ref h0), (1, .int 101), (2, .int 114), (3, .int 114), (4, .int 97), (5, .int 110), (6, .int 100), (7, .int 115)]) hx hb dX9_isWord_47 hl (by decide) rfl (fun ls hl => ?_)
  refine lv_aload_n hx hb dX9_isWord_49 rfl (lv_at hl 1 rfl) ?_
  refine xg hF kf_X9_266 hK hP 0 rfl rfl dX9_isWord_50 ?_
  refine lv_if_ne (tgt := 142) hx hb dX9_isWord_53 (by decide) (fun c_6 => ?_) (fun c_6 => absurd c_6 (by decide))
  refine lv_iconst (v := 0) hx hb dX9_isWord_142 (by decide) ?_
  exact W.zret (v := 0) hx hb hr rfl (fun t ht hW => ⟨0, rfl, rfl, ht⟩) (fun q h => by cases h) dX9_isWord_143 hlk
set_option maxHeartbeats 4000000 in
set_option maxRecDepth 100000 in
theorem c_X9_needs (l : Launch) (D : va_G) (cI cJ cZ cS : ClassId) (sa : Nat → Nat) (sz : Nat) (h0 : Nat) (ys : Nat) (yk : Nat) (yo : Nat) (yt : Nat) (yfa : Nat) (yfe : Nat) (yro : Nat) (yhe : Nat) (ygr : Nat) (yta : Nat) (ywa : Nat) (ybi : Nat) (ysi : Nat) (ynu : Nat) (ymo : Nat) : Met l yX9_needs (Cond.code yX9_needs cX9_needs 2 none :: wsU) ({ frames := 0, cells := 0, slots := 0, locals := 0 }) (va_Pc [.ref h0, .int 0] (XW D (xT cI cJ cZ cS) sa [(h0, .inr (9, [.ref ys, .ref yk, .ref yo, .ref yt, .int 0, .ref yfa, .ref yfe, .int 0, .int 0, .int 0, .ref yro, .ref yhe, .ref ygr, .int 0, .int 0, .int 0, .ref yta, .int 0, .int 0, .int 0, .int 0, .int 0, .ref ywa, .ref ybi, .ref ysi, .ref ynu, .ref ymo]))] sz)) (XQv (fun _ : Unit => True) D (fun _ : Unit => [(h0, .inr (9, [.ref ys, .ref yk, .ref yo, .ref yt, .int 0, .ref yfa, .ref yfe, .int 0, .int 0, .int 0, .ref yro, .ref yhe, .ref ygr, .int 0, .int 0, .int 0, .ref yta, .int 0, .int 0, .int 0, .int 0, .int 1, .ref ywa, .ref ybi, .ref ysi, .ref ynu, .ref ymo]))]) (va_A [(h0, .inr (9, [.ref ys, .ref yk, .ref yo, .ref yt, .int 0, .ref yfa, .ref yfe, .int 0, .int 0, .int 0, .ref yro, .ref yhe, .ref ygr, .int 0, .int 0, .int 0, .ref yta, .int 0, .int 0, .int 0, .int 0, .int 0, .ref ywa, .ref ybi, .ref ysi, .ref ynu, .ref ymo]))] sz)) 0 0 (va_A [(h0, .inr (9, [.ref ys, .ref yk, .ref yo, .ref yt, .int 0, .ref yfa, .ref yfe, .int 0, .int 0, .int 0, .ref yro, .ref yhe, .ref ygr, .int 0, .int 0, .int 0, .ref yta, .int 0, .int 0, .int 0, .int 0, .int 0, .ref ywa, .ref ybi, .ref ysi, .ref ynu, .ref ymo]))] sz) := by
  refine xhw (QA := fun A => XQv (fun _ : Unit => True) D (fun _ : Unit => [(h0, .inr (9, [.ref ys, .ref yk, .ref yo, .ref yt, .int 0, .ref yfa, .ref yfe, .int 0, .int 0, .int 0, .ref yro, .ref yhe, .ref ygr, .int 0, .int 0, .int 0, .ref yta, .int 0, .int 0, .int 0, .int 0, .int 1, .ref ywa, .ref ybi, .ref ysi, .ref ynu, .ref ymo]))]) A) (by decide) (Nat.le_of_ble_eq_true rfl) ?_
  intro p e s m below meth c ls A hF hr hlk hin hsz hP hK hD hN hA hS hl
  have hF : CallFix p m c cX9_needs 2 s _ _ RX9 := hF
  have hx := hF.1
  have hb := hF.2.1
  have hml := hF.2.2.1
  have hown := hF.2.2.2.1
  have hu : ∀ w ∈ wsU, w.before _ s = true := fun w h => hF.2.2.2.2 w (List.mem_cons_of_mem _ h)
  have hl : lv_has ls 2 [(0, .ref h0), (1, .int 0)] := hl
  refine lv_aload_n hx hb dX9_needs_0 rfl (lv_at hl 0 rfl) ?_
  refine lv_aload_n hx hb dX9_needs_1 rfl (lv_at hl 0 rfl) ?_
  refine xg hF kf_X9_266 hK hP 0 rfl rfl dX9_needs_2 ?_
  refine lv_if_ne (tgt := 12) hx hb dX9_needs_5 (by decide) (fun c_1 => absurd (by decide) c_1) (fun c_1 => ?_)
  refine lv_iload_n hx hb dX9_needs_8 rfl (lv_at hl 1 rfl) ?_
  refine lv_if_ne (tgt := 16) hx hb dX9_needs_9 (by decide) (fun c_2 => absurd (by decide) c_2) (fun c_2 => ?_)
  refine lv_iconst (v := 1) hx hb dX9_needs_12 (by decide) ?_
  refine lv_goto (tgt := 17) hx hb dX9_needs_13 (by decide) ?_
  refine xp hF kf_X9_266 tyX9_ok nmX9 hK hP hD hS 0 rfl rfl rfl rfl (Nat.le_of_ble_eq_true rfl) dX9_needs_17 (fun H locs hP hD hS => ?_)
  have hP : va_P D vwCl [(h0, .inr (9, [.ref ys, .ref yk, .ref yo, .ref yt, .int 0, .ref yfa, .ref yfe, .int 0, .int 0, .int 0, .ref yro, .ref yhe, .ref ygr, .int 0, .int 0, .int 0, .ref yta, .int 0, .int 0, .int 0, .int 0, .int 1, .ref ywa, .ref ybi, .ref ysi, .ref ynu, .ref ymo]))] H := hP
  have hD : va_D A [(h0, .inr (9, [.ref ys, .ref yk, .ref yo, .ref yt, .int 0, .ref yfa, .ref yfe, .int 0, .int 0, .int 0, .ref yro, .ref yhe, .ref ygr, .int 0, .int 0, .int 0, .ref yta, .int 0, .int 0, .int 0, .int 0, .int 1, .ref ywa, .ref ybi, .ref ysi, .ref ynu, .ref ymo]))] := hD
  refine lv_aload_n hx hb dX9_needs_20 rfl (lv_at hl 0 rfl) ?_
  refine xg hF kf_X9_266 hK hP 0 rfl rfl dX9_needs_21 ?_
  refine lv_if_ne (tgt := 31) hx hb dX9_needs_24 (by decide) (fun c_3 => ?_) (fun c_3 => absurd c_3 (by decide))
  exact W.vret hx hb hr (fun t ht hW => ⟨⟨(), rfl, trivial, by rw [ht]; exact hP.sub [0] rfl, hD.sub [0] (by decide) rfl⟩, hS.F ht⟩) hS.2.2 dX9_needs_31 hlk
set_option maxHeartbeats 4000000 in
set_option maxRecDepth 100000 in
theorem c_X9_item (l : Launch) (D : va_G) (cI cJ cZ cS : ClassId) (sa : Nat → Nat) (sz : Nat) (h0 : Nat) (ys : Nat) (yk : Nat) (yo : Nat) (yt : Nat) (yfa : Nat) (yfe : Nat) (yro : Nat) (yhe : Nat) (ygr : Nat) (yta : Nat) (ywa : Nat) (ybi : Nat) (ysi : Nat) (ynu : Nat) (ymo : Nat) : Met l yX9_item (Cond.code yX9_item cX9_item 2 none :: wsU) ({ frames := 1, cells := 0, slots := 0, locals := 28 }) (va_Pc [.ref h0] (XW D (xT cI cJ cZ cS) sa [(h0, .inr (9, [.ref ys, .ref yk, .ref yo, .ref yt, .int 0, .ref yfa, .ref yfe, .int 0, .int 0, .int 0, .ref yro, .ref yhe, .ref ygr, .int 0, .int 0, .int 0, .ref yta, .int 0, .int 0, .int 0, .int 0, .int 0, .ref ywa, .ref ybi, .ref ysi, .ref ynu, .ref ymo])), (ys, .inl (cI, 449, .inl (fun _ => 0)))] sz)) (XQv (fun _ : Unit => True) D (fun _ : Unit => [(ys, .inl (cI, 449, .inl (fun _ => 0))), (h0, .inr (9, [.ref ys, .ref yk, .ref yo, .ref yt, .int 0, .ref yfa, .ref yfe, .int 0, .int 0, .int 0, .ref yro, .ref yhe, .ref ygr, .int 0, .int 0, .int 0, .ref yta, .int 0, .int 0, .int 0, .int 0, .int 1, .ref ywa, .ref ybi, .ref ysi, .ref ynu, .ref ymo]))]) (va_A [(h0, .inr (9, [.ref ys, .ref yk, .ref yo, .ref yt, .int 0, .ref yfa, .ref yfe, .int 0, .int 0, .int 0, .ref yro, .ref yhe, .ref ygr, .int 0, .int 0, .int 0, .ref yta, .int 0, .int 0, .int 0, .int 0, .int 0, .ref ywa, .ref ybi, .ref ysi, .ref ynu, .ref ymo])), (ys, .inl (cI, 449, .inl (fun _ => 0)))] sz)) 0 0 (va_A [(h0, .inr (9, [.ref ys, .ref yk, .ref yo, .ref yt, .int 0, .ref yfa, .ref yfe, .int 0, .int 0, .int 0, .ref yro, .ref yhe, .ref ygr, .int 0, .int 0, .int 0, .ref yta, .int 0, .int 0, .int 0, .int 0, .int 0, .ref ywa, .ref ybi, .ref ysi, .ref ynu, .ref ymo])), (ys, .inl (cI, 449, .inl (fun _ => 0)))] sz) := by
  refine xhw (QA := fun A => XQv (fun _ : Unit => True) D (fun _ : Unit => [(ys, .inl (cI, 449, .inl (fun _ => 0))), (h0, .inr (9, [.ref ys, .ref yk, .ref yo, .ref yt, .int 0, .ref yfa, .ref yfe, .int 0, .int 0, .int 0, .ref yro, .ref yhe, .ref ygr, .int 0, .int 0, .int 0, .ref yta, .int 0, .int 0, .int 0, .int 0, .int 1, .ref ywa, .ref ybi, .ref ysi, .ref ynu, .ref ymo]))]) A) (by decide) (Nat.le_of_ble_eq_true rfl) ?_
  intro p e s m below meth c ls A hF hr hlk hin hsz hP hK hD hN hA hS hl
  have hF : CallFix p m c cX9_item 2 s _ _ RX9 := hF
  have hx := hF.1
  have hb := hF.2.1
  have hml := hF.2.2.1
  have hown := hF.2.2.2.1
  have hu : ∀ w ∈ wsU, w.before _ s = true := fun w h => hF.2.2.2.2 w (List.mem_cons_of_mem _ h)
  have hl : lv_has ls 2 [(0, .ref h0)] := hl
  refine lv_aload_n hx hb dX9_item_0 rfl (lv_at hl 0 rfl) ?_
  refine lv_bipush (v := 119) hx hb dX9_item_1 (by decide) ?_
  refine lv_bipush (v := 97) hx hb dX9_item_3 (by decide) ?_
  refine lv_bipush (v := 121) hx hb dX9_item_5 (by decide) ?_
  refine lv_iconst (v := 0) hx hb dX9_item_7 (by decide) ?_
  refine lv_iconst (v := 0) hx hb dX9_item_8 (by decide) ?_
  refine lv_iconst (v := 0) hx hb dX9_item_9 (by decide) ?_
  refine lv_iconst (v := 0) hx hb dX9_item_10 (by decide) ?_
  refine xc_Vr hF (c_X9_isWord_way l D cI cJ cZ cS sa s.heap.size h0 ys yk yo yt yfa yfe yro yhe ygr yta ywa ybi ysi ynu ymo ) kv_X9_290 ⟨rfl, rfl, Nat.le_of_ble_eq_true rfl, Nat.le_of_ble_eq_true rfl⟩ ⟨Nat.le_of_ble_eq_true rfl, Nat.le_of_ble_eq_true rfl⟩ hK hN hP hD [0] rfl rfl 0 rfl rfl rfl rfl hl.1 rfl (Nat.le_of_ble_eq_true rfl) dX9_item_11 (fun r_1 hw_r_1 => ?_)
  subst hw_r_1
  refine lv_if_eq (tgt := 24) hx hb dX9_item_14 (by decide) (fun c_2 => ?_) (fun c_2 => absurd (by decide) c_2)
  refine lv_aload_n hx hb dX9_item_24 rfl (lv_at hl 0 rfl) ?_
  refine lv_bipush (v := 119) hx hb dX9_item_25 (by decide) ?_
  refine lv_bipush (v := 97) hx hb dX9_item_27 (by decide) ?_
  refine lv_bipush (v := 108) hx hb dX9_item_29 (by decide) ?_
  refine lv_bipush (v := 107) hx hb dX9_item_31 (by decide) ?_
  refine lv_iconst (v := 0) hx hb dX9_item_33 (by decide) ?_
  refine lv_iconst (v := 0) hx hb dX9_item_34 (by decide) ?_
  refine lv_iconst (v := 0) hx hb dX9_item_35 (by decide) ?_
  refine xc_Vr hF (c_X9_isWord_walk l D cI cJ cZ cS sa s.heap.size h0 ys yk yo yt yfa yfe yro yhe ygr yta ywa ybi ysi ynu ymo ) kv_X9_290 ⟨rfl, rfl, Nat.le_of_ble_eq_true rfl, Nat.le_of_ble_eq_true rfl⟩ ⟨Nat.le_of_ble_eq_true rfl, Nat.le_of_ble_eq_true rfl⟩ hK hN hP hD [0] rfl rfl 0 rfl rfl rfl rfl hl.1 rfl (Nat.le_of_ble_eq_true rfl) dX9_item_36 (fun r_3 hw_r_3 => ?_)
  subst hw_r_3
  refine lv_if_eq (tgt := 49) hx hb dX9_item_39 (by decide) (fun c_4 => ?_) (fun c_4 => absurd (by decide) c_4)
  refine lv_aload_n hx hb dX9_item_49 rfl (lv_at hl 0 rfl) ?_
  refine lv_aload_n hx hb dX9_item_50 rfl (lv_at hl 0 rfl) ?_
  refine lv_bipush (v := 112) hx hb dX9_item_51 (by decide) ?_
  refine lv_bipush (v := 108) hx hb dX9_item_53 (by decide) ?_
  refine lv_bipush (v := 97) hx hb dX9_item_55 (by decide) ?_
  refine lv_bipush (v := 99) hx hb dX9_item_57 (by decide) ?_
  refine lv_bipush (v := 101) hx hb dX9_item_59 (by decide) ?_
  refine lv_iconst (v := 0) hx hb dX9_item_61 (by decide) ?_
  refine lv_iconst (v := 0) hx hb dX9_item_62 (by decide) ?_
  refine xc_Vr hF (c_X9_isWord_place l D cI cJ cZ cS sa s.heap.size h0 ys yk yo yt yfa yfe yro yhe ygr yta ywa ybi ysi ynu ymo ) kv_X9_290 ⟨rfl, rfl, Nat.le_of_ble_eq_true rfl, Nat.le_of_ble_eq_true rfl⟩ ⟨Nat.le_of_ble_eq_true rfl, Nat.le_of_ble_eq_true rfl⟩ hK hN hP hD [0] rfl rfl 0 rfl rfl rfl rfl hl.1 rfl (Nat.le_of_ble_eq_true rfl) dX9_item_63 (fun r_5 hw_r_5 => ?_)
  subst hw_r_5
  refine lv_if_eq (tgt := 84) hx hb dX9_item_66 (by decide) (fun c_6 => ?_) (fun c_6 => absurd (by decide) c_6)
  refine lv_iconst (v := 0) hx hb dX9_item_84 (by decide) ?_
  refine xc_Vv (wr := [(ys, .inl (cI, 449, .inl (fun _ => 0)))]) hF (c_X9_needs l D cI cJ cZ cS sa s.heap.size h0 ys yk yo yt yfa yfe yro yhe ygr yta ywa ybi ysi ynu ymo ) kv_X9_278 ⟨rfl, rfl, Nat.le_of_ble_eq_true rfl, Nat.le_of_ble_eq_true rfl⟩ ⟨Nat.le_of_ble_eq_true rfl, Nat.le_of_ble_eq_true rfl⟩ hK hN hP hD hS hA [0] [1] rfl rfl rfl rfl (by decide) 0 rfl rfl rfl rfl hl.1 rfl (Nat.le_of_ble_eq_true rfl) dX9_item_85 (fun u_r_7 H locs hw_r_7 hP hD hS => ?_)
  have hP : va_P D vwCl [(ys, .inl (cI, 449, .inl (fun _ => 0))), (h0, .inr (9, [.ref ys, .ref yk, .ref yo, .ref yt, .int 0, .ref yfa, .ref yfe, .int 0, .int 0, .int 0, .ref yro, .ref yhe, .ref ygr, .int 0, .int 0, .int 0, .ref yta, .int 0, .int 0, .int 0, .int 0, .int 1, .ref ywa, .ref ybi, .ref ysi, .ref ynu, .ref ymo]))] H := hP
  have hD : va_D A [(ys, .inl (cI, 449, .inl (fun _ => 0))), (h0, .inr (9, [.ref ys, .ref yk, .ref yo, .ref yt, .int 0, .ref yfa, .ref yfe, .int 0, .int 0, .int 0, .ref yro, .ref yhe, .ref ygr, .int 0, .int 0, .int 0, .ref yta, .int 0, .int 0, .int 0, .int 0, .int 1, .ref ywa, .ref ybi, .ref ysi, .ref ynu, .ref ymo]))] := hD
  refine lv_aload_n hx hb dX9_item_88 rfl (lv_at hl 0 rfl) ?_
  refine xg hF kf_X9_266 hK hP 1 rfl rfl dX9_item_89 ?_
  refine lv_if_eq (tgt := 99) hx hb dX9_item_92 (by decide) (fun c_8 => absurd c_8 (by decide)) (fun c_8 => ?_)
  refine lv_iconst (v := 0) hx hb dX9_item_95 (by decide) ?_
  refine lv_goto (tgt := 103) hx hb dX9_item_96 (by decide) ?_
  refine lv_istore_n (lv' := [(1, .int 0), (0, .ref h0)]) hx hb dX9_item_103 rfl hl (by decide) rfl (fun ls hl => ?_)
  refine lv_aload_n hx hb dX9_item_104 rfl (lv_at hl 1 rfl) ?_
  refine lv_bipush (v := 101) hx hb dX9_item_105 (by decide) ?_
  refine lv_bipush (v := 114) hx hb dX9_item_107 (by decide) ?_
  refine lv_bipush (v := 114) hx hb dX9_item_109 (by decide) ?_
  refine lv_bipush (v := 97) hx hb dX9_item_111 (by decide) ?_
  refine lv_bipush (v := 110) hx hb dX9_item_113 (by decide) ?_
  refine lv_bipush (v := 100) hx hb dX9_item_115 (by decide) ?_
  refine lv_bipush (v := 115) hx hb dX9_item_117 (by decide) ?_
  refine xc_Vr hF (c_X9_isWord_errands l D cI cJ cZ cS sa H.size h0 ys yk yo yt yfa yfe yro yhe ygr yta ywa ybi ysi ynu ymo ) kv_X9_290 ⟨rfl, rfl, Nat.le_of_ble_eq_true rfl, Nat.le_of_ble_eq_true rfl⟩ ⟨Nat.le_of_ble_eq_true rfl, Nat.le_of_ble_eq_true rfl⟩ hK hN hP hD [1] rfl rfl 0 rfl rfl rfl rfl hl.1 rfl (Nat.le_of_ble_eq_true rfl) dX9_item_119 (fun r_9 hw_r_9 => ?_)
  subst hw_r_9
  refine lv_if_eq (tgt := 156) hx hb dX9_item_122 (by decide) (fun c_10 => ?_) (fun c_10 => absurd (by decide) c_10)
  exact W.vret hx hb hr (fun t ht hW => ⟨⟨(), rfl, trivial, by rw [ht]; exact hP.sub [0, 1] rfl, hD.sub [0, 1] (by decide) rfl⟩, hS.F ht⟩) hS.2.2 dX9_item_156 hlk
