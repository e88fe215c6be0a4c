set_option maxHeartbeats 4000000 in
set_option maxRecDepth 100000 in
theorem c_X8_isWithin (l : Launch) (D : va_G) (cI cJ cZ cS : ClassId) (sa : Nat → Nat) (sz : Nat) (p0 : Int32) (p1 : Int32) (p2 : Int32) : Met l yX8_isWithin (Cond.code yX8_isWithin cX8_isWithin 3 (some .boolean) :: wsU) ({ frames := 0, cells := 0, slots := 0, locals := 0 }) (va_Pc [.int p0, .int p1, .int p2] (XW D (xT cI cJ cZ cS) sa [] sz)) (vp_Si (fun r : Int32 => (r = 1 ∧ (¬ p0 < p1) ∧ (¬ p2 < p0)) ∨ (r = 0 ∧ (p0 < p1 ∨ p2 < p0)))) 0 0 (fun _ => False) := by
  refine xh (by decide) (Nat.le_of_ble_eq_true rfl) ?_
  intro p e s m below meth c ls hF hr hlk hin hsz hP hK hD hN hl
  have hF : CallFix p m c cX8_isWithin 3 s _ _ RX8 := hF
  have hx := hF.1
  have hb := hF.2.1
  have hml := hF.2.2.1
  have hown := hF.2.2.2.1
  have hu : ∀ w ∈ wsU, w.before _ s = true := fun w h => hF.2.2.2.2 w (List.mem_cons_of_mem _ h)
  have hl : lv_has ls 3 [(0, .int p0), (1, .int p1), (2, .int p2)] := hl
  refine lv_iload_n hx hb dX8_isWithin_0 rfl (lv_at hl 0 rfl) ?_
  refine lv_iload_n hx hb dX8_isWithin_1 rfl (lv_at hl 1 rfl) ?_
  refine lv_icmp_lt (tgt := 14) hx hb dX8_isWithin_2 (by decide) (fun c_1 => ?_) (fun c_1 => ?_)
  · skip
    refine lv_iconst (v := 0) hx hb dX8_isWithin_14 (by decide) ?_
    exact W.zret (v := 0) hx hb hr rfl (fun t ht hW => ⟨0, rfl, (by first | exact Or.inl ⟨rfl, (by first | assumption | exact Or.inl (by assumption) | exact Or.inr (by assumption)), (by first | assumption | exact Or.inl (by assumption) | exact Or.inr (by assumption))⟩ | exact Or.inr (⟨rfl, (by first | assumption | exact Or.inl (by assumption) | exact Or.inr (by assumption))⟩)), ht⟩) (fun q h => by cases h) dX8_isWithin_15 hlk
  · skip
    refine lv_iload_n hx hb dX8_isWithin_5 rfl (lv_at hl 0 rfl) ?_
    refine lv_iload_n hx hb dX8_isWithin_6 rfl (lv_at hl 2 rfl) ?_
    refine lv_icmp_gt (tgt := 14) hx hb dX8_isWithin_7 (by decide) (fun c_2 => ?_) (fun c_2 => ?_)
    · skip
      refine lv_iconst (v := 0) hx hb dX8_isWithin_14 (by decide) ?_
      exact W.zret (v := 0) hx hb hr rfl (fun t ht hW => ⟨0, rfl, (by first | exact Or.inl ⟨rfl, (by first | assumption | exact Or.inl (by assumption) | exact Or.inr (by assumption)), (by first | assumption | exact Or.inl (by assumption) | exact Or.inr (by assumption))⟩ | exact Or.inr (⟨rfl, (by first | assumption | exact Or.inl (by assumption) | exact Or.inr (by assumption))⟩)), ht⟩) (fun q h => by cases h) dX8_isWithin_15 hlk
    · skip
      refine lv_iconst (v := 1) hx hb dX8_isWithin_10 (by decide) ?_
      refine lv_goto (tgt := 15) hx hb dX8_isWithin_11 (by decide) ?_
      exact W.zret (v := 1) hx hb hr rfl (fun t ht hW => ⟨1, rfl, (by first | exact Or.inl ⟨rfl, (by first | assumption | exact Or.inl (by assumption) | exact Or.inr (by assumption)), (by first | assumption | exact Or.inl (by assumption) | exact Or.inr (by assumption))⟩ | exact Or.inr (⟨rfl, (by first | assumption | exact Or.inl (by assumption) | exact Or.inr (by assumption))⟩)), ht⟩) (fun q h => by cases h) dX8_isWithin_15 hlk
set_option maxHeartbeats 4000000 in
set_option maxRecDepth 100000 in
theorem c_X8_isKind (l : Launch) (D : va_G) (cI cJ cZ cS : ClassId) (sa : Nat → Nat) (sz : Nat) (p0 : Int32) : Met l yX8_isKind (Cond.code yX8_isKind cX8_isKind 1 (some .boolean) :: wsU) ({ frames := 1, cells := 0, slots := 0, locals := 22 }) (va_Pc [.int p0] (XW D (xT cI cJ cZ cS) sa [] sz)) (vp_Si (fun r : Int32 => (r = 1 ∧ (¬ p0 < 0) ∧ (¬ 6 < p0)) ∨ (r = 0 ∧ (p0 < 0 ∨ 6 < p0)))) 0 0 (fun _ => False) := by
  refine xh (by decide) (Nat.le_of_ble_eq_true rfl) ?_
  intro p e s m below meth c ls hF hr hlk hin hsz hP hK hD hN hl
  have hF : CallFix p m c cX8_isKind 1 s _ _ RX8 := hF
  have hx := hF.1
  have hb := hF.2.1
  have hml := hF.2.2.1
  have hown := hF.2.2.2.1
  have hu : ∀ w ∈ wsU, w.before _ s = true := fun w h => hF.2.2.2.2 w (List.mem_cons_of_mem _ h)
  have hl : lv_has ls 1 [(0, .int p0)] := hl
  refine lv_iload_n hx hb dX8_isKind_0 rfl (lv_at hl 0 rfl) ?_
  refine lv_iconst (v := 0) hx hb dX8_isKind_1 (by decide) ?_
  refine lv_bipush (v := 6) hx hb dX8_isKind_2 (by decide) ?_
  refine xc_Sr hF (c_X8_isWithin l D cI cJ cZ cS sa s.heap.size p0 0 6 ) ks_X8_91 ⟨rfl, rfl, Nat.le_of_ble_eq_true rfl, Nat.le_of_ble_eq_true rfl⟩ ⟨Nat.le_of_ble_eq_true rfl, Nat.le_of_ble_eq_true rfl⟩ hK hN hP hD [] rfl rfl rfl hl.1 rfl (Nat.le_of_ble_eq_true rfl) dX8_isKind_4 (fun r_1 hw_r_1 => ?_)
  rcases hw_r_1 with ⟨rfl, h_2, h_3⟩ | ⟨rfl, h_4⟩
  · skip
    exact W.zret (v := 1) hx hb hr rfl (fun t ht hW => ⟨1, rfl, (by first | exact Or.inl ⟨rfl, (by first | assumption | exact Or.inl (by assumption) | exact Or.inr (by assumption)), (by first | assumption | exact Or.inl (by assumption) | exact Or.inr (by assumption))⟩ | exact Or.inr (⟨rfl, (by first | assumption | exact Or.inl (by assumption) | exact Or.inr (by assumption))⟩)), ht⟩) (fun q h => by cases h) dX8_isKind_7 hlk
  · skip
    exact W.zret (v := 0) hx hb hr rfl (fun t ht hW => ⟨0, rfl, (by first | exact Or.inl ⟨rfl, (by first | assumption | exact Or.inl (by assumption) | exact Or.inr (by assumption)), (by first | assumption | exact Or.inl (by assumption) | exact Or.inr (by assumption))⟩ | exact Or.inr (⟨rfl, (by first | assumption | exact Or.inl (by assumption) | exact Or.inr (by assumption))⟩)), ht⟩) (fun q h => by cases h) dX8_isKind_7 hlk
set_option maxHeartbeats 4000000 in
set_option maxRecDepth 100000 in
theorem c_X8_isSheet (l : Launch) (D : va_G) (cI cJ cZ cS : ClassId) (sa : Nat → Nat) (sz : Nat) (p0 : Int32) : Met l yX8_isSheet (Cond.code yX8_isSheet cX8_isSheet 1 (some .boolean) :: wsU) ({ frames := 1, cells := 0, slots := 0, locals := 22 }) (va_Pc [.int p0] (XW D (xT cI cJ cZ cS) sa [] sz)) (vp_Si (fun r : Int32 => (r = 1 ∧ (¬ p0 < 0) ∧ (¬ 3 < p0)) ∨ (r = 0 ∧ (p0 < 0 ∨ 3 < p0)))) 0 0 (fun _ => False) := by
  refine xh (by decide) (Nat.le_of_ble_eq_true rfl) ?_
  intro p e s m below meth c ls hF hr hlk hin hsz hP hK hD hN hl
  have hF : CallFix p m c cX8_isSheet 1 s _ _ RX8 := hF
  have hx := hF.1
  have hb := hF.2.1
  have hml := hF.2.2.1
  have hown := hF.2.2.2.1
  have hu : ∀ w ∈ wsU, w.before _ s = true := fun w h => hF.2.2.2.2 w (List.mem_cons_of_mem _ h)
  have hl : lv_has ls 1 [(0, .int p0)] := hl
  refine lv_iload_n hx hb dX8_isSheet_0 rfl (lv_at hl 0 rfl) ?_
  refine lv_iconst (v := 0) hx hb dX8_isSheet_1 (by decide) ?_
  refine lv_iconst (v := 3) hx hb dX8_isSheet_2 (by decide) ?_
  refine xc_Sr hF (c_X8_isWithin l D cI cJ cZ cS sa s.heap.size p0 0 3 ) ks_X8_91 ⟨rfl, rfl, Nat.le_of_ble_eq_true rfl, Nat.le_of_ble_eq_true rfl⟩ ⟨Nat.le_of_ble_eq_true rfl, Nat.le_of_ble_eq_true rfl⟩ hK hN hP hD [] rfl rfl rfl hl.1 rfl (Nat.le_of_ble_eq_true rfl) dX8_isSheet_3 (fun r_1 hw_r_1 => ?_)
  rcases hw_r_1 with ⟨rfl, h_2, h_3⟩ | ⟨rfl, h_4⟩
  · skip
    exact W.zret (v := 1) hx hb hr rfl (fun t ht hW => ⟨1, rfl, (by first | exact Or.inl ⟨rfl, (by first | assumption | exact Or.inl (by assumption) | exact Or.inr (by assumption)), (by first | assumption | exact Or.inl (by assumption) | exact Or.inr (by assumption))⟩ | exact Or.inr (⟨rfl, (by first | assumption | exact Or.inl (by assumption) | exact Or.inr (by assumption))⟩)), ht⟩) (fun q h => by cases h) dX8_isSheet_6 hlk
  · skip
    exact W.zret (v := 0) hx hb hr rfl (fun t ht hW => ⟨0, rfl, (by first | exact Or.inl ⟨rfl, (by first | assumption | exact Or.inl (by assumption) | exact Or.inr (by assumption)), (by first | assumption | exact Or.inl (by assumption) | exact Or.inr (by assumption))⟩ | exact Or.inr (⟨rfl, (by first | assumption | exact Or.inl (by assumption) | exact Or.inr (by assumption))⟩)), ht⟩) (fun q h => by cases h) dX8_isSheet_6 hlk
set_option maxHeartbeats 4000000 in
set_option maxRecDepth 100000 in
theorem c_X8_finding_B (l : Launch) (D : va_G) (cI cJ cZ cS : ClassId) (sa : Nat → Nat) (sz : Nat) (h0 : Nat) (qh : Nat) (qk : Nat) (qd : Nat) (qa : Nat) (qm : Nat) (qs : Nat) (qp : Nat) (ql : Nat) (qt : Nat) (qz : Nat) (qf : Nat) (b0 : Int32) (f : Nat → Int32) : Met l yX8_finding (Cond.code yX8_finding cX8_finding 3 (some .int) :: wsU) ({ frames := 0, cells := 0, slots := 0, locals := 0 }) (va_Pc [.ref h0, .int (-1000000001)] (XW D (xT cI cJ cZ cS) sa [(h0, .inr (8, [.ref qh, .ref qk, .ref qd, .int b0, .ref qa, .ref qm, .ref qs, .ref qp, .ref ql, .ref qt, .ref qz, .ref qf])), (qf, .inl (cI, 7, .inl f))] sz)) (XQi (fun (r : Int32) (_ : Unit) => r = (-1000000001)) D (fun _ : Unit => []) (va_A [(h0, .inr (8, [.ref qh, .ref qk, .ref qd, .int b0, .ref qa, .ref qm, .ref qs, .ref qp, .ref ql, .ref qt, .ref qz, .ref qf])), (qf, .inl (cI, 7, .inl f))] sz)) 0 0 (va_A [(h0, .inr (8, [.ref qh, .ref qk, .ref qd, .int b0, .ref qa, .ref qm, .ref qs, .ref qp, .ref ql, .ref qt, .ref qz, .ref qf])), (qf, .inl (cI, 7, .inl f))] sz) := by
  refine xhw (QA := fun A => XQi (fun (r : Int32) (_ : Unit) => r = (-1000000001)) D (fun _ : Unit => []) A) (by decide) (Nat.le_of_ble_eq_true rfl) ?_
  intro p e s m below meth c ls A hF hr hlk hin hsz hP hK hD hN hA hS hl
  have hF : CallFix p m c cX8_finding 3 s _ _ RX8 := hF
  have hx := hF.1
  have hb := hF.2.1
  have hml := hF.2.2.1
  have hown := hF.2.2.2.1
  have hu : ∀ w ∈ wsU, w.before _ s = true := fun w h => hF.2.2.2.2 w (List.mem_cons_of_mem _ h)
  have hl : lv_has ls 3 [(0, .ref h0), (1, .int (-1000000001))] := hl
  refine lv_ldc (v := (-1000000001)) hx hb hown (hu _ uw4) dX8_finding_0 ?_
  refine lv_iload_n hx hb dX8_finding_2 rfl (lv_at hl 1 rfl) ?_
  refine lv_isub hx hb dX8_finding_3 ?_
  refine xl_i (y := 0) (by decide) ?_
  refine lv_istore_n (lv' := [(2, .int 0), (0, .ref h0), (1, .int (-1000000001))]) hx hb dX8_finding_4 rfl hl (by decide) rfl (fun ls hl => ?_)
  refine lv_iload_n hx hb dX8_finding_5 rfl (lv_at hl 0 rfl) ?_
  refine lv_if_lt (tgt := 25) hx hb dX8_finding_6 (by decide) (fun c_1 => absurd c_1 (by decide)) (fun c_1 => ?_)
  refine lv_iload_n hx hb dX8_finding_9 rfl (lv_at hl 0 rfl) ?_
  refine lv_bipush (v := 7) hx hb dX8_finding_10 (by decide) ?_
  refine lv_icmp_ge (tgt := 25) hx hb dX8_finding_12 (by decide) (fun c_2 => absurd c_2 (by decide)) (fun c_2 => ?_)
  refine lv_aload_n hx hb dX8_finding_15 rfl (lv_at hl 1 rfl) ?_
  refine xg hF kf_X8_70 hK hP 0 rfl rfl dX8_finding_16 ?_
  refine lv_iload_n hx hb dX8_finding_19 rfl (lv_at hl 0 rfl) ?_
  refine lv_dup2_11 hx hb dX8_finding_20 rfl rfl ?_
  refine va_iald hx hb hK hP 1 0 rfl rfl (xin 0 7 (by decide) (by decide)) dX8_finding_21 ?_
  refine xl_i (y := f 0) (congrArg f rfl) ?_
  refine lv_iconst (v := 1) hx hb dX8_finding_22 (by decide) ?_
  refine lv_iadd hx hb dX8_finding_23 ?_
  refine va_iast hx hb hK hP hD hS 1 0 rfl rfl (xin 0 7 (by decide) (by decide)) dX8_finding_24 (fun H locs hP hD hS => ?_)
  obtain ⟨f_3, ef_3⟩ : ∃ g, g = upd f (0 : Int32).toNatClampNeg ((f 0) + 1) := ⟨_, rfl⟩
  rw [← ef_3] at hP hD
  have hP : va_P D vwCl [(h0, .inr (8, [.ref qh, .ref qk, .ref qd, .int b0, .ref qa, .ref qm, .ref qs, .ref qp, .ref ql, .ref qt, .ref qz, .ref qf])), (qf, .inl (cI, 7, .inl f_3))] H := hP
  have hD : va_D A [(h0, .inr (8, [.ref qh, .ref qk, .ref qd, .int b0, .ref qa, .ref qm, .ref qs, .ref qp, .ref ql, .ref qt, .ref qz, .ref qf])), (qf, .inl (cI, 7, .inl f_3))] := hD
  refine lv_iload_n hx hb dX8_finding_25 rfl (lv_at hl 2 rfl) ?_
  exact W.iret (v := (-1000000001)) hx hb hr (fun t ht hW => ⟨⟨(-1000000001), (), rfl, rfl, by rw [ht]; exact hP.sub [] rfl, hD.sub [] (by decide) rfl⟩, hS.F ht⟩) hS.2.2 dX8_finding_26 hlk
set_option maxHeartbeats 4000000 in
set_option maxRecDepth 100000 in
theorem c_X8_finding_N (l : Launch) (D : va_G) (cI cJ cZ cS : ClassId) (sa : Nat → Nat) (sz : Nat) (h0 : Nat) (qh : Nat) (qk : Nat) (qd : Nat) (qa : Nat) (qm : Nat) (qs : Nat) (qp : Nat) (ql : Nat) (qt : Nat) (qz : Nat) (qf : Nat) (b0 : Int32) (f : Nat → Int32) : Met l yX8_finding (Cond.code yX8_finding cX8_finding 3 (some .int) :: wsU) ({ frames := 0, cells := 0, slots := 0, locals := 0 }) (va_Pc [.ref h0, .int (-1000000004)] (XW D (xT cI cJ cZ cS) sa [(h0, .inr (8, [.ref qh, .ref qk, .ref qd, .int b0, .ref qa, .ref qm, .ref qs, .ref qp, .ref ql, .ref qt, .ref qz, .ref qf])), (qf, .inl (cI, 7, .inl f))] sz)) (XQi (fun (r : Int32) (_ : Unit) => r = (-1000000004)) D (fun _ : Unit => []) (va_A [(h0, .inr (8, [.ref qh, .ref qk, .ref qd, .int b0, .ref qa, .ref qm, .ref qs, .ref qp, .ref ql, .ref qt, .ref qz, .ref qf])), (qf, .inl (cI, 7, .inl f))] sz)) 0 0 (va_A [(h0, .inr (8, [.ref qh, .ref qk, .ref qd, .int b0, .ref qa, .ref qm, .ref qs, .ref qp, .ref ql, .ref qt, .ref qz, .ref qf])), (qf, .inl (cI, 7, .inl f))] sz) := by
  refine xhw (QA := fun A => XQi (fun (r : Int32) (_ : Unit) => r = (-1000000004)) D (fun _ : Unit => []) A) (by decide) (Nat.le_of_ble_eq_true rfl) ?_
  intro p e s m below meth c ls A hF hr hlk hin hsz hP hK hD hN hA hS hl
  have hF : CallFix p m c cX8_finding 3 s _ _ RX8 := hF
  have hx := hF.1
  have hb := hF.2.1
  have hml := hF.2.2.1
  have hown := hF.2.2.2.1
  have hu : ∀ w ∈ wsU, w.before _ s = true := fun w h => hF.2.2.2.2 w (List.mem_cons_of_mem _ h)
  have hl : lv_has ls 3 [(0, .ref h0), (1, .int (-1000000004))] := hl
  refine lv_ldc (v := (-1000000001)) hx hb hown (hu _ uw4) dX8_finding_0 ?_
  refine lv_iload_n hx hb dX8_finding_2 rfl (lv_at hl 1 rfl) ?_
  refine lv_isub hx hb dX8_finding_3 ?_
  refine xl_i (y := 3) (by decide) ?_
  refine lv_istore_n (lv' := [(2, .int 3), (0, .ref h0), (1, .int (-1000000004))]) hx hb dX8_finding_4 rfl hl (by decide) rfl (fun ls hl => ?_)
  refine lv_iload_n hx hb dX8_finding_5 rfl (lv_at hl 0 rfl) ?_
  refine lv_if_lt (tgt := 25) hx hb dX8_finding_6 (by decide) (fun c_1 => absurd c_1 (by decide)) (fun c_1 => ?_)
  refine lv_iload_n hx hb dX8_finding_9 rfl (lv_at hl 0 rfl) ?_
  refine lv_bipush (v := 7) hx hb dX8_finding_10 (by decide) ?_
  refine lv_icmp_ge (tgt := 25) hx hb dX8_finding_12 (by decide) (fun c_2 => absurd c_2 (by decide)) (fun c_2 => ?_)
  refine lv_aload_n hx hb dX8_finding_15 rfl (lv_at hl 1 rfl) ?_
  refine xg hF kf_X8_70 hK hP 0 rfl rfl dX8_finding_16 ?_
  refine lv_iload_n hx hb dX8_finding_19 rfl (lv_at hl 0 rfl) ?_
  refine lv_dup2_11 hx hb dX8_finding_20 rfl rfl ?_
  refine va_iald hx hb hK hP 1 0 rfl rfl (xin 3 7 (by decide) (by decide)) dX8_finding_21 ?_
  refine xl_i (y := f 3) (congrArg f rfl) ?_
  refine lv_iconst (v := 1) hx hb dX8_finding_22 (by decide) ?_
  refine lv_iadd hx hb dX8_finding_23 ?_
  refine va_iast hx hb hK hP hD hS 1 0 rfl rfl (xin 3 7 (by decide) (by decide)) dX8_finding_24 (fun H locs hP hD hS => ?_)
  obtain ⟨f_3, ef_3⟩ : ∃ g, g = upd f (3 : Int32).toNatClampNeg ((f 3) + 1) := ⟨_, rfl⟩
  rw [← ef_3] at hP hD
  have hP : va_P D vwCl [(h0, .inr (8, [.ref qh, .ref qk, .ref qd, .int b0, .ref qa, .ref qm, .ref qs, .ref qp, .ref ql, .ref qt, .ref qz, .ref qf])), (qf, .inl (cI, 7, .inl f_3))] H := hP
  have hD : va_D A [(h0, .inr (8, [.ref qh, .ref qk, .ref qd, .int b0, .ref qa, .ref qm, .ref qs, .ref qp, .ref ql, .ref qt, .ref qz, .ref qf])), (qf, .inl (cI, 7, .inl f_3))] := hD
  refine lv_iload_n hx hb dX8_finding_25 rfl (lv_at hl 2 rfl) ?_
  exact W.iret (v := (-1000000004)) hx hb hr (fun t ht hW => ⟨⟨(-1000000004), (), rfl, rfl, by rw [ht]; exact hP.sub [] rfl, hD.sub [] (by decide) rfl⟩, hS.F ht⟩) hS.2.2 dX8_finding_26 hlk
set_option maxHeartbeats 4000000 in
set_option maxRecDepth 100000 in
theorem c_X8_finding_M (l : Launch) (D : va_G) (cI cJ cZ cS : ClassId) (sa : Nat → Nat) (sz : Nat) (h0 : Nat) (qh : Nat) (qk : Nat) (qd : Nat) (qa : Nat) (qm : Nat) (qs : Nat) (qp : Nat) (ql : Nat) (qt : Nat) (qz : Nat) (qf : Nat) (b0 : Int32) (f : Nat → Int32) : Met l yX8_finding (Cond.code yX8_finding cX8_finding 3 (some .int) :: wsU) ({ frames := 0, cells := 0, slots := 0, locals := 0 }) (va_Pc [.ref h0, .int (-1000000006)] (XW D (xT cI cJ cZ cS) sa [(h0, .inr (8, [.ref qh, .ref qk, .ref qd, .int b0, .ref qa, .ref qm, .ref qs, .ref qp, .ref ql, .ref qt, .ref qz, .ref qf])), (qf, .inl (cI, 7, .inl f))] sz)) (XQi (fun (r : Int32) (_ : Unit) => r = (-1000000006)) D (fun _ : Unit => []) (va_A [(h0, .inr (8, [.ref qh, .ref qk, .ref qd, .int b0, .ref qa, .ref qm, .ref qs, .ref qp, .ref ql, .ref qt, .ref qz, .ref qf])), (qf, .inl (cI, 7, .inl f))] sz)) 0 0 (va_A [(h0, .inr (8, [.ref qh, .ref qk, .ref qd, .int b0, .ref qa, .ref qm, .ref qs, .ref qp, .ref ql, .ref qt, .ref qz, .ref qf])), (qf, .inl (cI, 7, .inl f))] sz) := by
  refine xhw (QA := fun A => XQi (fun (r : Int32) (_ : Unit) => r = (-1000000006)) D (fun _ : Unit => []) A) (by decide) (Nat.le_of_ble_eq_true rfl) ?_
  intro p e s m below meth c ls A hF hr hlk hin hsz hP hK hD hN hA hS hl
  have hF : CallFix p m c cX8_finding 3 s _ _ RX8 := hF
  have hx := hF.1
  have hb := hF.2.1
  have hml := hF.2.2.1
  have hown := hF.2.2.2.1
  have hu : ∀ w ∈ wsU, w.before _ s = true := fun w h => hF.2.2.2.2 w (List.mem_cons_of_mem _ h)
  have hl : lv_has ls 3 [(0, .ref h0), (1, .int (-1000000006))] := hl
  refine lv_ldc (v := (-1000000001)) hx hb hown (hu _ uw4) dX8_finding_0 ?_
  refine lv_iload_n hx hb dX8_finding_2 rfl (lv_at hl 1 rfl) ?_
  refine lv_isub hx hb dX8_finding_3 ?_
  refine xl_i (y := 5) (by decide) ?_
  refine lv_istore_n (lv' := [(2, .int 5), (0, .ref h0), (1, .int (-1000000006))]) hx hb dX8_finding_4 rfl hl (by decide) rfl (fun ls hl => ?_)
  refine lv_iload_n hx hb dX8_finding_5 rfl (lv_at hl 0 rfl) ?_
  refine lv_if_lt (tgt := 25) hx hb dX8_finding_6 (by decide) (fun c_1 => absurd c_1 (by decide)) (fun c_1 => ?_)
  refine lv_iload_n hx hb dX8_finding_9 rfl (lv_at hl 0 rfl) ?_
  refine lv_bipush (v := 7) hx hb dX8_finding_10 (by decide) ?_
  refine lv_icmp_ge (tgt := 25) hx hb dX8_finding_12 (by decide) (fun c_2 => absurd c_2 (by decide)) (fun c_2 => ?_)
  refine lv_aload_n hx hb dX8_finding_15 rfl (lv_at hl 1 rfl) ?_
  refine xg hF kf_X8_70 hK hP 0 rfl rfl dX8_finding_16 ?_
  refine lv_iload_n hx hb dX8_finding_19 rfl (lv_at hl 0 rfl) ?_
  refine lv_dup2_11 hx hb dX8_finding_20 rfl rfl ?_
  refine va_iald hx hb hK hP 1 0 rfl rfl (xin 5 7 (by decide) (by decide)) dX8_finding_21 ?_
  refine xl_i (y := f 5) (congrArg f rfl) ?_
  refine lv_iconst (v := 1) hx hb dX8_finding_22 (by decide) ?_
  refine lv_iadd hx hb dX8_finding_23 ?_
  refine va_iast hx hb hK hP hD hS 1 0 rfl rfl (xin 5 7 (by decide) (by decide)) dX8_finding_24 (fun H locs hP hD hS => ?_)
  obtain ⟨f_3, ef_3⟩ : ∃ g, g = upd f (5 : Int32).toNatClampNeg ((f 5) + 1) := ⟨_, rfl⟩
  rw [← ef_3] at hP hD
  have hP : va_P D vwCl [(h0, .inr (8, [.ref qh, .ref qk, .ref qd, .int b0, .ref qa, .ref qm, .ref qs, .ref qp, .ref ql, .ref qt, .ref qz, .ref qf])), (qf, .inl (cI, 7, .inl f_3))] H := hP
  have hD : va_D A [(h0, .inr (8, [.ref qh, .ref qk, .ref qd, .int b0, .ref qa, .ref qm, .ref qs, .ref qp, .ref ql, .ref qt, .ref qz, .ref qf])), (qf, .inl (cI, 7, .inl f_3))] := hD
  refine lv_iload_n hx hb dX8_finding_25 rfl (lv_at hl 2 rfl) ?_
  exact W.iret (v := (-1000000006)) hx hb hr (fun t ht hW => ⟨⟨(-1000000006), (), rfl, rfl, by rw [ht]; exact hP.sub [] rfl, hD.sub [] (by decide) rfl⟩, hS.F ht⟩) hS.2.2 dX8_finding_26 hlk
set_option maxHeartbeats 4000000 in
set_option maxRecDepth 100000 in
theorem c_X8_finding_S (l : Launch) (D : va_G) (cI cJ cZ cS : ClassId) (sa : Nat → Nat) (sz : Nat) (h0 : Nat) (qh : Nat) (qk : Nat) (qd : Nat) (qa : Nat) (qm : Nat) (qs : Nat) (qp : Nat) (ql : Nat) (qt : Nat) (qz : Nat) (qf : Nat) (b0 : Int32) (f : Nat → Int32) : Met l yX8_finding (Cond.code yX8_finding cX8_finding 3 (some .int) :: wsU) ({ frames := 0, cells := 0, slots := 0, locals := 0 }) (va_Pc [.ref h0, .int (-1000000007)] (XW D (xT cI cJ cZ cS) sa [(h0, .inr (8, [.ref qh, .ref qk, .ref qd, .int b0, .ref qa, .ref qm, .ref qs, .ref qp, .ref ql, .ref qt, .ref qz, .ref qf])), (qf, .inl (cI, 7, .inl f))] sz)) (XQi (fun (r : Int32) (_ : Unit) => r = (-1000000007)) D (fun _ : Unit => []) (va_A [(h0, .inr (8, [.ref qh, .ref qk, .ref qd, .int b0, .ref qa, .ref qm, .ref qs, .ref qp, .ref ql, .ref qt, .ref qz, .ref qf])), (qf, .inl (cI, 7, .inl f))] sz)) 0 0 (va_A [(h0, .inr (8, [.ref qh, .ref qk, .ref qd, .int b0, .ref qa, .ref qm, .ref qs, .ref qp, .ref ql, .ref qt, .ref qz, .ref qf])), (qf, .inl (cI, 7, .inl f))] sz) := by
  refine xhw (QA := fun A => XQi (fun (r : Int32) (_ : Unit) => r = (-1000000007)) D (fun _ : Unit => []) A) (by decide) (Nat.le_of_ble_eq_true rfl) ?_
  intro p e s m below meth c ls A hF hr hlk hin hsz hP hK hD hN hA hS hl
  have hF : CallFix p m c cX8_finding 3 s _ _ RX8 := hF
  have hx := hF.1
  have hb := hF.2.1
  have hml := hF.2.2.1
  have hown := hF.2.2.2.1
  have hu : ∀ w ∈ wsU, w.before _ s = true := fun w h => hF.2.2.2.2 w (List.mem_cons_of_mem _ h)
  have hl : lv_has ls 3 [(0, .ref h0), (1, .int (-1000000007))] := hl
  refine lv_ldc (v := (-1000000001)) hx hb hown (hu _ uw4) dX8_finding_0 ?_
  refine lv_iload_n hx hb dX8_finding_2 rfl (lv_at hl 1 rfl) ?_
  refine lv_isub hx hb dX8_finding_3 ?_
  refine xl_i (y := 6) (by decide) ?_
  refine lv_istore_n (lv' := [(2, .int 6), (0, .ref h0), (1, .int (-1000000007))]) hx hb dX8_finding_4 rfl hl (by decide) rfl (fun ls hl => ?_)
  refine lv_iload_n hx hb dX8_finding_5 rfl (lv_at hl 0 rfl) ?_
  refine lv_if_lt (tgt := 25) hx hb dX8_finding_6 (by decide) (fun c_1 => absurd c_1 (by decide)) (fun c_1 => ?_)
  refine lv_iload_n hx hb dX8_finding_9 rfl (lv_at hl 0 rfl) ?_
  refine lv_bipush (v := 7) hx hb dX8_finding_10 (by decide) ?_
  refine lv_icmp_ge (tgt := 25) hx hb dX8_finding_12 (by decide) (fun c_2 => absurd c_2 (by decide)) (fun c_2 => ?_)
  refine lv_aload_n hx hb dX8_finding_15 rfl (lv_at hl 1 rfl) ?_
  refine xg hF kf_X8_70 hK hP 0 rfl rfl dX8_finding_16 ?_
  refine lv_iload_n hx hb dX8_finding_19 rfl (lv_at hl 0 rfl) ?_
  refine lv_dup2_11 hx hb dX8_finding_20 rfl rfl ?_
  refine va_iald hx hb hK hP 1 0 rfl rfl (xin 6 7 (by decide) (by decide)) dX8_finding_21 ?_
  refine xl_i (y := f 6) (congrArg f rfl) ?_
  refine lv_iconst (v := 1) hx hb dX8_finding_22 (by decide) ?_
  refine lv_iadd hx hb dX8_finding_23 ?_
  refine va_iast hx hb hK hP hD hS 1 0 rfl rfl (xin 6 7 (by decide) (by decide)) dX8_finding_24 (fun H locs hP hD hS => ?_)
  obtain ⟨f_3, ef_3⟩ : ∃ g, g = upd f (6 : Int32).toNatClampNeg ((f 6) + 1) := ⟨_, rfl⟩
  rw [← ef_3] at hP hD
  have hP : va_P D vwCl [(h0, .inr (8, [.ref qh, .ref qk, .ref qd, .int b0, .ref qa, .ref qm, .ref qs, .ref qp, .ref ql, .ref qt, .ref qz, .ref qf])), (qf, .inl (cI, 7, .inl f_3))] H := hP
  have hD : va_D A [(h0, .inr (8, [.ref qh, .ref qk, .ref qd, .int b0, .ref qa, .ref qm, .ref qs, .ref qp, .ref ql, .ref qt, .ref qz, .ref qf])), (qf, .inl (cI, 7, .inl f_3))] := hD
  refine lv_iload_n hx hb dX8_finding_25 rfl (lv_at hl 2 rfl) ?_
  exact W.iret (v := (-1000000007)) hx hb hr (fun t ht hW => ⟨⟨(-1000000007), (), rfl, rfl, by rw [ht]; exact hP.sub [] rfl, hD.sub [] (by decide) rfl⟩, hS.F ht⟩) hS.2.2 dX8_finding_26 hlk
set_option maxHeartbeats 4000000 in
set_option maxRecDepth 100000 in
theorem c_X1_isPlace (l : Launch) (D : va_G) (cI cJ cZ cS : ClassId) (sa : Nat → Nat) (sz : Nat) (h0 : Nat) (ae : Nat) (al : Nat) (au : Nat) (ao : Nat) (ar : Nat) (ak : Nat) (aw : Nat) (att : Nat) (ass : Nat) (p0 : Int64) : Met l yX1_isPlace (Cond.code yX1_isPlace cX1_isPlace 3 (some .boolean) :: wsU) ({ frames := 0, cells := 0, slots := 0, locals := 0 }) (va_Pc [.ref h0, .long p0] (XW D (xT cI cJ cZ cS) sa [(h0, .inr (1, [.int 0, .ref ae, .ref al, .ref au, .ref ao, .ref ar, .ref ak, .ref aw, .ref att, .ref ass]))] sz)) (vp_Si (fun r : Int32 => r = 0)) 0 0 (fun _ => False) := by
  refine xh (by decide) (Nat.le_of_ble_eq_true rfl) ?_
  intro p e s m below meth c ls hF hr hlk hin hsz hP hK hD hN hl
  have hF : CallFix p m c cX1_isPlace 3 s _ _ RX1 := hF
  have hx := hF.1
  have hb := hF.2.1
  have hml := hF.2.2.1
  have hown := hF.2.2.2.1
  have hu : ∀ w ∈ wsU, w.before _ s = true := fun w h => hF.2.2.2.2 w (List.mem_cons_of_mem _ h)
  have hl : lv_has ls 3 [(0, .ref h0), (1, .long p0)] := hl
  refine lv_lload_n hx hb dX1_isPlace_0 rfl (lv_at hl 1 rfl) ?_
  refine lv_lconst (v := 0) hx hb dX1_isPlace_1 (by decide) ?_
  refine W.lcmp hx hb dX1_isPlace_2 ?_
  refine lv_if_lt (tgt := 20) hx hb dX1_isPlace_3 (by decide) (fun c_1 => ?_) (fun c_1 => ?_)
  · skip
    refine lv_iconst (v := 0) hx hb dX1_isPlace_20 (by decide) ?_
    exact W.zret (v := 0) hx hb hr rfl (fun t ht hW => ⟨0, rfl, rfl, ht⟩) (fun q h => by cases h) dX1_isPlace_21 hlk
  · skip
    refine lv_lload_n hx hb dX1_isPlace_6 rfl (lv_at hl 1 rfl) ?_
    refine lv_aload_n hx hb dX1_isPlace_7 rfl (lv_at hl 0 rfl) ?_
    refine xg hF kf_X1_9 hK hP 0 rfl rfl dX1_isPlace_8 ?_
    refine lv_i2l (v := 0) hx hb dX1_isPlace_11 (by decide) ?_
    refine W.lcmp hx hb dX1_isPlace_12 ?_
    refine lv_if_ge (tgt := 20) hx hb dX1_isPlace_13 (by decide) (fun c_2 => ?_) (fun c_2 => absurd (xnl c_1) c_2)
    refine lv_iconst (v := 0) hx hb dX1_isPlace_20 (by decide) ?_
    exact W.zret (v := 0) hx hb hr rfl (fun t ht hW => ⟨0, rfl, rfl, ht⟩) (fun q h => by cases h) dX1_isPlace_21 hlk
set_option maxHeartbeats 4000000 in
set_option maxRecDepth 100000 in
theorem c_X1_areTwo (l : Launch) (D : va_G) (cI cJ cZ cS : ClassId) (sa : Nat → Nat) (sz : Nat) (h0 : Nat) (ae : Nat) (al : Nat) (au : Nat) (ao : Nat) (ar : Nat) (ak : Nat) (aw : Nat) (att : Nat) (ass : Nat) (p0 : Int32) (p1 : Int32) : Met l yX1_areTwo (Cond.code yX1_areTwo cX1_areTwo 3 (some .boolean) :: wsU) ({ frames := 1, cells := 0, slots := 0, locals := 22 }) (va_Pc [.ref h0, .int p0, .int p1] (XW D (xT cI cJ cZ cS) sa [(h0, .inr (1, [.int 0, .ref ae, .ref al, .ref au, .ref ao, .ref ar, .ref ak, .ref aw, .ref att, .ref ass]))] sz)) (vp_Si (fun r : Int32 => r = 0)) 0 0 (fun _ => False) := by
  refine xh (by decide) (Nat.le_of_ble_eq_true rfl) ?_
  intro p e s m below meth c ls hF hr hlk hin hsz hP hK hD hN hl
  have hF : CallFix p m c cX1_areTwo 3 s _ _ RX1 := hF
  have hx := hF.1
  have hb := hF.2.1
  have hml := hF.2.2.1
  have hown := hF.2.2.2.1
  have hu : ∀ w ∈ wsU, w.before _ s = true := fun w h => hF.2.2.2.2 w (List.mem_cons_of_mem _ h)
  have hl : lv_has ls 3 [(0, .ref h0), (1, .int p0), (2, .int p1)] := hl
  refine lv_aload_n hx hb dX1_areTwo_0 rfl (lv_at hl 0 rfl) ?_
  refine lv_iload_n hx hb dX1_areTwo_1 rfl (lv_at hl 1 rfl) ?_
  refine lv_i2l (v := p0.toInt64) hx hb dX1_areTwo_2 rfl ?_
  refine xc_Vr hF (c_X1_isPlace l D cI cJ cZ cS sa s.heap.size h0 ae al au ao ar ak aw att ass p0.toInt64 ) kv_X1_57 ⟨rfl, rfl, Nat.le_of_ble_eq_true rfl, Nat.le_of_ble_eq_true rfl⟩ ⟨Nat.le_of_ble_eq_true rfl, Nat.le_of_ble_eq_true rfl⟩ hK hN hP hD [0] rfl rfl 0 rfl rfl rfl rfl hl.1 rfl (Nat.le_of_ble_eq_true rfl) dX1_areTwo_3 (fun r_1 hw_r_1 => ?_)
  subst hw_r_1
  refine lv_if_eq (tgt := 27) hx hb dX1_areTwo_6 (by decide) (fun c_2 => ?_) (fun c_2 => absurd (by decide) c_2)
  refine lv_iconst (v := 0) hx hb dX1_areTwo_27 (by decide) ?_
  exact W.zret (v := 0) hx hb hr rfl (fun t ht hW => ⟨0, rfl, rfl, ht⟩) (fun q h => by cases h) dX1_areTwo_28 hlk
set_option maxHeartbeats 4000000 in
set_option maxRecDepth 100000 in
theorem c_X3_has (l : Launch) (D : va_G) (cI cJ cZ cS : ClassId) (sa : Nat → Nat) (sz : Nat) (h0 : Nat) (an : Nat) (ap : Nat) (p0 : Int32) : Met l yX3_has (Cond.code yX3_has cX3_has 2 (some .boolean) :: wsU) ({ frames := 0, cells := 0, slots := 0, locals := 0 }) (va_Pc [.ref h0, .int p0] (XW D (xT cI cJ cZ cS) sa [(h0, .inr (3, [.int 0, .ref an, .ref ap]))] sz)) (vp_Si (fun r : Int32 => r = 0)) 0 0 (fun _ => False) := by
  refine xh (by decide) (Nat.le_of_ble_eq_true rfl) ?_
  intro p e s m below meth c ls hF hr hlk hin hsz hP hK hD hN hl
  have hF : CallFix p m c cX3_has 2 s _ _ RX3 := hF
  have hx := hF.1
  have hb := hF.2.1
  have hml := hF.2.2.1
  have hown := hF.2.2.2.1
  have hu : ∀ w ∈ wsU, w.before _ s = true := fun w h => hF.2.2.2.2 w (List.mem_cons_of_mem _ h)
  have hl : lv_has ls 2 [(0, .ref h0), (1, .int p0)] := hl
  refine lv_iload_n hx hb dX3_has_0 rfl (lv_at hl 1 rfl) ?_
  refine lv_if_lt (tgt := 16) hx hb dX3_has_1 (by decide) (fun c_1 => ?_) (fun c_1 => ?_)
  · skip
    refine lv_iconst (v := 0) hx hb dX3_has_16 (by decide) ?_
    exact W.zret (v := 0) hx hb hr rfl (fun t ht hW => ⟨0, rfl, rfl, ht⟩) (fun q h => by cases h) dX3_has_17 hlk
  · skip
    refine lv_iload_n hx hb dX3_has_4 rfl (lv_at hl 1 rfl) ?_
    refine lv_aload_n hx hb dX3_has_5 rfl (lv_at hl 0 rfl) ?_
    refine xg hF kf_X3_9 hK hP 0 rfl rfl dX3_has_6 ?_
    refine lv_icmp_ge (tgt := 16) hx hb dX3_has_9 (by decide) (fun c_2 => ?_) (fun c_2 => absurd (xnl c_1) c_2)
    refine lv_iconst (v := 0) hx hb dX3_has_16 (by decide) ?_
    exact W.zret (v := 0) hx hb hr rfl (fun t ht hW => ⟨0, rfl, rfl, ht⟩) (fun q h => by cases h) dX3_has_17 hlk
set_option maxHeartbeats 4000000 in
set_option maxRecDepth 100000 in
theorem c_X1_countWays (l : Launch) (D : va_G) (cI cJ cZ cS : ClassId) (sa : Nat → Nat) (sz : Nat) (h0 : Nat) (ae : Nat) (al : Nat) (au : Nat) (ao : Nat) (ar : Nat) (ak : Nat) (aw : Nat) (att : Nat) (ass : Nat) : Met l yX1_countWays (Cond.code yX1_countWays cX1_countWays 3 (some .int) :: wsU) ({ frames := 0, cells := 0, slots := 0, locals := 0 }) (va_Pc [.ref h0] (XW D (xT cI cJ cZ cS) sa [(h0, .inr (1, [.int 0, .ref ae, .ref al, .ref au, .ref ao, .ref ar, .ref ak, .ref aw, .ref att, .ref ass])), (al, .inl (cI, 100, .inl (fun _ => 0))), (au, .inl (cI, 100, .inl (fun _ => 0))), (ao, .inl (cI, 100, .inl (fun _ => 0)))] sz)) (vp_Si (fun r : Int32 => r = 0)) 0 0 (fun _ => False) := by
  refine xh (by decide) (Nat.le_of_ble_eq_true rfl) ?_
  intro p e s m below meth c ls hF hr hlk hin hsz hP hK hD hN hl
  have hF : CallFix p m c cX1_countWays 3 s _ _ RX1 := hF
  have hx := hF.1
  have hb := hF.2.1
  have hml := hF.2.2.1
  have hown := hF.2.2.2.1
  have hu : ∀ w ∈ wsU, w.before _ s = true := fun w h => hF.2.2.2.2 w (List.mem_cons_of_mem _ h)
  have hl : lv_has ls 3 [(0, .ref h0)] := hl
  refine lv_iconst (v := 0) hx hb dX1_countWays_0 (by decide) ?_
  refine lv_istore_n (lv' := [(1, .int 0), (0, .ref h0)]) hx hb dX1_countWays_1 rfl hl (by decide) rfl (fun ls hl => ?_)
  refine lv_iconst (v := 0) hx hb dX1_countWays_2 (by decide) ?_
  refine lv_istore_n (lv' := [(2, .int 0), (1, .int 0), (0, .ref h0)]) hx hb dX1_countWays_3 rfl hl (by decide) rfl (fun ls hl => ?_)
  suffices loop_2 : ∀ (n k_1 : Nat) (ls : Array Slot), k_1 + n = 100 → lv_has ls 3 [(2, .int (nI (k_1))), (1, .int 0), (0, .ref h0)] → W p l e ({ frames := 0, cells := 0, slots := 0, locals := 0 }) s m ([.ref h0] : List Value).toArray below meth c s.heap [] 0 0 (MQ below (vp_Si (fun r : Int32 => r = 0)) ([.ref h0] : List Value).toArray s 0 0 (fun _ => False)) (F0 m 4 ls []) by
    exact loop_2 100 0  _ (by decide) (lv_sub hl [0, 1, 2] rfl)
  intro n
  induction n with
  | zero =>
    intro k_1  ls hk hl 
    have hk2 : k_1 = 100 := by omega
    subst hk2
    have hl : lv_has ls 3 [(2, .int 100), (1, .int 0), (0, .ref h0)] := hl
    refine lv_iload_n hx hb dX1_countWays_4 rfl (lv_at hl 0 rfl) ?_
    refine lv_bipush (v := 100) hx hb dX1_countWays_5 (by decide) ?_
    refine lv_icmp_ge (tgt := 33) hx hb dX1_countWays_7 (by decide) (fun c_3 => ?_) (fun c_3 => absurd (by decide) c_3)
    refine lv_iload_n hx hb dX1_countWays_33 rfl (lv_at hl 1 rfl) ?_
    exact W.iret (v := 0) hx hb hr (fun t ht hW => ⟨0, rfl, rfl, ht⟩) (fun q h => by cases h) dX1_countWays_34 hlk
  | succ n ih =>
    intro k_1  ls hk hl 
    have hlt_k_1 : k_1 < 100 := by omega
    refine lv_iload_n hx hb dX1_countWays_4 rfl (lv_at hl 0 rfl) ?_
    refine lv_bipush (v := 100) hx hb dX1_countWays_5 (by decide) ?_
    refine lv_icmp_ge (tgt := 33) hx hb dX1_countWays_7 (by decide) (fun c_4 => absurd c_4 (nI_ge hlt_k_1 (by decide))) (fun c_4 => ?_)
    refine lv_iload_n hx hb dX1_countWays_10 rfl (lv_at hl 1 rfl) ?_
    refine lv_aload_n hx hb dX1_countWays_11 rfl (lv_at hl 2 rfl) ?_
    refine xg hF kf_X1_25 hK hP 0 rfl rfl dX1_countWays_12 ?_
    refine lv_iload_n hx hb dX1_countWays_15 rfl (lv_at hl 0 rfl) ?_
    refine va_iald hx hb hK hP 3 0 rfl rfl (vp_in_nI (show k_1 < 100 by omega) (by decide)) dX1_countWays_16 ?_
    refine xl_i (y := 0) rfl ?_
    refine lv_if_ne (tgt := 24) hx hb dX1_countWays_17 (by decide) (fun c_5 => absurd (by decide) c_5) (fun c_5 => ?_)
    refine lv_iconst (v := 0) hx hb dX1_countWays_20 (by decide) ?_
    refine lv_goto (tgt := 25) hx hb dX1_countWays_21 (by decide) ?_
    refine lv_iadd hx hb dX1_countWays_25 ?_
    refine xl_i (y := 0) (by decide) ?_
    refine lv_istore_n (lv' := [(1, .int 0), (2, .int (nI (k_1))), (0, .ref h0)]) hx hb dX1_countWays_26 rfl hl (by decide) rfl (fun ls hl => ?_)
    refine lv_iinc (v := nI (k_1 + 1)) (lv' := [(2, .int (nI (k_1 + 1))), (1, .int 0), (0, .ref h0)]) hx hb dX1_countWays_27 hl (k := 1) rfl (nI_1 (k_1)) (by decide) rfl (fun ls hl => ?_)
    refine lv_goto (tgt := 4) hx hb dX1_countWays_30 (by decide) ?_
    exact ih (k_1 + 1)  _ (by omega) (lv_sub hl [0, 1, 2] rfl)
set_option maxHeartbeats 4000000 in
set_option maxRecDepth 100000 in
theorem c_X1_countUnknown (l : Launch) (D : va_G) (cI cJ cZ cS : ClassId) (sa : Nat → Nat) (sz : Nat) (h0 : Nat) (ae : Nat) (al : Nat) (au : Nat) (ao : Nat) (ar : Nat) (ak : Nat) (aw : Nat) (att : Nat) (ass : Nat) : Met l yX1_countUnknown (Cond.code yX1_countUnknown cX1_countUnknown 3 (some .int) :: wsU) ({ frames := 0, cells := 0, slots := 0, locals := 0 }) (va_Pc [.ref h0] (XW D (xT cI cJ cZ cS) sa [(h0, .inr (1, [.int 0, .ref ae, .ref al, .ref au, .ref ao, .ref ar, .ref ak, .ref aw, .ref att, .ref ass])), (al, .inl (cI, 100, .inl (fun _ => 0))), (au, .inl (cI, 100, .inl (fun _ => 0))), (ao, .inl (cI, 100, .inl (fun _ => 0)))] sz)) (vp_Si (fun r : Int32 => r = 0)) 0 0 (fun _ => False) := by
  refine xh (by decide) (Nat.le_of_ble_eq_true rfl) ?_
  intro p e s m below meth c ls hF hr hlk hin hsz hP hK hD hN hl
  have hF : CallFix p m c cX1_countUnknown 3 s _ _ RX1 := hF
  have hx := hF.1
  have hb := hF.2.1
  have hml := hF.2.2.1
  have hown := hF.2.2.2.1
  have hu : ∀ w ∈ wsU, w.before _ s = true := fun w h => hF.2.2.2.2 w (List.mem_cons_of_mem _ h)
  have hl : lv_has ls 3 [(0, .ref h0)] := hl
  refine lv_iconst (v := 0) hx hb dX1_countUnknown_0 (by decide) ?_
  refine lv_istore_n (lv' := [(1, .int 0), (0, .ref h0)]) hx hb dX1_countUnknown_1 rfl hl (by decide) rfl (fun ls hl => ?_)
  refine lv_iconst (v := 0) hx hb dX1_countUnknown_2 (by decide) ?_
  refine lv_istore_n (lv' := [(2, .int 0), (1, .int 0), (0, .ref h0)]) hx hb dX1_countUnknown_3 rfl hl (by decide) rfl (fun ls hl => ?_)
  suffices loop_2 : ∀ (n k_1 : Nat) (ls : Array Slot), k_1 + n = 100 → lv_has ls 3 [(2, .int (nI (k_1))), (1, .int 0), (0, .ref h0)] → W p l e ({ frames := 0, cells := 0, slots := 0, locals := 0 }) s m ([.ref h0] : List Value).toArray below meth c s.heap [] 0 0 (MQ below (vp_Si (fun r : Int32 => r = 0)) ([.ref h0] : List Value).toArray s 0 0 (fun _ => False)) (F0 m 4 ls []) by
    exact loop_2 100 0  _ (by decide) (lv_sub hl [0, 1, 2] rfl)
  intro n
  induction n with
  | zero =>
    intro k_1  ls hk hl 
    have hk2 : k_1 = 100 := by omega
    subst hk2
    have hl : lv_has ls 3 [(2, .int 100), (1, .int 0), (0, .ref h0)] := hl
    refine lv_iload_n hx hb dX1_countUnknown_4 rfl (lv_at hl 0 rfl) ?_
    refine lv_bipush (v := 100) hx hb dX1_countUnknown_5 (by decide) ?_
    refine lv_icmp_ge (tgt := 48) hx hb dX1_countUnknown_7 (by decide) (fun c_3 => ?_) (fun c_3 => absurd (by decide) c_3)
    refine lv_iload_n hx hb dX1_countUnknown_48 rfl (lv_at hl 1 rfl) ?_
    exact W.iret (v := 0) hx hb hr (fun t ht hW => ⟨0, rfl, rfl, ht⟩) (fun q h => by cases h) dX1_countUnknown_49 hlk
  | succ n ih =>
    intro k_1  ls hk hl 
    have hlt_k_1 : k_1 < 100 := by omega
    refine lv_iload_n hx hb dX1_countUnknown_4 rfl (lv_at hl 0 rfl) ?_
    refine lv_bipush (v := 100) hx hb dX1_countUnknown_5 (by decide) ?_
    refine lv_icmp_ge (tgt := 48) hx hb dX1_countUnknown_7 (by decide) (fun c_4 => absurd c_4 (nI_ge hlt_k_1 (by decide))) (fun c_4 => ?_)
    refine lv_iload_n hx hb dX1_countUnknown_10 rfl (lv_at hl 1 rfl) ?_
    refine lv_aload_n hx hb dX1_countUnknown_11 rfl (lv_at hl 2 rfl) ?_
    refine xg hF kf_X1_25 hK hP 0 rfl rfl dX1_countUnknown_12 ?_
    refine lv_iload_n hx hb dX1_countUnknown_15 rfl (lv_at hl 0 rfl) ?_
    refine va_iald hx hb hK hP 3 0 rfl rfl (vp_in_nI (show k_1 < 100 by omega) (by decide)) dX1_countUnknown_16 ?_
    refine xl_i (y := 0) rfl ?_
    refine lv_if_eq (tgt := 39) hx hb dX1_countUnknown_17 (by decide) (fun c_5 => ?_) (fun c_5 => absurd (by decide) c_5)
    refine lv_iconst (v := 0) hx hb dX1_countUnknown_39 (by decide) ?_
    refine lv_iadd hx hb dX1_countUnknown_40 ?_
    refine xl_i (y := 0) (by decide) ?_
    refine lv_istore_n (lv' := [(1, .int 0), (2, .int (nI (k_1))), (0, .ref h0)]) hx hb dX1_countUnknown_41 rfl hl (by decide) rfl (fun ls hl => ?_)
    refine lv_iinc (v := nI (k_1 + 1)) (lv' := [(2, .int (nI (k_1 + 1))), (1, .int 0), (0, .ref h0)]) hx hb dX1_countUnknown_42 hl (k := 1) rfl (nI_1 (k_1)) (by decide) rfl (fun ls hl => ?_)
    refine lv_goto (tgt := 4) hx hb dX1_countUnknown_45 (by decide) ?_
    exact ih (k_1 + 1)  _ (by omega) (lv_sub hl [0, 1, 2] rfl)
set_option maxHeartbeats 4000000 in
set_option maxRecDepth 100000 in
theorem c_X1_allBetweenEnds (l : Launch) (D : va_G) (cI cJ cZ cS : ClassId) (sa : Nat → Nat) (sz : Nat) (h0 : Nat) (ae : Nat) (al : Nat) (au : Nat) (ao : Nat) (ar : Nat) (ak : Nat) (aw : Nat) (att : Nat) (ass : Nat) : Met l yX1_allBetweenEnds (Cond.code yX1_allBetweenEnds cX1_allBetweenEnds 3 (some .int) :: wsU) ({ frames := 0, cells := 0, slots := 0, locals := 0 }) (va_Pc [.ref h0] (XW D (xT cI cJ cZ cS) sa [(h0, .inr (1, [.int 0, .ref ae, .ref al, .ref au, .ref ao, .ref ar, .ref ak, .ref aw, .ref att, .ref ass])), (al, .inl (cI, 100, .inl (fun _ => 0))), (au, .inl (cI, 100, .inl (fun _ => 0))), (ao, .inl (cI, 100, .inl (fun _ => 0)))] sz)) (vp_Si (fun r : Int32 => r = 0)) 0 0 (fun _ => False) := by
  refine xh (by decide) (Nat.le_of_ble_eq_true rfl) ?_
  intro p e s m below meth c ls hF hr hlk hin hsz hP hK hD hN hl
  have hF : CallFix p m c cX1_allBetweenEnds 3 s _ _ RX1 := hF
  have hx := hF.1
  have hb := hF.2.1
  have hml := hF.2.2.1
  have hown := hF.2.2.2.1
  have hu : ∀ w ∈ wsU, w.before _ s = true := fun w h => hF.2.2.2.2 w (List.mem_cons_of_mem _ h)
  have hl : lv_has ls 3 [(0, .ref h0)] := hl
  refine lv_iconst (v := 0) hx hb dX1_allBetweenEnds_0 (by decide) ?_
  refine lv_istore_n (lv' := [(1, .int 0), (0, .ref h0)]) hx hb dX1_allBetweenEnds_1 rfl hl (by decide) rfl (fun ls hl => ?_)
  refine lv_iconst (v := 0) hx hb dX1_allBetweenEnds_2 (by decide) ?_
  refine lv_istore_n (lv' := [(2, .int 0), (1, .int 0), (0, .ref h0)]) hx hb dX1_allBetweenEnds_3 rfl hl (by decide) rfl (fun ls hl => ?_)
  suffices loop_2 : ∀ (n k_1 : Nat) (ls : Array Slot), k_1 + n = 100 → lv_has ls 3 [(2, .int (nI (k_1))), (1, .int 0), (0, .ref h0)] → W p l e ({ frames := 0, cells := 0, slots := 0, locals := 0 }) s m ([.ref h0] : List Value).toArray below meth c s.heap [] 0 0 (MQ below (vp_Si (fun r : Int32 => r = 0)) ([.ref h0] : List Value).toArray s 0 0 (fun _ => False)) (F0 m 4 ls []) by
    exact loop_2 100 0  _ (by decide) (lv_sub hl [0, 1, 2] rfl)
  intro n
  induction n with
  | zero =>
    intro k_1  ls hk hl 
    have hk2 : k_1 = 100 := by omega
    subst hk2
    have hl : lv_has ls 3 [(2, .int 100), (1, .int 0), (0, .ref h0)] := hl
    refine lv_iload_n hx hb dX1_allBetweenEnds_4 rfl (lv_at hl 0 rfl) ?_
    refine lv_bipush (v := 100) hx hb dX1_allBetweenEnds_5 (by decide) ?_
    refine lv_icmp_ge (tgt := 45) hx hb dX1_allBetweenEnds_7 (by decide) (fun c_3 => ?_) (fun c_3 => absurd (by decide) c_3)
    refine lv_iload_n hx hb dX1_allBetweenEnds_45 rfl (lv_at hl 1 rfl) ?_
    exact W.iret (v := 0) hx hb hr (fun t ht hW => ⟨0, rfl, rfl, ht⟩) (fun q h => by cases h) dX1_allBetweenEnds_46 hlk
  | succ n ih =>
    intro k_1  ls hk hl 
    have hlt_k_1 : k_1 < 100 := by omega
    refine lv_iload_n hx hb dX1_allBetweenEnds_4 rfl (lv_at hl 0 rfl) ?_
    refine lv_bipush (v := 100) hx hb dX1_allBetweenEnds_5 (by decide) ?_
    refine lv_icmp_ge (tgt := 45) hx hb dX1_allBetweenEnds_7 (by decide) (fun c_4 => absurd c_4 (nI_ge hlt_k_1 (by decide))) (fun c_4 => ?_)
    refine lv_iload_n hx hb dX1_allBetweenEnds_10 rfl (lv_at hl 1 rfl) ?_
    refine lv_aload_n hx hb dX1_allBetweenEnds_11 rfl (lv_at hl 2 rfl) ?_
    refine xg hF kf_X1_25 hK hP 0 rfl rfl dX1_allBetweenEnds_12 ?_
    refine lv_iload_n hx hb dX1_allBetweenEnds_15 rfl (lv_at hl 0 rfl) ?_
    refine va_iald hx hb hK hP 3 0 rfl rfl (vp_in_nI (show k_1 < 100 by omega) (by decide)) dX1_allBetweenEnds_16 ?_
    refine xl_i (y := 0) rfl ?_
    refine lv_if_ne (tgt := 24) hx hb dX1_allBetweenEnds_17 (by decide) (fun c_5 => absurd (by decide) c_5) (fun c_5 => ?_)
    refine lv_iconst (v := 0) hx hb dX1_allBetweenEnds_20 (by decide) ?_
    refine lv_goto (tgt := 37) hx hb dX1_allBetweenEnds_21 (by decide) ?_
    refine lv_iadd hx hb dX1_allBetweenEnds_37 ?_
    refine xl_i (y := 0) (by decide) ?_
    refine lv_istore_n (lv' := [(1, .int 0), (2, .int (nI (k_1))), (0, .ref h0)]) hx hb dX1_allBetweenEnds_38 rfl hl (by decide) rfl (fun ls hl => ?_)
    refine lv_iinc (v := nI (k_1 + 1)) (lv' := [(2, .int (nI (k_1 + 1))), (1, .int 0), (0, .ref h0)]) hx hb dX1_allBetweenEnds_39 hl (k := 1) rfl (nI_1 (k_1)) (by decide) rfl (fun ls hl => ?_)
    refine lv_goto (tgt := 4) hx hb dX1_allBetweenEnds_42 (by decide) ?_
    exact ih (k_1 + 1)  _ (by omega) (lv_sub hl [0, 1, 2] rfl)
set_option maxHeartbeats 4000000 in
set_option maxRecDepth 100000 in
theorem c_X1_widestWay (l : Launch) (D : va_G) (cI cJ cZ cS : ClassId) (sa : Nat → Nat) (sz : Nat) (h0 : Nat) (ae : Nat) (al : Nat) (au : Nat) (ao : Nat) (ar : Nat) (ak : Nat) (aw : Nat) (att : Nat) (ass : Nat) : Met l yX1_widestWay (Cond.code yX1_widestWay cX1_widestWay 4 (some .int) :: wsU) ({ frames := 0, cells := 0, slots := 0, locals := 0 }) (va_Pc [.ref h0] (XW D (xT cI cJ cZ cS) sa [(h0, .inr (1, [.int 0, .ref ae, .ref al, .ref au, .ref ao, .ref ar, .ref ak, .ref aw, .ref att, .ref ass])), (al, .inl (cI, 100, .inl (fun _ => 0))), (au, .inl (cI, 100, .inl (fun _ => 0))), (ao, .inl (cI, 100, .inl (fun _ => 0)))] sz)) (vp_Si (fun r : Int32 => r = (-1))) 0 0 (fun _ => False) := by
  refine xh (by decide) (Nat.le_of_ble_eq_true rfl) ?_
  intro p e s m below meth c ls hF hr hlk hin hsz hP hK hD hN hl
  have hF : CallFix p m c cX1_widestWay 4 s _ _ RX1 := hF
  have hx := hF.1
  have hb := hF.2.1
  have hml := hF.2.2.1
  have hown := hF.2.2.2.1
  have hu : ∀ w ∈ wsU, w.before _ s = true := fun w h => hF.2.2.2.2 w (List.mem_cons_of_mem _ h)
  have hl : lv_has ls 4 [(0, .ref h0)] := hl
  refine lv_iconst (v := (-1)) hx hb dX1_widestWay_0 (by decide) ?_
  refine lv_istore_n (lv' := [(1, .int (-1)), (0, .ref h0)]) hx hb dX1_widestWay_1 rfl hl (by decide) rfl (fun ls hl => ?_)
  refine lv_iconst (v := 0) hx hb dX1_widestWay_2 (by decide) ?_
  refine lv_istore_n (lv' := [(2, .int 0), (1, .int (-1)), (0, .ref h0)]) hx hb dX1_widestWay_3 rfl hl (by decide) rfl (fun ls hl => ?_)
  refine lv_iconst (v := 0) hx hb dX1_widestWay_4 (by decide) ?_
  refine lv_istore_n (lv' := [(3, .int 0), (2, .int 0), (1, .int (-1)), (0, .ref h0)]) hx hb dX1_widestWay_5 rfl hl (by decide) rfl (fun ls hl => ?_)
  suffices loop_2 : ∀ (n k_1 : Nat) (ls : Array Slot), k_1 + n = 100 → lv_has ls 4 [(3, .int (nI (k_1))), (2, .int 0), (1, .int (-1)), (0, .ref h0)] → W p l e ({ frames := 0, cells := 0, slots := 0, locals := 0 }) s m ([.ref h0] : List Value).toArray below meth c s.heap [] 0 0 (MQ below (vp_Si (fun r : Int32 => r = (-1))) ([.ref h0] : List Value).toArray s 0 0 (fun _ => False)) (F0 m 6 ls []) by
    exact loop_2 100 0  _ (by decide) (lv_sub hl [0, 1, 2, 3] rfl)
  intro n
  induction n with
  | zero =>
    intro k_1  ls hk hl 
    have hk2 : k_1 = 100 := by omega
    subst hk2
    have hl : lv_has ls 4 [(3, .int 100), (2, .int 0), (1, .int (-1)), (0, .ref h0)] := hl
    refine lv_iload_n hx hb dX1_widestWay_6 rfl (lv_at hl 0 rfl) ?_
    refine lv_bipush (v := 100) hx hb dX1_widestWay_7 (by decide) ?_
    refine lv_icmp_ge (tgt := 61) hx hb dX1_widestWay_9 (by decide) (fun c_3 => ?_) (fun c_3 => absurd (by decide) c_3)
    refine lv_iload_n hx hb dX1_widestWay_61 rfl (lv_at hl 2 rfl) ?_
    exact W.iret (v := (-1)) hx hb hr (fun t ht hW => ⟨(-1), rfl, rfl, ht⟩) (fun q h => by cases h) dX1_widestWay_62 hlk
  | succ n ih =>
    intro k_1  ls hk hl 
    have hlt_k_1 : k_1 < 100 := by omega
    refine lv_iload_n hx hb dX1_widestWay_6 rfl (lv_at hl 0 rfl) ?_
    refine lv_bipush (v := 100) hx hb dX1_widestWay_7 (by decide) ?_
    refine lv_icmp_ge (tgt := 61) hx hb dX1_widestWay_9 (by decide) (fun c_4 => absurd c_4 (nI_ge hlt_k_1 (by decide))) (fun c_4 => ?_)
    refine lv_aload_n hx hb dX1_widestWay_12 rfl (lv_at hl 3 rfl) ?_
    refine xg hF kf_X1_25 hK hP 0 rfl rfl dX1_widestWay_13 ?_
    refine lv_iload_n hx hb dX1_widestWay_16 rfl (lv_at hl 0 rfl) ?_
    refine va_iald hx hb hK hP 3 0 rfl rfl (vp_in_nI (show k_1 < 100 by omega) (by decide)) dX1_widestWay_17 ?_
    refine xl_i (y := 0) rfl ?_
    refine lv_iconst (v := 1) hx hb dX1_widestWay_18 (by decide) ?_
    refine lv_icmp_ne (tgt := 55) hx hb dX1_widestWay_19 (by decide) (fun c_5 => ?_) (fun c_5 => absurd c_5 (by decide))
    refine lv_iinc (v := nI (k_1 + 1)) (lv' := [(3, .int (nI (k_1 + 1))), (2, .int 0), (1, .int (-1)), (0, .ref h0)]) hx hb dX1_widestWay_55 hl (k := 0) rfl (nI_1 (k_1)) (by decide) rfl (fun ls hl => ?_)
    refine lv_goto (tgt := 6) hx hb dX1_widestWay_58 (by decide) ?_
    exact ih (k_1 + 1)  _ (by omega) (lv_sub hl [0, 1, 2, 3] rfl)
set_option maxHeartbeats 4000000 in
set_option maxRecDepth 100000 in
theorem c_X1_allErrands (l : Launch) (D : va_G) (cI cJ cZ cS : ClassId) (sa : Nat → Nat) (sz : Nat) (h0 : Nat) (ae : Nat) (al : Nat) (au : Nat) (ao : Nat) (ar : Nat) (ak : Nat) (aw : Nat) (att : Nat) (ass : Nat) : Met l yX1_allErrands (Cond.code yX1_allErrands cX1_allErrands 3 (some .int) :: wsU) ({ frames := 0, cells := 0, slots := 0, locals := 0 }) (va_Pc [.ref h0] (XW D (xT cI cJ cZ cS) sa [(h0, .inr (1, [.int 0, .ref ae, .ref al, .ref au, .ref ao, .ref ar, .ref ak, .ref aw, .ref att, .ref ass]))] sz)) (vp_Si (fun r : Int32 => r = 0)) 0 0 (fun _ => False) := by
  refine xh (by decide) (Nat.le_of_ble_eq_true rfl) ?_
  intro p e s m below meth c ls hF hr hlk hin hsz hP hK hD hN hl
  have hF : CallFix p m c cX1_allErrands 3 s _ _ RX1 := hF
  have hx := hF.1
  have hb := hF.2.1
  have hml := hF.2.2.1
  have hown := hF.2.2.2.1
  have hu : ∀ w ∈ wsU, w.before _ s = true := fun w h => hF.2.2.2.2 w (List.mem_cons_of_mem _ h)
  have hl : lv_has ls 3 [(0, .ref h0)] := hl
  refine lv_iconst (v := 0) hx hb dX1_allErrands_0 (by decide) ?_
  refine lv_istore_n (lv' := [(1, .int 0), (0, .ref h0)]) hx hb dX1_allErrands_1 rfl hl (by decide) rfl (fun ls hl => ?_)
  refine lv_iconst (v := 0) hx hb dX1_allErrands_2 (by decide) ?_
  refine lv_istore_n (lv' := [(2, .int 0), (1, .int 0), (0, .ref h0)]) hx hb dX1_allErrands_3 rfl hl (by decide) rfl (fun ls hl => ?_)
  refine lv_iload_n hx hb dX1_allErrands_4 rfl (lv_at hl 0 rfl) ?_
  refine lv_aload_n hx hb dX1_allErrands_5 rfl (lv_at hl 2 rfl) ?_
  refine xg hF kf_X1_9 hK hP 0 rfl rfl dX1_allErrands_6 ?_
  refine lv_icmp_ge (tgt := 27) hx hb dX1_allErrands_9 (by decide) (fun c_1 => ?_) (fun c_1 => absurd (by decide) c_1)
  refine lv_iload_n hx hb dX1_allErrands_27 rfl (lv_at hl 1 rfl) ?_
  exact W.iret (v := 0) hx hb hr (fun t ht hW => ⟨0, rfl, rfl, ht⟩) (fun q h => by cases h) dX1_allErrands_28 hlk
set_option maxHeartbeats 4000000 in
set_option maxRecDepth 100000 in
theorem c_X1_hollowSet (l : Launch) (D : va_G) (cI cJ cZ cS : ClassId) (sa : Nat → Nat) (sz : Nat) (h0 : Nat) (ae : Nat) (al : Nat) (au : Nat) (ao : Nat) (ar : Nat) (ak : Nat) (aw : Nat) (att : Nat) (ass : Nat) : Met l yX1_hollowSet (Cond.code yX1_hollowSet cX1_hollowSet 5 (some .int) :: wsU) ({ frames := 0, cells := 0, slots := 0, locals := 0 }) (va_Pc [.ref h0] (XW D (xT cI cJ cZ cS) sa [(h0, .inr (1, [.int 0, .ref ae, .ref al, .ref au, .ref ao, .ref ar, .ref ak, .ref aw, .ref att, .ref ass]))] sz)) (vp_Si (fun r : Int32 => r = 0)) 0 0 (fun _ => False) := by
  refine xh (by decide) (Nat.le_of_ble_eq_true rfl) ?_
  intro p e s m below meth c ls hF hr hlk hin hsz hP hK hD hN hl
  have hF : CallFix p m c cX1_hollowSet 5 s _ _ RX1 := hF
  have hx := hF.1
  have hb := hF.2.1
  have hml := hF.2.2.1
  have hown := hF.2.2.2.1
  have hu : ∀ w ∈ wsU, w.before _ s = true := fun w h => hF.2.2.2.2 w (List.mem_cons_of_mem _ h)
  have hl : lv_has ls 5 [(0, .ref h0)] := hl
  refine lv_iconst (v := 0) hx hb dX1_hollowSet_0 (by decide) ?_
  refine lv_istore_n (lv' := [(1, .int 0), (0, .ref h0)]) hx hb dX1_hollowSet_1 rfl hl (by decide) rfl (fun ls hl => ?_)
  refine lv_iconst (v := 0) hx hb dX1_hollowSet_2 (by decide) ?_
  refine lv_istore_n (lv' := [(2, .int 0), (1, .int 0), (0, .ref h0)]) hx hb dX1_hollowSet_3 rfl hl (by decide) rfl (fun ls hl => ?_)
  refine lv_iload_n hx hb dX1_hollowSet_4 rfl (lv_at hl 0 rfl) ?_
  refine lv_aload_n hx hb dX1_hollowSet_5 rfl (lv_at hl 2 rfl) ?_
  refine xg hF kf_X1_9 hK hP 0 rfl rfl dX1_hollowSet_6 ?_
  refine lv_icmp_ge (tgt := 62) hx hb dX1_hollowSet_9 (by decide) (fun c_1 => ?_) (fun c_1 => absurd (by decide) c_1)
  refine lv_iload_n hx hb dX1_hollowSet_62 rfl (lv_at hl 1 rfl) ?_
  exact W.iret (v := 0) hx hb hr (fun t ht hW => ⟨0, rfl, rfl, ht⟩) (fun q h => by cases h) dX1_hollowSet_63 hlk
set_option maxHeartbeats 4000000 in
set_option maxRecDepth 100000 in
theorem c_X1_addPlace (l : Launch) (D : va_G) (cI cJ cZ cS : ClassId) (sa : Nat → Nat) (sz : Nat) (h0 : Nat) (ae : Nat) (al : Nat) (au : Nat) (ao : Nat) (ar : Nat) (ak : Nat) (aw : Nat) (att : Nat) (ass : Nat) : Met l yX1_addPlace (Cond.code yX1_addPlace cX1_addPlace 3 (some .int) :: wsU) ({ frames := 0, cells := 0, slots := 0, locals := 0 }) (va_Pc [.ref h0, .int 0] (XW D (xT cI cJ cZ cS) sa [(h0, .inr (1, [.int 0, .ref ae, .ref al, .ref au, .ref ao, .ref ar, .ref ak, .ref aw, .ref att, .ref ass])), (ae, .inl (cI, 10, .inl (fun _ => 0)))] sz)) (XQi (fun (r : Int32) (_ : Unit) => r = 0) D (fun _ : Unit => []) (va_A [(h0, .inr (1, [.int 0, .ref ae, .ref al, .ref au, .ref ao, .ref ar, .ref ak, .ref aw, .ref att, .ref ass])), (ae, .inl (cI, 10, .inl (fun _ => 0)))] sz)) 0 0 (va_A [(h0, .inr (1, [.int 0, .ref ae, .ref al, .ref au, .ref ao, .ref ar, .ref ak, .ref aw, .ref att, .ref ass])), (ae, .inl (cI, 10, .inl (fun _ => 0)))] sz) := by
  refine xhw (QA := fun A => XQi (fun (r : Int32) (_ : Unit) => r = 0) D (fun _ : Unit => []) A) (by decide) (Nat.le_of_ble_eq_true rfl) ?_
  intro p e s m below meth c ls A hF hr hlk hin hsz hP hK hD hN hA hS hl
  have hF : CallFix p m c cX1_addPlace 3 s _ _ RX1 := hF
  have hx := hF.1
  have hb := hF.2.1
  have hml := hF.2.2.1
  have hown := hF.2.2.2.1
  have hu : ∀ w ∈ wsU, w.before _ s = true := fun w h => hF.2.2.2.2 w (List.mem_cons_of_mem _ h)
  have hl : lv_has ls 3 [(0, .ref h0), (1, .int 0)] := hl
  refine lv_aload_n hx hb dX1_addPlace_0 rfl (lv_at hl 0 rfl) ?_
  refine xg hF kf_X1_9 hK hP 0 rfl rfl dX1_addPlace_1 ?_
  refine lv_istore_n (lv' := [(2, .int 0), (0, .ref h0), (1, .int 0)]) hx hb dX1_addPlace_4 rfl hl (by decide) rfl (fun ls hl => ?_)
  refine lv_aload_n hx hb dX1_addPlace_5 rfl (lv_at hl 1 rfl) ?_
  refine lv_dup hx hb dX1_addPlace_6 rfl ?_
  refine xg hF kf_X1_9 hK hP 0 rfl rfl dX1_addPlace_7 ?_
  refine lv_iconst (v := 1) hx hb dX1_addPlace_10 (by decide) ?_
  refine lv_iadd hx hb dX1_addPlace_11 ?_
  refine xl_i (y := 1) (by decide) ?_
  refine xp hF kf_X1_9 tyX1_ok nmX1 hK hP hD hS 0 rfl rfl rfl rfl (Nat.le_of_ble_eq_true rfl) dX1_addPlace_12 (fun H locs hP hD hS => ?_)
  have hP : va_P D vwCl [(h0, .inr (1, [.int 1, .ref ae, .ref al, .ref au, .ref ao, .ref ar, .ref ak, .ref aw, .ref att, .ref ass])), (ae, .inl (cI, 10, .inl (fun _ => 0)))] H := hP
  have hD : va_D A [(h0, .inr (1, [.int 1, .ref ae, .ref al, .ref au, .ref ao, .ref ar, .ref ak, .ref aw, .ref att, .ref ass])), (ae, .inl (cI, 10, .inl (fun _ => 0)))] := hD
  refine lv_aload_n hx hb dX1_addPlace_15 rfl (lv_at hl 1 rfl) ?_
  refine xg hF kf_X1_15 hK hP 0 rfl rfl dX1_addPlace_16 ?_
  refine lv_iload_n hx hb dX1_addPlace_19 rfl (lv_at hl 0 rfl) ?_
  refine lv_iload_n hx hb dX1_addPlace_20 rfl (lv_at hl 2 rfl) ?_
  refine va_iast hx hb hK hP hD hS 1 0 rfl rfl (xin 0 10 (by decide) (by decide)) dX1_addPlace_21 (fun H locs hP hD hS => ?_)
  obtain ⟨f_1, ef_1⟩ : ∃ g, g = upd (fun _ => 0) (0 : Int32).toNatClampNeg 0 := ⟨_, rfl⟩
  rw [← ef_1] at hP hD
  have hP : va_P D vwCl [(h0, .inr (1, [.int 1, .ref ae, .ref al, .ref au, .ref ao, .ref ar, .ref ak, .ref aw, .ref att, .ref ass])), (ae, .inl (cI, 10, .inl f_1))] H := hP
  have hD : va_D A [(h0, .inr (1, [.int 1, .ref ae, .ref al, .ref au, .ref ao, .ref ar, .ref ak, .ref aw, .ref att, .ref ass])), (ae, .inl (cI, 10, .inl f_1))] := hD
  refine lv_iload_n hx hb dX1_addPlace_22 rfl (lv_at hl 0 rfl) ?_
  exact W.iret (v := 0) hx hb hr (fun t ht hW => ⟨⟨0, (), rfl, rfl, by rw [ht]; exact hP.sub [] rfl, hD.sub [] (by decide) rfl⟩, hS.F ht⟩) hS.2.2 dX1_addPlace_23 hlk
set_option maxHeartbeats 4000000 in
set_option maxRecDepth 100000 in
theorem c_X0_measure (l : Launch) (D : va_G) (cI cJ cZ cS : ClassId) (sa : Nat → Nat) (sz : Nat) (h0 : Nat) (an : Nat) (q1 : Nat) (be : Nat) (bl : Nat) (bu : Nat) (bo : Nat) (br : Nat) (bk : Nat) (bw : Nat) (btt : Nat) (bss : Nat) : Met l yX0_measure (Cond.code yX0_measure cX0_measure 4 none :: wsU) ({ frames := 0, cells := 0, slots := 0, locals := 0 }) (va_Pc [.ref h0, .ref q1] (XW D (xT cI cJ cZ cS) sa [(h0, .inr (0, [.int 0, .ref an])), (q1, .inr (1, [.int 0, .ref be, .ref bl, .ref bu, .ref bo, .ref br, .ref bk, .ref bw, .ref btt, .ref bss]))] sz)) (XQv (fun _ : Unit => True) D (fun _ : Unit => [(h0, .inr (0, [.int 0, .ref an])), (q1, .inr (1, [.int 0, .ref be, .ref bl, .ref bu, .ref bo, .ref br, .ref bk, .ref bw, .ref btt, .ref bss]))]) (va_A [(h0, .inr (0, [.int 0, .ref an])), (q1, .inr (1, [.int 0, .ref be, .ref bl, .ref bu, .ref bo, .ref br, .ref bk, .ref bw, .ref btt, .ref bss]))] sz)) 0 0 (va_A [(h0, .inr (0, [.int 0, .ref an])), (q1, .inr (1, [.int 0, .ref be, .ref bl, .ref bu, .ref bo, .ref br, .ref bk, .ref bw, .ref btt, .ref bss]))] sz) := by
  refine xhw (QA := fun A => XQv (fun _ : Unit => True) D (fun _ : Unit => [(h0, .inr (0, [.int 0, .ref an])), (q1, .inr (1, [.int 0, .ref be, .ref bl, .ref bu, .ref bo, .ref br, .ref bk, .ref bw, .ref btt, .ref bss]))]) A) (by decide) (Nat.le_of_ble_eq_true rfl) ?_
  intro p e s m below meth c ls A hF hr hlk hin hsz hP hK hD hN hA hS hl
  have hF : CallFix p m c cX0_measure 4 s _ _ RX0 := hF
  have hx := hF.1
  have hb := hF.2.1
  have hml := hF.2.2.1
  have hown := hF.2.2.2.1
  have hu : ∀ w ∈ wsU, w.before _ s = true := fun w h => hF.2.2.2.2 w (List.mem_cons_of_mem _ h)
  have hl : lv_has ls 4 [(0, .ref h0), (1, .ref q1)] := hl
  refine lv_aload_n hx hb dX0_measure_0 rfl (lv_at hl 0 rfl) ?_
  refine lv_aload_n hx hb dX0_measure_1 rfl (lv_at hl 1 rfl) ?_
  refine xg hF kf_X0_19 hK hP 1 rfl rfl dX0_measure_2 ?_
  refine xp hF kf_X0_9 tyX0_ok nmX0 hK hP hD hS 0 rfl rfl rfl rfl (Nat.le_of_ble_eq_true rfl) dX0_measure_5 (fun H locs hP hD hS => ?_)
  have hP : va_P D vwCl [(h0, .inr (0, [.int 0, .ref an])), (q1, .inr (1, [.int 0, .ref be, .ref bl, .ref bu, .ref bo, .ref br, .ref bk, .ref bw, .ref btt, .ref bss]))] H := hP
  have hD : va_D A [(h0, .inr (0, [.int 0, .ref an])), (q1, .inr (1, [.int 0, .ref be, .ref bl, .ref bu, .ref bo, .ref br, .ref bk, .ref bw, .ref btt, .ref bss]))] := hD
  refine lv_iconst (v := 0) hx hb dX0_measure_8 (by decide) ?_
  refine lv_istore_n (lv' := [(2, .int 0), (0, .ref h0), (1, .ref q1)]) hx hb dX0_measure_9 rfl hl (by decide) rfl (fun ls hl => ?_)
  refine lv_iload_n hx hb dX0_measure_10 rfl (lv_at hl 0 rfl) ?_
  refine lv_aload_n hx hb dX0_measure_11 rfl (lv_at hl 1 rfl) ?_
  refine xg hF kf_X0_9 hK hP 0 rfl rfl dX0_measure_12 ?_
  refine lv_icmp_ge (tgt := 66) hx hb dX0_measure_15 (by decide) (fun c_1 => ?_) (fun c_1 => absurd (by decide) c_1)
  refine lv_iconst (v := 0) hx hb dX0_measure_66 (by decide) ?_
  refine lv_istore_n (lv' := [(2, .int 0), (0, .ref h0), (1, .ref q1)]) hx hb dX0_measure_67 rfl hl (by decide) rfl (fun ls hl => ?_)
  refine lv_iload_n hx hb dX0_measure_68 rfl (lv_at hl 0 rfl) ?_
  refine lv_aload_n hx hb dX0_measure_69 rfl (lv_at hl 1 rfl) ?_
  refine xg hF kf_X0_9 hK hP 0 rfl rfl dX0_measure_70 ?_
  refine lv_icmp_ge (tgt := 87) hx hb dX0_measure_73 (by decide) (fun c_2 => ?_) (fun c_2 => absurd (by decide) c_2)
  exact W.vret hx hb hr (fun t ht hW => ⟨⟨(), rfl, trivial, by rw [ht]; exact hP.sub [0, 1] rfl, hD.sub [0, 1] (by decide) rfl⟩, hS.F ht⟩) hS.2.2 dX0_measure_87 hlk
set_option maxHeartbeats 4000000 in
set_option maxRecDepth 100000 in
theorem c_X0_hasLoop (l : Launch) (D : va_G) (cI cJ cZ cS : ClassId) (sa : Nat → Nat) (sz : Nat) (h0 : Nat) (an : Nat) : Met l yX0_hasLoop (Cond.code yX0_hasLoop cX0_hasLoop 2 (some .boolean) :: wsU) ({ frames := 0, cells := 0, slots := 0, locals := 0 }) (va_Pc [.ref h0] (XW D (xT cI cJ cZ cS) sa [(h0, .inr (0, [.int 0, .ref an]))] sz)) (vp_Si (fun r : Int32 => r = 0)) 0 0 (fun _ => False) := by
  refine xh (by decide) (Nat.le_of_ble_eq_true rfl) ?_
  intro p e s m below meth c ls hF hr hlk hin hsz hP hK hD hN hl
  have hF : CallFix p m c cX0_hasLoop 2 s _ _ RX0 := hF
  have hx := hF.1
  have hb := hF.2.1
  have hml := hF.2.2.1
  have hown := hF.2.2.2.1
  have hu : ∀ w ∈ wsU, w.before _ s = true := fun w h => hF.2.2.2.2 w (List.mem_cons_of_mem _ h)
  have hl : lv_has ls 2 [(0, .ref h0)] := hl
  refine lv_iconst (v := 0) hx hb dX0_hasLoop_0 (by decide) ?_
  refine lv_istore_n (lv' := [(1, .int 0), (0, .ref h0)]) hx hb dX0_hasLoop_1 rfl hl (by decide) rfl (fun ls hl => ?_)
  refine lv_iload_n hx hb dX0_hasLoop_2 rfl (lv_at hl 0 rfl) ?_
  refine lv_aload_n hx hb dX0_hasLoop_3 rfl (lv_at hl 1 rfl) ?_
  refine xg hF kf_X0_9 hK hP 0 rfl rfl dX0_hasLoop_4 ?_
  refine lv_icmp_ge (tgt := 27) hx hb dX0_hasLoop_7 (by decide) (fun c_1 => ?_) (fun c_1 => absurd (by decide) c_1)
  refine lv_iconst (v := 0) hx hb dX0_hasLoop_27 (by decide) ?_
  exact W.zret (v := 0) hx hb hr rfl (fun t ht hW => ⟨0, rfl, rfl, ht⟩) (fun q h => by cases h) dX0_hasLoop_28 hlk
set_option maxHeartbeats 4000000 in
set_option maxRecDepth 100000 in
theorem c_X0_loopSet (l : Launch) (D : va_G) (cI cJ cZ cS : ClassId) (sa : Nat → Nat) (sz : Nat) (h0 : Nat) (an : Nat) : Met l yX0_loopSet (Cond.code yX0_loopSet cX0_loopSet 4 (some .int) :: wsU) ({ frames := 0, cells := 0, slots := 0, locals := 0 }) (va_Pc [.ref h0] (XW D (xT cI cJ cZ cS) sa [(h0, .inr (0, [.int 0, .ref an]))] sz)) (vp_Si (fun r : Int32 => r = 0)) 0 0 (fun _ => False) := by
  refine xh (by decide) (Nat.le_of_ble_eq_true rfl) ?_
  intro p e s m below meth c ls hF hr hlk hin hsz hP hK hD hN hl
  have hF : CallFix p m c cX0_loopSet 4 s _ _ RX0 := hF
  have hx := hF.1
  have hb := hF.2.1
  have hml := hF.2.2.1
  have hown := hF.2.2.2.1
  have hu : ∀ w ∈ wsU, w.before _ s = true := fun w h => hF.2.2.2.2 w (List.mem_cons_of_mem _ h)
  have hl : lv_has ls 4 [(0, .ref h0)] := hl
  refine lv_iconst (v := 0) hx hb dX0_loopSet_0 (by decide) ?_
  refine lv_istore_n (lv' := [(1, .int 0), (0, .ref h0)]) hx hb dX0_loopSet_1 rfl hl (by decide) rfl (fun ls hl => ?_)
  refine lv_iconst (v := 0) hx hb dX0_loopSet_2 (by decide) ?_
  refine lv_istore_n (lv' := [(2, .int 0), (1, .int 0), (0, .ref h0)]) hx hb dX0_loopSet_3 rfl hl (by decide) rfl (fun ls hl => ?_)
  refine lv_iload_n hx hb dX0_loopSet_4 rfl (lv_at hl 0 rfl) ?_
  refine lv_aload_n hx hb dX0_loopSet_5 rfl (lv_at hl 2 rfl) ?_
  refine xg hF kf_X0_9 hK hP 0 rfl rfl dX0_loopSet_6 ?_
  refine lv_icmp_ge (tgt := 58) hx hb dX0_loopSet_9 (by decide) (fun c_1 => ?_) (fun c_1 => absurd (by decide) c_1)
  refine lv_iload_n hx hb dX0_loopSet_58 rfl (lv_at hl 1 rfl) ?_
  exact W.iret (v := 0) hx hb hr (fun t ht hW => ⟨0, rfl, rfl, ht⟩) (fun q h => by cases h) dX0_loopSet_59 hlk
set_option maxHeartbeats 4000000 in
set_option maxRecDepth 100000 in
theorem c_X0_homeOf (l : Launch) (D : va_G) (cI cJ cZ cS : ClassId) (sa : Nat → Nat) (sz : Nat) (h0 : Nat) (an : Nat) (q1 : Nat) : Met l yX0_homeOf (Cond.code yX0_homeOf cX0_homeOf 6 (some .int) :: wsU) ({ frames := 0, cells := 0, slots := 0, locals := 0 }) (va_Pc [.ref h0, .ref q1] (XW D (xT cI cJ cZ cS) sa [(h0, .inr (0, [.int 0, .ref an]))] sz)) (vp_Si (fun r : Int32 => r = (-1))) 0 0 (fun _ => False) := by
  refine xh (by decide) (Nat.le_of_ble_eq_true rfl) ?_
  intro p e s m below meth c ls hF hr hlk hin hsz hP hK hD hN hl
  have hF : CallFix p m c cX0_homeOf 6 s _ _ RX0 := hF
  have hx := hF.1
  have hb := hF.2.1
  have hml := hF.2.2.1
  have hown := hF.2.2.2.1
  have hu : ∀ w ∈ wsU, w.before _ s = true := fun w h => hF.2.2.2.2 w (List.mem_cons_of_mem _ h)
  have hl : lv_has ls 6 [(0, .ref h0), (1, .ref q1)] := hl
  refine lv_iconst (v := (-1)) hx hb dX0_homeOf_0 (by decide) ?_
  refine lv_istore_n (lv' := [(2, .int (-1)), (0, .ref h0), (1, .ref q1)]) hx hb dX0_homeOf_1 rfl hl (by decide) rfl (fun ls hl => ?_)
  refine lv_ldc (v := 1000000000) hx hb hown (hu _ uw44) dX0_homeOf_2 ?_
  refine lv_istore_n (lv' := [(3, .int 1000000000), (2, .int (-1)), (0, .ref h0), (1, .ref q1)]) hx hb dX0_homeOf_4 rfl hl (by decide) rfl (fun ls hl => ?_)
  refine lv_iconst (v := 0) hx hb dX0_homeOf_5 (by decide) ?_
  refine lv_istore (lv' := [(4, .int 0), (3, .int 1000000000), (2, .int (-1)), (0, .ref h0), (1, .ref q1)]) hx hb dX0_homeOf_6 hl (by decide) rfl (fun ls hl => ?_)
  refine lv_iload hx hb dX0_homeOf_8 (lv_at hl 0 rfl) ?_
  refine lv_aload_n hx hb dX0_homeOf_10 rfl (lv_at hl 3 rfl) ?_
  refine xg hF kf_X0_9 hK hP 0 rfl rfl dX0_homeOf_11 ?_
  refine lv_icmp_ge (tgt := 44) hx hb dX0_homeOf_14 (by decide) (fun c_1 => ?_) (fun c_1 => absurd (by decide) c_1)
  refine lv_iload_n hx hb dX0_homeOf_44 rfl (lv_at hl 2 rfl) ?_
  exact W.iret (v := (-1)) hx hb hr (fun t ht hW => ⟨(-1), rfl, rfl, ht⟩) (fun q h => by cases h) dX0_homeOf_45 hlk
set_option maxHeartbeats 4000000 in
set_option maxRecDepth 100000 in
theorem c_X0_leastTrip (l : Launch) (D : va_G) (cI cJ cZ cS : ClassId) (sa : Nat → Nat) (sz : Nat) (h0 : Nat) (an : Nat) (q1 : Nat) : Met l yX0_leastTrip (Cond.code yX0_leastTrip cX0_leastTrip 3 (some .int) :: wsU) ({ frames := 1, cells := 0, slots := 0, locals := 25 }) (va_Pc [.ref h0, .ref q1] (XW D (xT cI cJ cZ cS) sa [(h0, .inr (0, [.int 0, .ref an]))] sz)) (vp_Si (fun r : Int32 => r = 1000000000)) 0 0 (fun _ => False) := by
  refine xh (by decide) (Nat.le_of_ble_eq_true rfl) ?_
  intro p e s m below meth c ls hF hr hlk hin hsz hP hK hD hN hl
  have hF : CallFix p m c cX0_leastTrip 3 s _ _ RX0 := hF
  have hx := hF.1
  have hb := hF.2.1
  have hml := hF.2.2.1
  have hown := hF.2.2.2.1
  have hu : ∀ w ∈ wsU, w.before _ s = true := fun w h => hF.2.2.2.2 w (List.mem_cons_of_mem _ h)
  have hl : lv_has ls 3 [(0, .ref h0), (1, .ref q1)] := hl
  refine lv_aload_n hx hb dX0_leastTrip_0 rfl (lv_at hl 0 rfl) ?_
  refine lv_aload_n hx hb dX0_leastTrip_1 rfl (lv_at hl 1 rfl) ?_
  refine xc_Vr hF (c_X0_homeOf l D cI cJ cZ cS sa s.heap.size h0 an q1 ) kv_X0_73 ⟨rfl, rfl, Nat.le_of_ble_eq_true rfl, Nat.le_of_ble_eq_true rfl⟩ ⟨Nat.le_of_ble_eq_true rfl, Nat.le_of_ble_eq_true rfl⟩ hK hN hP hD [0] rfl rfl 0 rfl rfl rfl rfl hl.1 rfl (Nat.le_of_ble_eq_true rfl) dX0_leastTrip_2 (fun r_1 hw_r_1 => ?_)
  subst hw_r_1
  refine lv_istore_n (lv' := [(2, .int (-1)), (0, .ref h0), (1, .ref q1)]) hx hb dX0_leastTrip_5 rfl hl (by decide) rfl (fun ls hl => ?_)
  refine lv_iload_n hx hb dX0_leastTrip_6 rfl (lv_at hl 0 rfl) ?_
  refine lv_if_ge (tgt := 15) hx hb dX0_leastTrip_7 (by decide) (fun c_2 => absurd c_2 (by decide)) (fun c_2 => ?_)
  refine lv_ldc (v := 1000000000) hx hb hown (hu _ uw44) dX0_leastTrip_10 ?_
  refine lv_goto (tgt := 21) hx hb dX0_leastTrip_12 (by decide) ?_
  exact W.iret (v := 1000000000) hx hb hr (fun t ht hW => ⟨1000000000, rfl, rfl, ht⟩) (fun q h => by cases h) dX0_leastTrip_21 hlk
set_option maxHeartbeats 4000000 in
set_option maxRecDepth 100000 in
theorem c_X5_climb (l : Launch) (D : va_G) (cI cJ cZ cS : ClassId) (sa : Nat → Nat) (sz : Nat) (h0 : Nat) (ah : Nat) (ac : Nat) (aq : Nat) (q1 : Nat) (be : Nat) (bl : Nat) (bu : Nat) (bo : Nat) (br : Nat) (bk : Nat) (bw : Nat) (btt : Nat) (bss : Nat) : Met l yX5_climb (Cond.code yX5_climb cX5_climb 3 none :: wsU) ({ frames := 0, cells := 0, slots := 0, locals := 0 }) (va_Pc [.ref h0, .ref q1] (XW D (xT cI cJ cZ cS) sa [(h0, .inr (5, [.ref ah, .ref ac, .ref aq])), (q1, .inr (1, [.int 0, .ref be, .ref bl, .ref bu, .ref bo, .ref br, .ref bk, .ref bw, .ref btt, .ref bss]))] sz)) (va_Sv (fun _ => True)) 0 0 (fun _ => False) := by
  refine xh (by decide) (Nat.le_of_ble_eq_true rfl) ?_
  intro p e s m below meth c ls hF hr hlk hin hsz hP hK hD hN hl
  have hF : CallFix p m c cX5_climb 3 s _ _ RX5 := hF
  have hx := hF.1
  have hb := hF.2.1
  have hml := hF.2.2.1
  have hown := hF.2.2.2.1
  have hu : ∀ w ∈ wsU, w.before _ s = true := fun w h => hF.2.2.2.2 w (List.mem_cons_of_mem _ h)
  have hl : lv_has ls 3 [(0, .ref h0), (1, .ref q1)] := hl
  refine lv_iconst (v := 0) hx hb dX5_climb_0 (by decide) ?_
  refine lv_istore_n (lv' := [(2, .int 0), (0, .ref h0), (1, .ref q1)]) hx hb dX5_climb_1 rfl hl (by decide) rfl (fun ls hl => ?_)
  refine lv_iload_n hx hb dX5_climb_2 rfl (lv_at hl 0 rfl) ?_
  refine lv_aload_n hx hb dX5_climb_3 rfl (lv_at hl 2 rfl) ?_
  refine xg hF kf_X5_22 hK hP 1 rfl rfl dX5_climb_4 ?_
  refine lv_icmp_ge (tgt := 23) hx hb dX5_climb_7 (by decide) (fun c_1 => ?_) (fun c_1 => absurd (by decide) c_1)
  refine lv_iconst (v := 0) hx hb dX5_climb_23 (by decide) ?_
  refine lv_istore_n (lv' := [(2, .int 0), (0, .ref h0), (1, .ref q1)]) hx hb dX5_climb_24 rfl hl (by decide) rfl (fun ls hl => ?_)
  refine lv_iload_n hx hb dX5_climb_25 rfl (lv_at hl 0 rfl) ?_
  refine lv_aload_n hx hb dX5_climb_26 rfl (lv_at hl 2 rfl) ?_
  refine xg hF kf_X5_22 hK hP 1 rfl rfl dX5_climb_27 ?_
  refine lv_icmp_ge (tgt := 54) hx hb dX5_climb_30 (by decide) (fun c_2 => ?_) (fun c_2 => absurd (by decide) c_2)
  exact W.vret hx hb hr (fun t ht hW => ⟨rfl, trivial, ht⟩) (fun q h => by cases h) dX5_climb_54 hlk
set_option maxHeartbeats 4000000 in
set_option maxRecDepth 100000 in
theorem c_X5_doFit (l : Launch) (D : va_G) (cI cJ cZ cS : ClassId) (sa : Nat → Nat) (sz : Nat) (h0 : Nat) (ah : Nat) (ac : Nat) (aq : Nat) (q1 : Nat) (be : Nat) (bl : Nat) (bu : Nat) (bo : Nat) (br : Nat) (bk : Nat) (bw : Nat) (btt : Nat) (bss : Nat) : Met l yX5_doFit (Cond.code yX5_doFit cX5_doFit 4 (some .boolean) :: wsU) ({ frames := 0, cells := 0, slots := 0, locals := 0 }) (va_Pc [.ref h0, .ref q1] (XW D (xT cI cJ cZ cS) sa [(h0, .inr (5, [.ref ah, .ref ac, .ref aq])), (q1, .inr (1, [.int 0, .ref be, .ref bl, .ref bu, .ref bo, .ref br, .ref bk, .ref bw, .ref btt, .ref bss]))] sz)) (vp_Si (fun r : Int32 => r = 1)) 0 0 (fun _ => False) := by
  refine xh (by decide) (Nat.le_of_ble_eq_true rfl) ?_
  intro p e s m below meth c ls hF hr hlk hin hsz hP hK hD hN hl
  have hF : CallFix p m c cX5_doFit 4 s _ _ RX5 := hF
  have hx := hF.1
  have hb := hF.2.1
  have hml := hF.2.2.1
  have hown := hF.2.2.2.1
  have hu : ∀ w ∈ wsU, w.before _ s = true := fun w h => hF.2.2.2.2 w (List.mem_cons_of_mem _ h)
  have hl : lv_has ls 4 [(0, .ref h0), (1, .ref q1)] := hl
  refine lv_iconst (v := 0) hx hb dX5_doFit_0 (by decide) ?_
  refine lv_istore_n (lv' := [(2, .int 0), (0, .ref h0), (1, .ref q1)]) hx hb dX5_doFit_1 rfl hl (by decide) rfl (fun ls hl => ?_)
  refine lv_iload_n hx hb dX5_doFit_2 rfl (lv_at hl 0 rfl) ?_
  refine lv_aload_n hx hb dX5_doFit_3 rfl (lv_at hl 2 rfl) ?_
  refine xg hF kf_X5_22 hK hP 1 rfl rfl dX5_doFit_4 ?_
  refine lv_icmp_ge (tgt := 67) hx hb dX5_doFit_7 (by decide) (fun c_1 => ?_) (fun c_1 => absurd (by decide) c_1)
  refine lv_iconst (v := 1) hx hb dX5_doFit_67 (by decide) ?_
  exact W.zret (v := 1) hx hb hr rfl (fun t ht hW => ⟨1, rfl, rfl, ht⟩) (fun q h => by cases h) dX5_doFit_68 hlk
set_option maxHeartbeats 4000000 in
set_option maxRecDepth 100000 in
theorem c_X5_mostOffPaper (l : Launch) (D : va_G) (cI cJ cZ cS : ClassId) (sa : Nat → Nat) (sz : Nat) (q1 : Nat) (be : Nat) (bl : Nat) (bu : Nat) (bo : Nat) (br : Nat) (bk : Nat) (bw : Nat) (btt : Nat) (bss : Nat) : Met l yX5_mostOffPaper (Cond.code yX5_mostOffPaper cX5_mostOffPaper 4 (some .int) :: wsU) ({ frames := 0, cells := 0, slots := 0, locals := 0 }) (va_Pc [.ref q1] (XW D (xT cI cJ cZ cS) sa [(q1, .inr (1, [.int 0, .ref be, .ref bl, .ref bu, .ref bo, .ref br, .ref bk, .ref bw, .ref btt, .ref bss]))] sz)) (vp_Si (fun r : Int32 => r = (-1))) 0 0 (fun _ => False) := by
  refine xh (by decide) (Nat.le_of_ble_eq_true rfl) ?_
  intro p e s m below meth c ls hF hr hlk hin hsz hP hK hD hN hl
  have hF : CallFix p m c cX5_mostOffPaper 4 s _ _ RX5 := hF
  have hx := hF.1
  have hb := hF.2.1
  have hml := hF.2.2.1
  have hown := hF.2.2.2.1
  have hu : ∀ w ∈ wsU, w.before _ s = true := fun w h => hF.2.2.2.2 w (List.mem_cons_of_mem _ h)
  have hl : lv_has ls 4 [(0, .ref q1)] := hl
  refine lv_iconst (v := (-1)) hx hb dX5_mostOffPaper_0 (by decide) ?_
  refine lv_istore_n (lv' := [(1, .int (-1)), (0, .ref q1)]) hx hb dX5_mostOffPaper_1 rfl hl (by decide) rfl (fun ls hl => ?_)
  refine lv_iconst (v := 0) hx hb dX5_mostOffPaper_2 (by decide) ?_
  refine lv_istore_n (lv' := [(2, .int 0), (1, .int (-1)), (0, .ref q1)]) hx hb dX5_mostOffPaper_3 rfl hl (by decide) rfl (fun ls hl => ?_)
  refine lv_iload_n hx hb dX5_mostOffPaper_4 rfl (lv_at hl 0 rfl) ?_
  refine lv_aload_n hx hb dX5_mostOffPaper_5 rfl (lv_at hl 2 rfl) ?_
  refine xg hF kf_X5_22 hK hP 0 rfl rfl dX5_mostOffPaper_6 ?_
  refine lv_icmp_ge (tgt := 69) hx hb dX5_mostOffPaper_9 (by decide) (fun c_1 => ?_) (fun c_1 => absurd (by decide) c_1)
  refine lv_iload_n hx hb dX5_mostOffPaper_69 rfl (lv_at hl 1 rfl) ?_
  exact W.iret (v := (-1)) hx hb hr (fun t ht hW => ⟨(-1), rfl, rfl, ht⟩) (fun q h => by cases h) dX5_mostOffPaper_70 hlk
set_option maxHeartbeats 4000000 in
set_option maxRecDepth 100000 in
theorem c_X2_learnIn (l : Launch) (D : va_G) (cI cJ cZ cS : ClassId) (sa : Nat → Nat) (sz : Nat) (h0 : Nat) (q1 : Nat) (be : Nat) (bl : Nat) (bu : Nat) (bo : Nat) (br : Nat) (bk : Nat) (bw : Nat) (btt : Nat) (bss : Nat) (bWn : Nat) (bWp : Nat) : Met l yX2_learnIn (Cond.code yX2_learnIn cX2_learnIn 5 (some .int) :: wsU) ({ frames := 0, cells := 0, slots := 0, locals := 0 }) (va_Pc [.ref h0, .ref q1] (XW D (xT cI cJ cZ cS) sa [(h0, .inr (2, [.int 0, .int 0])), (q1, .inr (1, [.int 0, .ref be, .ref bl, .ref bu, .ref bo, .ref br, .ref bk, .ref bw, .ref btt, .ref bss])), (bw, .inr (3, [.int 0, .ref bWn, .ref bWp]))] sz)) (XQi (fun (r : Int32) (_ : Unit) => r = 0) D (fun _ : Unit => [(h0, .inr (2, [.int 0, .int 0])), (q1, .inr (1, [.int 0, .ref be, .ref bl, .ref bu, .ref bo, .ref br, .ref bk, .ref bw, .ref btt, .ref bss])), (bw, .inr (3, [.int 0, .ref bWn, .ref bWp]))]) (va_A [(h0, .inr (2, [.int 0, .int 0])), (q1, .inr (1, [.int 0, .ref be, .ref bl, .ref bu, .ref bo, .ref br, .ref bk, .ref bw, .ref btt, .ref bss])), (bw, .inr (3, [.int 0, .ref bWn, .ref bWp]))] sz)) 0 0 (va_A [(h0, .inr (2, [.int 0, .int 0])), (q1, .inr (1, [.int 0, .ref be, .ref bl, .ref bu, .ref bo, .ref br, .ref bk, .ref bw, .ref btt, .ref bss])), (bw, .inr (3, [.int 0, .ref bWn, .ref bWp]))] sz) := by
  refine xhw (QA := fun A => XQi (fun (r : Int32) (_ : Unit) => r = 0) D (fun _ : Unit => [(h0, .inr (2, [.int 0, .int 0])), (q1, .inr (1, [.int 0, .ref be, .ref bl, .ref bu, .ref bo, .ref br, .ref bk, .ref bw, .ref btt, .ref bss])), (bw, .inr (3, [.int 0, .ref bWn, .ref bWp]))]) A) (by decide) (Nat.le_of_ble_eq_true rfl) ?_
  intro p e s m below meth c ls A hF hr hlk hin hsz hP hK hD hN hA hS hl
  have hF : CallFix p m c cX2_learnIn 5 s _ _ RX2 := hF
  have hx := hF.1
  have hb := hF.2.1
  have hml := hF.2.2.1
  have hown := hF.2.2.2.1
  have hu : ∀ w ∈ wsU, w.before _ s = true := fun w h => hF.2.2.2.2 w (List.mem_cons_of_mem _ h)
  have hl : lv_has ls 5 [(0, .ref h0), (1, .ref q1)] := hl
  refine lv_aload_n hx hb dX2_learnIn_0 rfl (lv_at hl 0 rfl) ?_
  refine lv_iconst (v := 0) hx hb dX2_learnIn_1 (by decide) ?_
  refine xp hF kf_X2_7 tyX2_ok nmX2 hK hP hD hS 0 rfl rfl rfl rfl (Nat.le_of_ble_eq_true rfl) dX2_learnIn_2 (fun H locs hP hD hS => ?_)
  have hP : va_P D vwCl [(h0, .inr (2, [.int 0, .int 0])), (q1, .inr (1, [.int 0, .ref be, .ref bl, .ref bu, .ref bo, .ref br, .ref bk, .ref bw, .ref btt, .ref bss])), (bw, .inr (3, [.int 0, .ref bWn, .ref bWp]))] H := hP
  have hD : va_D A [(h0, .inr (2, [.int 0, .int 0])), (q1, .inr (1, [.int 0, .ref be, .ref bl, .ref bu, .ref bo, .ref br, .ref bk, .ref bw, .ref btt, .ref bss])), (bw, .inr (3, [.int 0, .ref bWn, .ref bWp]))] := hD
  refine lv_iconst (v := 0) hx hb dX2_learnIn_5 (by decide) ?_
  refine lv_istore_n (lv' := [(2, .int 0), (0, .ref h0), (1, .ref q1)]) hx hb dX2_learnIn_6 rfl hl (by decide) rfl (fun ls hl => ?_)
  refine lv_iconst (v := 0) hx hb dX2_learnIn_7 (by decide) ?_
  refine lv_istore_n (lv' := [(3, .int 0), (2, .int 0), (0, .ref h0), (1, .ref q1)]) hx hb dX2_learnIn_8 rfl hl (by decide) rfl (fun ls hl => ?_)
  refine lv_iload_n hx hb dX2_learnIn_9 rfl (lv_at hl 0 rfl) ?_
  refine lv_bipush (v := 50) hx hb dX2_learnIn_10 (by decide) ?_
  refine lv_icmp_ge (tgt := 82) hx hb dX2_learnIn_12 (by decide) (fun c_1 => absurd c_1 (by decide)) (fun c_1 => ?_)
  refine lv_aload_n hx hb dX2_learnIn_15 rfl (lv_at hl 2 rfl) ?_
  refine lv_iconst (v := 0) hx hb dX2_learnIn_16 (by decide) ?_
  refine xp hF kf_X2_13 tyX2_ok nmX2 hK hP hD hS 0 rfl rfl rfl rfl (Nat.le_of_ble_eq_true rfl) dX2_learnIn_17 (fun H locs hP hD hS => ?_)
  have hP : va_P D vwCl [(h0, .inr (2, [.int 0, .int 0])), (q1, .inr (1, [.int 0, .ref be, .ref bl, .ref bu, .ref bo, .ref br, .ref bk, .ref bw, .ref btt, .ref bss])), (bw, .inr (3, [.int 0, .ref bWn, .ref bWp]))] H := hP
  have hD : va_D A [(h0, .inr (2, [.int 0, .int 0])), (q1, .inr (1, [.int 0, .ref be, .ref bl, .ref bu, .ref bo, .ref br, .ref bk, .ref bw, .ref btt, .ref bss])), (bw, .inr (3, [.int 0, .ref bWn, .ref bWp]))] := hD
  refine lv_iconst (v := 0) hx hb dX2_learnIn_20 (by decide) ?_
  refine lv_istore (lv' := [(4, .int 0), (3, .int 0), (2, .int 0), (0, .ref h0), (1, .ref q1)]) hx hb dX2_learnIn_21 hl (by decide) rfl (fun ls hl => ?_)
  refine lv_iload hx hb dX2_learnIn_23 (lv_at hl 0 rfl) ?_
  refine lv_aload_n hx hb dX2_learnIn_25 rfl (lv_at hl 4 rfl) ?_
  refine xg hF kf_X2_17 hK hP 1 rfl rfl dX2_learnIn_26 ?_
  refine xg hF kf_X2_23 hK hP 2 rfl rfl dX2_learnIn_29 ?_
  refine lv_icmp_ge (tgt := 64) hx hb dX2_learnIn_32 (by decide) (fun c_2 => ?_) (fun c_2 => absurd (by decide) c_2)
  refine lv_aload_n hx hb dX2_learnIn_64 rfl (lv_at hl 3 rfl) ?_
  refine xg hF kf_X2_13 hK hP 0 rfl rfl dX2_learnIn_65 ?_
  refine lv_if_ne (tgt := 73) hx hb dX2_learnIn_68 (by decide) (fun c_3 => absurd (by decide) c_3) (fun c_3 => ?_)
  refine lv_iload_n hx hb dX2_learnIn_71 rfl (lv_at hl 2 rfl) ?_
  exact W.iret (v := 0) hx hb hr (fun t ht hW => ⟨⟨0, (), rfl, rfl, by rw [ht]; exact hP.sub [0, 1, 2] rfl, hD.sub [0, 1, 2] (by decide) rfl⟩, hS.F ht⟩) hS.2.2 dX2_learnIn_72 hlk
set_option maxHeartbeats 4000000 in
set_option maxRecDepth 100000 in
theorem c_X3_become (l : Launch) (D : va_G) (cI cJ cZ cS : ClassId) (sa : Nat → Nat) (sz : Nat) (h0 : Nat) (an : Nat) (ap : Nat) (q1 : Nat) (bn : Nat) (bp : Nat) : Met l yX3_become (Cond.code yX3_become cX3_become 2 none :: wsU) ({ frames := 1, cells := 0, slots := 0, locals := 60 }) (va_Pc [.ref h0, .ref q1] (XW D (xT cI cJ cZ cS) sa [(h0, .inr (3, [.int 0, .ref an, .ref ap])), (an, .inl (cI, 8, .inl (fun _ => 0))), (ap, .inl (cI, 48, .inl (fun _ => 0))), (q1, .inr (3, [.int 0, .ref bn, .ref bp])), (bn, .inl (cI, 8, .inl (fun _ => 0))), (bp, .inl (cI, 48, .inl (fun _ => 0)))] sz)) (XQv (fun _ : Unit => True) D (fun _ : Unit => [(h0, .inr (3, [.int 0, .ref an, .ref ap])), (an, .inl (cI, 8, .inl (fun _ => 0))), (ap, .inl (cI, 48, .inl (fun _ => 0))), (q1, .inr (3, [.int 0, .ref bn, .ref bp])), (bn, .inl (cI, 8, .inl (fun _ => 0))), (bp, .inl (cI, 48, .inl (fun _ => 0)))]) (va_A [(h0, .inr (3, [.int 0, .ref an, .ref ap])), (an, .inl (cI, 8, .inl (fun _ => 0))), (ap, .inl (cI, 48, .inl (fun _ => 0))), (q1, .inr (3, [.int 0, .ref bn, .ref bp])), (bn, .inl (cI, 8, .inl (fun _ => 0))), (bp, .inl (cI, 48, .inl (fun _ => 0)))] sz)) 0 0 (va_A [(h0, .inr (3, [.int 0, .ref an, .ref ap])), (an, .inl (cI, 8, .inl (fun _ => 0))), (ap, .inl (cI, 48, .inl (fun _ => 0))), (q1, .inr (3, [.int 0, .ref bn, .ref bp])), (bn, .inl (cI, 8, .inl (fun _ => 0))), (bp, .inl (cI, 48, .inl (fun _ => 0)))] sz) := by
  refine xhw (QA := fun A => XQv (fun _ : Unit => True) D (fun _ : Unit => [(h0, .inr (3, [.int 0, .ref an, .ref ap])), (an, .inl (cI, 8, .inl (fun _ => 0))), (ap, .inl (cI, 48, .inl (fun _ => 0))), (q1, .inr (3, [.int 0, .ref bn, .ref bp])), (bn, .inl (cI, 8, .inl (fun _ => 0))), (bp, .inl (cI, 48, .inl (fun _ => 0)))]) A) (by decide) (Nat.le_of_ble_eq_true rfl) ?_
  intro p e s m below meth c ls A hF hr hlk hin hsz hP hK hD hN hA hS hl
  have hF : CallFix p m c cX3_become 2 s _ _ RX3 := hF
  have hx := hF.1
  have hb := hF.2.1
  have hml := hF.2.2.1
  have hown := hF.2.2.2.1
  have hu : ∀ w ∈ wsU, w.before _ s = true := fun w h => hF.2.2.2.2 w (List.mem_cons_of_mem _ h)
  have hl : lv_has ls 2 [(0, .ref h0), (1, .ref q1)] := hl
  refine lv_aload_n hx hb dX3_become_0 rfl (lv_at hl 0 rfl) ?_
  refine lv_aload_n hx hb dX3_become_1 rfl (lv_at hl 1 rfl) ?_
  refine xg hF kf_X3_9 hK hP 3 rfl rfl dX3_become_2 ?_
  refine xp hF kf_X3_9 tyX3_ok nmX3 hK hP hD hS 0 rfl rfl rfl rfl (Nat.le_of_ble_eq_true rfl) dX3_become_5 (fun H locs hP hD hS => ?_)
  have hP : va_P D vwCl [(h0, .inr (3, [.int 0, .ref an, .ref ap])), (an, .inl (cI, 8, .inl (fun _ => 0))), (ap, .inl (cI, 48, .inl (fun _ => 0))), (q1, .inr (3, [.int 0, .ref bn, .ref bp])), (bn, .inl (cI, 8, .inl (fun _ => 0))), (bp, .inl (cI, 48, .inl (fun _ => 0)))] H := hP
  have hD : va_D A [(h0, .inr (3, [.int 0, .ref an, .ref ap])), (an, .inl (cI, 8, .inl (fun _ => 0))), (ap, .inl (cI, 48, .inl (fun _ => 0))), (q1, .inr (3, [.int 0, .ref bn, .ref bp])), (bn, .inl (cI, 8, .inl (fun _ => 0))), (bp, .inl (cI, 48, .inl (fun _ => 0)))] := hD
  refine lv_aload_n hx hb dX3_become_8 rfl (lv_at hl 1 rfl) ?_
  refine xg hF kf_X3_15 hK hP 3 rfl rfl dX3_become_9 ?_
  refine lv_iconst (v := 0) hx hb dX3_become_12 (by decide) ?_
  refine lv_aload_n hx hb dX3_become_13 rfl (lv_at hl 0 rfl) ?_
  refine xg hF kf_X3_15 hK hP 0 rfl rfl dX3_become_14 ?_
  refine lv_iconst (v := 0) hx hb dX3_become_17 (by decide) ?_
  refine lv_bipush (v := 8) hx hb dX3_become_18 (by decide) ?_
  refine va_copyi hx hb (hml.trans hl.1.symm) hown (hu _ uw58) (hu _ uw59) (hu _ uw60) (hu _ uw61) hK hP hD hS 4 1 0 0 rfl rfl rfl rfl rfl (by decide) (by decide) (by decide) (by decide) (by decide) (fun _ _ => rfl) (Nat.le_of_ble_eq_true rfl) (by decide) dX3_become_20 (fun H locs hP hD hS => ?_)
  rw [show va_cpy (fun _ => (0 : Int32)) (fun _ => (0 : Int32)) (0 : Int32).toNatClampNeg (0 : Int32).toNatClampNeg (8 : Int32).toNatClampNeg = (fun _ => (0 : Int32)) from xcpy0 _ _ _] at hP hD
  have hP : va_P D vwCl [(h0, .inr (3, [.int 0, .ref an, .ref ap])), (an, .inl (cI, 8, .inl (fun _ => 0))), (ap, .inl (cI, 48, .inl (fun _ => 0))), (q1, .inr (3, [.int 0, .ref bn, .ref bp])), (bn, .inl (cI, 8, .inl (fun _ => 0))), (bp, .inl (cI, 48, .inl (fun _ => 0)))] H := hP
  have hD : va_D A [(h0, .inr (3, [.int 0, .ref an, .ref ap])), (an, .inl (cI, 8, .inl (fun _ => 0))), (ap, .inl (cI, 48, .inl (fun _ => 0))), (q1, .inr (3, [.int 0, .ref bn, .ref bp])), (bn, .inl (cI, 8, .inl (fun _ => 0))), (bp, .inl (cI, 48, .inl (fun _ => 0)))] := hD
  refine lv_aload_n hx hb dX3_become_23 rfl (lv_at hl 1 rfl) ?_
  refine xg hF kf_X3_19 hK hP 3 rfl rfl dX3_become_24 ?_
  refine lv_iconst (v := 0) hx hb dX3_become_27 (by decide) ?_
  refine lv_aload_n hx hb dX3_become_28 rfl (lv_at hl 0 rfl) ?_
  refine xg hF kf_X3_19 hK hP 0 rfl rfl dX3_become_29 ?_
  refine lv_iconst (v := 0) hx hb dX3_become_32 (by decide) ?_
  refine lv_bipush (v := 48) hx hb dX3_become_33 (by decide) ?_
  refine va_copyi hx hb (hml.trans hl.1.symm) hown (hu _ uw58) (hu _ uw59) (hu _ uw60) (hu _ uw61) hK hP hD hS 5 2 0 0 rfl rfl rfl rfl rfl (by decide) (by decide) (by decide) (by decide) (by decide) (fun _ _ => rfl) (Nat.le_of_ble_eq_true rfl) (by decide) dX3_become_35 (fun H locs hP hD hS => ?_)
  rw [show va_cpy (fun _ => (0 : Int32)) (fun _ => (0 : Int32)) (0 : Int32).toNatClampNeg (0 : Int32).toNatClampNeg (48 : Int32).toNatClampNeg = (fun _ => (0 : Int32)) from xcpy0 _ _ _] at hP hD
  have hP : va_P D vwCl [(h0, .inr (3, [.int 0, .ref an, .ref ap])), (an, .inl (cI, 8, .inl (fun _ => 0))), (ap, .inl (cI, 48, .inl (fun _ => 0))), (q1, .inr (3, [.int 0, .ref bn, .ref bp])), (bn, .inl (cI, 8, .inl (fun _ => 0))), (bp, .inl (cI, 48, .inl (fun _ => 0)))] H := hP
  have hD : va_D A [(h0, .inr (3, [.int 0, .ref an, .ref ap])), (an, .inl (cI, 8, .inl (fun _ => 0))), (ap, .inl (cI, 48, .inl (fun _ => 0))), (q1, .inr (3, [.int 0, .ref bn, .ref bp])), (bn, .inl (cI, 8, .inl (fun _ => 0))), (bp, .inl (cI, 48, .inl (fun _ => 0)))] := hD
  exact W.vret hx hb hr (fun t ht hW => ⟨⟨(), rfl, trivial, by rw [ht]; exact hP.sub [0, 1, 2, 3, 4, 5] rfl, hD.sub [0, 1, 2, 3, 4, 5] (by decide) rfl⟩, hS.F ht⟩) hS.2.2 dX3_become_38 hlk
set_option maxHeartbeats 4000000 in
set_option maxRecDepth 100000 in
theorem c_X1_become (l : Launch) (D : va_G) (cI cJ cZ cS : ClassId) (sa : Nat → Nat) (sz : Nat) (h0 : Nat) (ae : Nat) (al : Nat) (au : Nat) (ao : Nat) (ar : Nat) (ak : Nat) (aw : Nat) (att : Nat) (ass : Nat) (aRn : Nat) (aRp : Nat) (aWn : Nat) (aWp : Nat) (q1 : Nat) (be : Nat) (bl : Nat) (bu : Nat) (bo : Nat) (br : Nat) (bk : Nat) (bw : Nat) (btt : Nat) (bss : Nat) (bRn : Nat) (bRp : Nat) (bWn : Nat) (bWp : Nat) : Met l yX1_become (Cond.code yX1_become cX1_become 2 none :: wsU) ({ frames := 2, cells := 0, slots := 0, locals := 81 }) (va_Pc [.ref h0, .ref q1] (XW D (xT cI cJ cZ cS) sa [(h0, .inr (1, [.int 0, .ref ae, .ref al, .ref au, .ref ao, .ref ar, .ref ak, .ref aw, .ref att, .ref ass])), (ae, .inl (cI, 10, .inl (fun _ => 0))), (al, .inl (cI, 100, .inl (fun _ => 0))), (au, .inl (cI, 100, .inl (fun _ => 0))), (ao, .inl (cI, 100, .inl (fun _ => 0))), (ar, .inr (3, [.int 0, .ref aRn, .ref aRp])), (aRn, .inl (cI, 8, .inl (fun _ => 0))), (aRp, .inl (cI, 48, .inl (fun _ => 0))), (ak, .inl (cI, 8, .inl (fun _ => 0))), (aw, .inr (3, [.int 0, .ref aWn, .ref aWp])), (aWn, .inl (cI, 8, .inl (fun _ => 0))), (aWp, .inl (cI, 48, .inl (fun _ => 0))), (att, .inl (cI, 8, .inl (fun _ => 0))), (ass, .inl (cI, 8, .inl (fun _ => 0))), (q1, .inr (1, [.int 0, .ref be, .ref bl, .ref bu, .ref bo, .ref br, .ref bk, .ref bw, .ref btt, .ref bss])), (be, .inl (cI, 10, .inl (fun _ => 0))), (bl, .inl (cI, 100, .inl (fun _ => 0))), (bu, .inl (cI, 100, .inl (fun _ => 0))), (bo, .inl (cI, 100, .inl (fun _ => 0))), (br, .inr (3, [.int 0, .ref bRn, .ref bRp])), (bRn, .inl (cI, 8, .inl (fun _ => 0))), (bRp, .inl (cI, 48, .inl (fun _ => 0))), (bk, .inl (cI, 8, .inl (fun _ => 0))), (bw, .inr (3, [.int 0, .ref bWn, .ref bWp])), (bWn, .inl (cI, 8, .inl (fun _ => 0))), (bWp, .inl (cI, 48, .inl (fun _ => 0))), (btt, .inl (cI, 8, .inl (fun _ => 0))), (bss, .inl (cI, 8, .inl (fun _ => 0)))] sz)) (XQv (fun _ : Unit => True) D (fun _ : Unit => [(h0, .inr (1, [.int 0, .ref ae, .ref al, .ref au, .ref ao, .ref ar, .ref ak, .ref aw, .ref att, .ref ass])), (ae, .inl (cI, 10, .inl (fun _ => 0))), (al, .inl (cI, 100, .inl (fun _ => 0))), (au, .inl (cI, 100, .inl (fun _ => 0))), (ao, .inl (cI, 100, .inl (fun _ => 0))), (ak, .inl (cI, 8, .inl (fun _ => 0))), (att, .inl (cI, 8, .inl (fun _ => 0))), (ass, .inl (cI, 8, .inl (fun _ => 0))), (q1, .inr (1, [.int 0, .ref be, .ref bl, .ref bu, .ref bo, .ref br, .ref bk, .ref bw, .ref btt, .ref bss])), (be, .inl (cI, 10, .inl (fun _ => 0))), (bl, .inl (cI, 100, .inl (fun _ => 0))), (bu, .inl (cI, 100, .inl (fun _ => 0))), (bo, .inl (cI, 100, .inl (fun _ => 0))), (bk, .inl (cI, 8, .inl (fun _ => 0))), (btt, .inl (cI, 8, .inl (fun _ => 0))), (bss, .inl (cI, 8, .inl (fun _ => 0))), (ar, .inr (3, [.int 0, .ref aRn, .ref aRp])), (aRn, .inl (cI, 8, .inl (fun _ => 0))), (aRp, .inl (cI, 48, .inl (fun _ => 0))), (br, .inr (3, [.int 0, .ref bRn, .ref bRp])), (bRn, .inl (cI, 8, .inl (fun _ => 0))), (bRp, .inl (cI, 48, .inl (fun _ => 0))), (aw, .inr (3, [.int 0, .ref aWn, .ref aWp])), (aWn, .inl (cI, 8, .inl (fun _ => 0))), (aWp, .inl (cI, 48, .inl (fun _ => 0))), (bw, .inr (3, [.int 0, .ref bWn, .ref bWp])), (bWn, .inl (cI, 8, .inl (fun _ => 0))), (bWp, .inl (cI, 48, .inl (fun _ => 0)))]) (va_A [(h0, .inr (1, [.int 0, .ref ae, .ref al, .ref au, .ref ao, .ref ar, .ref ak, .ref aw, .ref att, .ref ass])), (ae, .inl (cI, 10, .inl (fun _ => 0))), (al, .inl (cI, 100, .inl (fun _ => 0))), (au, .inl (cI, 100, .inl (fun _ => 0))), (ao, .inl (cI, 100, .inl (fun _ => 0))), (ar, .inr (3, [.int 0, .ref aRn, .ref aRp])), (aRn, .inl (cI, 8, .inl (fun _ => 0))), (aRp, .inl (cI, 48, .inl (fun _ => 0))), (ak, .inl (cI, 8, .inl (fun _ => 0))), (aw, .inr (3, [.int 0, .ref aWn, .ref aWp])), (aWn, .inl (cI, 8, .inl (fun _ => 0))), (aWp, .inl (cI, 48, .inl (fun _ => 0))), (att, .inl (cI, 8, .inl (fun _ => 0))), (ass, .inl (cI, 8, .inl (fun _ => 0))), (q1, .inr (1, [.int 0, .ref be, .ref bl, .ref bu, .ref bo, .ref br, .ref bk, .ref bw, .ref btt, .ref bss])), (be, .inl (cI, 10, .inl (fun _ => 0))), (bl, .inl (cI, 100, .inl (fun _ => 0))), (bu, .inl (cI, 100, .inl (fun _ => 0))), (bo, .inl (cI, 100, .inl (fun _ => 0))), (br, .inr (3, [.int 0, .ref bRn, .ref bRp])), (bRn, .inl (cI, 8, .inl (fun _ => 0))), (bRp, .inl (cI, 48, .inl (fun _ => 0))), (bk, .inl (cI, 8, .inl (fun _ => 0))), (bw, .inr (3, [.int 0, .ref bWn, .ref bWp])), (bWn, .inl (cI, 8, .inl (fun _ => 0))), (bWp, .inl (cI, 48, .inl (fun _ => 0))), (btt, .inl (cI, 8, .inl (fun _ => 0))), (bss, .inl (cI, 8, .inl (fun _ => 0)))] sz)) 0 0 (va_A [(h0, .inr (1, [.int 0, .ref ae, .ref al, .ref au, .ref ao, .ref ar, .ref ak, .ref aw, .ref att, .ref ass])), (ae, .inl (cI, 10, .inl (fun _ => 0))), (al, .inl (cI, 100, .inl (fun _ => 0))), (au, .inl (cI, 100, .inl (fun _ => 0))), (ao, .inl (cI, 100, .inl (fun _ => 0))), (ar, .inr (3, [.int 0, .ref aRn, .ref aRp])), (aRn, .inl (cI, 8, .inl (fun _ => 0))), (aRp, .inl (cI, 48, .inl (fun _ => 0))), (ak, .inl (cI, 8, .inl (fun _ => 0))), (aw, .inr (3, [.int 0, .ref aWn, .ref aWp])), (aWn, .inl (cI, 8, .inl (fun _ => 0))), (aWp, .inl (cI, 48, .inl (fun _ => 0))), (att, .inl (cI, 8, .inl (fun _ => 0))), (ass, .inl (cI, 8, .inl (fun _ => 0))), (q1, .inr (1, [.int 0, .ref be, .ref bl, .ref bu, .ref bo, .ref br, .ref bk, .ref bw, .ref btt, .ref bss])), (be, .inl (cI, 10, .inl (fun _ => 0))), (bl, .inl (cI, 100, .inl (fun _ => 0))), (bu, .inl (cI, 100, .inl (fun _ => 0))), (bo, .inl (cI, 100, .inl (fun _ => 0))), (br, .inr (3, [.int 0, .ref bRn, .ref bRp])), (bRn, .inl (cI, 8, .inl (fun _ => 0))), (bRp, .inl (cI, 48, .inl (fun _ => 0))), (bk, .inl (cI, 8, .inl (fun _ => 0))), (bw, .inr (3, [.int 0, .ref bWn, .ref bWp])), (bWn, .inl (cI, 8, .inl (fun _ => 0))), (bWp, .inl (cI, 48, .inl (fun _ => 0))), (btt, .inl (cI, 8, .inl (fun _ => 0))), (bss, .inl (cI, 8, .inl (fun _ => 0)))] sz) := by
  refine xhw (QA := fun A => XQv (fun _ : Unit => True) D (fun _ : Unit => [(h0, .inr (1, [.int 0, .ref ae, .ref al, .ref au, .ref ao, .ref ar, .ref ak, .ref aw, .ref att, .ref ass])), (ae, .inl (cI, 10, .inl (fun _ => 0))), (al, .inl (cI, 100, .inl (fun _ => 0))), (au, .inl (cI, 100, .inl (fun _ => 0))), (ao, .inl (cI, 100, .inl (fun _ => 0))), (ak, .inl (cI, 8, .inl (fun _ => 0))), (att, .inl (cI, 8, .inl (fun _ => 0))), (ass, .inl (cI, 8, .inl (fun _ => 0))), (q1, .inr (1, [.int 0, .ref be, .ref bl, .ref bu, .ref bo, .ref br, .ref bk, .ref bw, .ref btt, .ref bss])), (be, .inl (cI, 10, .inl (fun _ => 0))), (bl, .inl (cI, 100, .inl (fun _ => 0))), (bu, .inl (cI, 100, .inl (fun _ => 0))), (bo, .inl (cI, 100, .inl (fun _ => 0))), (bk, .inl (cI, 8, .inl (fun _ => 0))), (btt, .inl (cI, 8, .inl (fun _ => 0))), (bss, .inl (cI, 8, .inl (fun _ => 0))), (ar, .inr (3, [.int 0, .ref aRn, .ref aRp])), (aRn, .inl (cI, 8, .inl (fun _ => 0))), (aRp, .inl (cI, 48, .inl (fun _ => 0))), (br, .inr (3, [.int 0, .ref bRn, .ref bRp])), (bRn, .inl (cI, 8, .inl (fun _ => 0))), (bRp, .inl (cI, 48, .inl (fun _ => 0))), (aw, .inr (3, [.int 0, .ref aWn, .ref aWp])), (aWn, .inl (cI, 8, .inl (fun _ => 0))), (aWp, .inl (cI, 48, .inl (fun _ => 0))), (bw, .inr (3, [.int 0, .ref bWn, .ref bWp])), (bWn, .inl (cI, 8, .inl (fun _ => 0))), (bWp, .inl (cI, 48, .inl (fun _ => 0)))]) A) (by decide) (Nat.le_of_ble_eq_true rfl) ?_
  intro p e s m below meth c ls A hF hr hlk hin hsz hP hK hD hN hA hS hl
  have hF : CallFix p m c cX1_become 2 s _ _ RX1 := hF
  have hx := hF.1
  have hb := hF.2.1
  have hml := hF.2.2.1
  have hown := hF.2.2.2.1
  have hu : ∀ w ∈ wsU, w.before _ s = true := fun w h => hF.2.2.2.2 w (List.mem_cons_of_mem _ h)
  have hl : lv_has ls 2 [(0, .ref h0), (1, .ref q1)] := hl
  refine lv_aload_n hx hb dX1_become_0 rfl (lv_at hl 0 rfl) ?_
  refine lv_aload_n hx hb dX1_become_1 rfl (lv_at hl 1 rfl) ?_
  refine xg hF kf_X1_9 hK hP 14 rfl rfl dX1_become_2 ?_
  refine xp hF kf_X1_9 tyX1_ok nmX1 hK hP hD hS 0 rfl rfl rfl rfl (Nat.le_of_ble_eq_true rfl) dX1_become_5 (fun H locs hP hD hS => ?_)
  have hP : va_P D vwCl [(h0, .inr (1, [.int 0, .ref ae, .ref al, .ref au, .ref ao, .ref ar, .ref ak, .ref aw, .ref att, .ref ass])), (ae, .inl (cI, 10, .inl (fun _ => 0))), (al, .inl (cI, 100, .inl (fun _ => 0))), (au, .inl (cI, 100, .inl (fun _ => 0))), (ao, .inl (cI, 100, .inl (fun _ => 0))), (ar, .inr (3, [.int 0, .ref aRn, .ref aRp])), (aRn, .inl (cI, 8, .inl (fun _ => 0))), (aRp, .inl (cI, 48, .inl (fun _ => 0))), (ak, .inl (cI, 8, .inl (fun _ => 0))), (aw, .inr (3, [.int 0, .ref aWn, .ref aWp])), (aWn, .inl (cI, 8, .inl (fun _ => 0))), (aWp, .inl (cI, 48, .inl (fun _ => 0))), (att, .inl (cI, 8, .inl (fun _ => 0))), (ass, .inl (cI, 8, .inl (fun _ => 0))), (q1, .inr (1, [.int 0, .ref be, .ref bl, .ref bu, .ref bo, .ref br, .ref bk, .ref bw, .ref btt, .ref bss])), (be, .inl (cI, 10, .inl (fun _ => 0))), (bl, .inl (cI, 100, .inl (fun _ => 0))), (bu, .inl (cI, 100, .inl (fun _ => 0))), (bo, .inl (cI, 100, .inl (fun _ => 0))), (br, .inr (3, [.int 0, .ref bRn, .ref bRp])), (bRn, .inl (cI, 8, .inl (fun _ => 0))), (bRp, .inl (cI, 48, .inl (fun _ => 0))), (bk, .inl (cI, 8, .inl (fun _ => 0))), (bw, .inr (3, [.int 0, .ref bWn, .ref bWp])), (bWn, .inl (cI, 8, .inl (fun _ => 0))), (bWp, .inl (cI, 48, .inl (fun _ => 0))), (btt, .inl (cI, 8, .inl (fun _ => 0))), (bss, .inl (cI, 8, .inl (fun _ => 0)))] H := hP
  have hD : va_D A [(h0, .inr (1, [.int 0, .ref ae, .ref al, .ref au, .ref ao, .ref ar, .ref ak, .ref aw, .ref att, .ref ass])), (ae, .inl (cI, 10, .inl (fun _ => 0))), (al, .inl (cI, 100, .inl (fun _ => 0))), (au, .inl (cI, 100, .inl (fun _ => 0))), (ao, .inl (cI, 100, .inl (fun _ => 0))), (ar, .inr (3, [.int 0, .ref aRn, .ref aRp])), (aRn, .inl (cI, 8, .inl (fun _ => 0))), (aRp, .inl (cI, 48, .inl (fun _ => 0))), (ak, .inl (cI, 8, .inl (fun _ => 0))), (aw, .inr (3, [.int 0, .ref aWn, .ref aWp])), (aWn, .inl (cI, 8, .inl (fun _ => 0))), (aWp, .inl (cI, 48, .inl (fun _ => 0))), (att, .inl (cI, 8, .inl (fun _ => 0))), (ass, .inl (cI, 8, .inl (fun _ => 0))), (q1, .inr (1, [.int 0, .ref be, .ref bl, .ref bu, .ref bo, .ref br, .ref bk, .ref bw, .ref btt, .ref bss])), (be, .inl (cI, 10, .inl (fun _ => 0))), (bl, .inl (cI, 100, .inl (fun _ => 0))), (bu, .inl (cI, 100, .inl (fun _ => 0))), (bo, .inl (cI, 100, .inl (fun _ => 0))), (br, .inr (3, [.int 0, .ref bRn, .ref bRp])), (bRn, .inl (cI, 8, .inl (fun _ => 0))), (bRp, .inl (cI, 48, .inl (fun _ => 0))), (bk, .inl (cI, 8, .inl (fun _ => 0))), (bw, .inr (3, [.int 0, .ref bWn, .ref bWp])), (bWn, .inl (cI, 8, .inl (fun _ => 0))), (bWp, .inl (cI, 48, .inl (fun _ => 0))), (btt, .inl (cI, 8, .inl (fun _ => 0))), (bss, .inl (cI, 8, .inl (fun _ => 0)))] := hD
  refine lv_aload_n hx hb dX1_become_8 rfl (lv_at hl 1 rfl) ?_
  refine xg hF kf_X1_15 hK hP 14 rfl rfl dX1_become_9 ?_
  refine lv_iconst (v := 0) hx hb dX1_become_12 (by decide) ?_
  refine lv_aload_n hx hb dX1_become_13 rfl (lv_at hl 0 rfl) ?_
  refine xg hF kf_X1_15 hK hP 0 rfl rfl dX1_become_14 ?_
  refine lv_iconst (v := 0) hx hb dX1_become_17 (by decide) ?_
  refine lv_bipush (v := 10) hx hb dX1_become_18 (by decide) ?_
  refine va_copyi hx hb (hml.trans hl.1.symm) hown (hu _ uw63) (hu _ uw59) (hu _ uw60) (hu _ uw61) hK hP hD hS 15 1 0 0 rfl rfl rfl rfl rfl (by decide) (by decide) (by decide) (by decide) (by decide) (fun _ _ => rfl) (Nat.le_of_ble_eq_true rfl) (by decide) dX1_become_20 (fun H locs hP hD hS => ?_)
  rw [show va_cpy (fun _ => (0 : Int32)) (fun _ => (0 : Int32)) (0 : Int32).toNatClampNeg (0 : Int32).toNatClampNeg (10 : Int32).toNatClampNeg = (fun _ => (0 : Int32)) from xcpy0 _ _ _] at hP hD
  have hP : va_P D vwCl [(h0, .inr (1, [.int 0, .ref ae, .ref al, .ref au, .ref ao, .ref ar, .ref ak, .ref aw, .ref att, .ref ass])), (ae, .inl (cI, 10, .inl (fun _ => 0))), (al, .inl (cI, 100, .inl (fun _ => 0))), (au, .inl (cI, 100, .inl (fun _ => 0))), (ao, .inl (cI, 100, .inl (fun _ => 0))), (ar, .inr (3, [.int 0, .ref aRn, .ref aRp])), (aRn, .inl (cI, 8, .inl (fun _ => 0))), (aRp, .inl (cI, 48, .inl (fun _ => 0))), (ak, .inl (cI, 8, .inl (fun _ => 0))), (aw, .inr (3, [.int 0, .ref aWn, .ref aWp])), (aWn, .inl (cI, 8, .inl (fun _ => 0))), (aWp, .inl (cI, 48, .inl (fun _ => 0))), (att, .inl (cI, 8, .inl (fun _ => 0))), (ass, .inl (cI, 8, .inl (fun _ => 0))), (q1, .inr (1, [.int 0, .ref be, .ref bl, .ref bu, .ref bo, .ref br, .ref bk, .ref bw, .ref btt, .ref bss])), (be, .inl (cI, 10, .inl (fun _ => 0))), (bl, .inl (cI, 100, .inl (fun _ => 0))), (bu, .inl (cI, 100, .inl (fun _ => 0))), (bo, .inl (cI, 100, .inl (fun _ => 0))), (br, .inr (3, [.int 0, .ref bRn, .ref bRp])), (bRn, .inl (cI, 8, .inl (fun _ => 0))), (bRp, .inl (cI, 48, .inl (fun _ => 0))), (bk, .inl (cI, 8, .inl (fun _ => 0))), (bw, .inr (3, [.int 0, .ref bWn, .ref bWp])), (bWn, .inl (cI, 8, .inl (fun _ => 0))), (bWp, .inl (cI, 48, .inl (fun _ => 0))), (btt, .inl (cI, 8, .inl (fun _ => 0))), (bss, .inl (cI, 8, .inl (fun _ => 0)))] H := hP
  have hD : va_D A [(h0, .inr (1, [.int 0, .ref ae, .ref al, .ref au, .ref ao, .ref ar, .ref ak, .ref aw, .ref att, .ref ass])), (ae, .inl (cI, 10, .inl (fun _ => 0))), (al, .inl (cI, 100, .inl (fun _ => 0))), (au, .inl (cI, 100, .inl (fun _ => 0))), (ao, .inl (cI, 100, .inl (fun _ => 0))), (ar, .inr (3, [.int 0, .ref aRn, .ref aRp])), (aRn, .inl (cI, 8, .inl (fun _ => 0))), (aRp, .inl (cI, 48, .inl (fun _ => 0))), (ak, .inl (cI, 8, .inl (fun _ => 0))), (aw, .inr (3, [.int 0, .ref aWn, .ref aWp])), (aWn, .inl (cI, 8, .inl (fun _ => 0))), (aWp, .inl (cI, 48, .inl (fun _ => 0))), (att, .inl (cI, 8, .inl (fun _ => 0))), (ass, .inl (cI, 8, .inl (fun _ => 0))), (q1, .inr (1, [.int 0, .ref be, .ref bl, .ref bu, .ref bo, .ref br, .ref bk, .ref bw, .ref btt, .ref bss])), (be, .inl (cI, 10, .inl (fun _ => 0))), (bl, .inl (cI, 100, .inl (fun _ => 0))), (bu, .inl (cI, 100, .inl (fun _ => 0))), (bo, .inl (cI, 100, .inl (fun _ => 0))), (br, .inr (3, [.int 0, .ref bRn, .ref bRp])), (bRn, .inl (cI, 8, .inl (fun _ => 0))), (bRp, .inl (cI, 48, .inl (fun _ => 0))), (bk, .inl (cI, 8, .inl (fun _ => 0))), (bw, .inr (3, [.int 0, .ref bWn, .ref bWp])), (bWn, .inl (cI, 8, .inl (fun _ => 0))), (bWp, .inl (cI, 48, .inl (fun _ => 0))), (btt, .inl (cI, 8, .inl (fun _ => 0))), (bss, .inl (cI, 8, .inl (fun _ => 0)))] := hD
  refine lv_aload_n hx hb dX1_become_23 rfl (lv_at hl 1 rfl) ?_
  refine xg hF kf_X1_19 hK hP 14 rfl rfl dX1_become_24 ?_
  refine lv_iconst (v := 0) hx hb dX1_become_27 (by decide) ?_
  refine lv_aload_n hx hb dX1_become_28 rfl (lv_at hl 0 rfl) ?_
  refine xg hF kf_X1_19 hK hP 0 rfl rfl dX1_become_29 ?_
  refine lv_iconst (v := 0) hx hb dX1_become_32 (by decide) ?_
  refine lv_bipush (v := 100) hx hb dX1_become_33 (by decide) ?_
  refine va_copyi hx hb (hml.trans hl.1.symm) hown (hu _ uw63) (hu _ uw59) (hu _ uw60) (hu _ uw61) hK hP hD hS 16 2 0 0 rfl rfl rfl rfl rfl (by decide) (by decide) (by decide) (by decide) (by decide) (fun _ _ => rfl) (Nat.le_of_ble_eq_true rfl) (by decide) dX1_become_35 (fun H locs hP hD hS => ?_)
  rw [show va_cpy (fun _ => (0 : Int32)) (fun _ => (0 : Int32)) (0 : Int32).toNatClampNeg (0 : Int32).toNatClampNeg (100 : Int32).toNatClampNeg = (fun _ => (0 : Int32)) from xcpy0 _ _ _] at hP hD
  have hP : va_P D vwCl [(h0, .inr (1, [.int 0, .ref ae, .ref al, .ref au, .ref ao, .ref ar, .ref ak, .ref aw, .ref att, .ref ass])), (ae, .inl (cI, 10, .inl (fun _ => 0))), (al, .inl (cI, 100, .inl (fun _ => 0))), (au, .inl (cI, 100, .inl (fun _ => 0))), (ao, .inl (cI, 100, .inl (fun _ => 0))), (ar, .inr (3, [.int 0, .ref aRn, .ref aRp])), (aRn, .inl (cI, 8, .inl (fun _ => 0))), (aRp, .inl (cI, 48, .inl (fun _ => 0))), (ak, .inl (cI, 8, .inl (fun _ => 0))), (aw, .inr (3, [.int 0, .ref aWn, .ref aWp])), (aWn, .inl (cI, 8, .inl (fun _ => 0))), (aWp, .inl (cI, 48, .inl (fun _ => 0))), (att, .inl (cI, 8, .inl (fun _ => 0))), (ass, .inl (cI, 8, .inl (fun _ => 0))), (q1, .inr (1, [.int 0, .ref be, .ref bl, .ref bu, .ref bo, .ref br, .ref bk, .ref bw, .ref btt, .ref bss])), (be, .inl (cI, 10, .inl (fun _ => 0))), (bl, .inl (cI, 100, .inl (fun _ => 0))), (bu, .inl (cI, 100, .inl (fun _ => 0))), (bo, .inl (cI, 100, .inl (fun _ => 0))), (br, .inr (3, [.int 0, .ref bRn, .ref bRp])), (bRn, .inl (cI, 8, .inl (fun _ => 0))), (bRp, .inl (cI, 48, .inl (fun _ => 0))), (bk, .inl (cI, 8, .inl (fun _ => 0))), (bw, .inr (3, [.int 0, .ref bWn, .ref bWp])), (bWn, .inl (cI, 8, .inl (fun _ => 0))), (bWp, .inl (cI, 48, .inl (fun _ => 0))), (btt, .inl (cI, 8, .inl (fun _ => 0))), (bss, .inl (cI, 8, .inl (fun _ => 0)))] H := hP
  have hD : va_D A [(h0, .inr (1, [.int 0, .ref ae, .ref al, .ref au, .ref ao, .ref ar, .ref ak, .ref aw, .ref att, .ref ass])), (ae, .inl (cI, 10, .inl (fun _ => 0))), (al, .inl (cI, 100, .inl (fun _ => 0))), (au, .inl (cI, 100, .inl (fun _ => 0))), (ao, .inl (cI, 100, .inl (fun _ => 0))), (ar, .inr (3, [.int 0, .ref aRn, .ref aRp])), (aRn, .inl (cI, 8, .inl (fun _ => 0))), (aRp, .inl (cI, 48, .inl (fun _ => 0))), (ak, .inl (cI, 8, .inl (fun _ => 0))), (aw, .inr (3, [.int 0, .ref aWn, .ref aWp])), (aWn, .inl (cI, 8, .inl (fun _ => 0))), (aWp, .inl (cI, 48, .inl (fun _ => 0))), (att, .inl (cI, 8, .inl (fun _ => 0))), (ass, .inl (cI, 8, .inl (fun _ => 0))), (q1, .inr (1, [.int 0, .ref be, .ref bl, .ref bu, .ref bo, .ref br, .ref bk, .ref bw, .ref btt, .ref bss])), (be, .inl (cI, 10, .inl (fun _ => 0))), (bl, .inl (cI, 100, .inl (fun _ => 0))), (bu, .inl (cI, 100, .inl (fun _ => 0))), (bo, .inl (cI, 100, .inl (fun _ => 0))), (br, .inr (3, [.int 0, .ref bRn, .ref bRp])), (bRn, .inl (cI, 8, .inl (fun _ => 0))), (bRp, .inl (cI, 48, .inl (fun _ => 0))), (bk, .inl (cI, 8, .inl (fun _ => 0))), (bw, .inr (3, [.int 0, .ref bWn, .ref bWp])), (bWn, .inl (cI, 8, .inl (fun _ => 0))), (bWp, .inl (cI, 48, .inl (fun _ => 0))), (btt, .inl (cI, 8, .inl (fun _ => 0))), (bss, .inl (cI, 8, .inl (fun _ => 0)))] := hD
  refine lv_aload_n hx hb dX1_become_38 rfl (lv_at hl 1 rfl) ?_
  refine xg hF kf_X1_22 hK hP 14 rfl rfl dX1_become_39 ?_
  refine lv_iconst (v := 0) hx hb dX1_become_42 (by decide) ?_
  refine lv_aload_n hx hb dX1_become_43 rfl (lv_at hl 0 rfl) ?_
  refine xg hF kf_X1_22 hK hP 0 rfl rfl dX1_become_44 ?_
  refine lv_iconst (v := 0) hx hb dX1_become_47 (by decide) ?_
  refine lv_bipush (v := 100) hx hb dX1_become_48 (by decide) ?_
  refine va_copyi hx hb (hml.trans hl.1.symm) hown (hu _ uw63) (hu _ uw59) (hu _ uw60) (hu _ uw61) hK hP hD hS 17 3 0 0 rfl rfl rfl rfl rfl (by decide) (by decide) (by decide) (by decide) (by decide) (fun _ _ => rfl) (Nat.le_of_ble_eq_true rfl) (by decide) dX1_become_50 (fun H locs hP hD hS => ?_)
  rw [show va_cpy (fun _ => (0 : Int32)) (fun _ => (0 : Int32)) (0 : Int32).toNatClampNeg (0 : Int32).toNatClampNeg (100 : Int32).toNatClampNeg = (fun _ => (0 : Int32)) from xcpy0 _ _ _] at hP hD
  have hP : va_P D vwCl [(h0, .inr (1, [.int 0, .ref ae, .ref al, .ref au, .ref ao, .ref ar, .ref ak, .ref aw, .ref att, .ref ass])), (ae, .inl (cI, 10, .inl (fun _ => 0))), (al, .inl (cI, 100, .inl (fun _ => 0))), (au, .inl (cI, 100, .inl (fun _ => 0))), (ao, .inl (cI, 100, .inl (fun _ => 0))), (ar, .inr (3, [.int 0, .ref aRn, .ref aRp])), (aRn, .inl (cI, 8, .inl (fun _ => 0))), (aRp, .inl (cI, 48, .inl (fun _ => 0))), (ak, .inl (cI, 8, .inl (fun _ => 0))), (aw, .inr (3, [.int 0, .ref aWn, .ref aWp])), (aWn, .inl (cI, 8, .inl (fun _ => 0))), (aWp, .inl (cI, 48, .inl (fun _ => 0))), (att, .inl (cI, 8, .inl (fun _ => 0))), (ass, .inl (cI, 8, .inl (fun _ => 0))), (q1, .inr (1, [.int 0, .ref be, .ref bl, .ref bu, .ref bo, .ref br, .ref bk, .ref bw, .ref btt, .ref bss])), (be, .inl (cI, 10, .inl (fun _ => 0))), (bl, .inl (cI, 100, .inl (fun _ => 0))), (bu, .inl (cI, 100, .inl (fun _ => 0))), (bo, .inl (cI, 100, .inl (fun _ => 0))), (br, .inr (3, [.int 0, .ref bRn, .ref bRp])), (bRn, .inl (cI, 8, .inl (fun _ => 0))), (bRp, .inl (cI, 48, .inl (fun _ => 0))), (bk, .inl (cI, 8, .inl (fun _ => 0))), (bw, .inr (3, [.int 0, .ref bWn, .ref bWp])), (bWn, .inl (cI, 8, .inl (fun _ => 0))), (bWp, .inl (cI, 48, .inl (fun _ => 0))), (btt, .inl (cI, 8, .inl (fun _ => 0))), (bss, .inl (cI, 8, .inl (fun _ => 0)))] H := hP
  have hD : va_D A [(h0, .inr (1, [.int 0, .ref ae, .ref al, .ref au, .ref ao, .ref ar, .ref ak, .ref aw, .ref att, .ref ass])), (ae, .inl (cI, 10, .inl (fun _ => 0))), (al, .inl (cI, 100, .inl (fun _ => 0))), (au, .inl (cI, 100, .inl (fun _ => 0))), (ao, .inl (cI, 100, .inl (fun _ => 0))), (ar, .inr (3, [.int 0, .ref aRn, .ref aRp])), (aRn, .inl (cI, 8, .inl (fun _ => 0))), (aRp, .inl (cI, 48, .inl (fun _ => 0))), (ak, .inl (cI, 8, .inl (fun _ => 0))), (aw, .inr (3, [.int 0, .ref aWn, .ref aWp])), (aWn, .inl (cI, 8, .inl (fun _ => 0))), (aWp, .inl (cI, 48, .inl (fun _ => 0))), (att, .inl (cI, 8, .inl (fun _ => 0))), (ass, .inl (cI, 8, .inl (fun _ => 0))), (q1, .inr (1, [.int 0, .ref be, .ref bl, .ref bu, .ref bo, .ref br, .ref bk, .ref bw, .ref btt, .ref bss])), (be, .inl (cI, 10, .inl (fun _ => 0))), (bl, .inl (cI, 100, .inl (fun _ => 0))), (bu, .inl (cI, 100, .inl (fun _ => 0))), (bo, .inl (cI, 100, .inl (fun _ => 0))), (br, .inr (3, [.int 0, .ref bRn, .ref bRp])), (bRn, .inl (cI, 8, .inl (fun _ => 0))), (bRp, .inl (cI, 48, .inl (fun _ => 0))), (bk, .inl (cI, 8, .inl (fun _ => 0))), (bw, .inr (3, [.int 0, .ref bWn, .ref bWp])), (bWn, .inl (cI, 8, .inl (fun _ => 0))), (bWp, .inl (cI, 48, .inl (fun _ => 0))), (btt, .inl (cI, 8, .inl (fun _ => 0))), (bss, .inl (cI, 8, .inl (fun _ => 0)))] := hD
  refine lv_aload_n hx hb dX1_become_53 rfl (lv_at hl 1 rfl) ?_
  refine xg hF kf_X1_25 hK hP 14 rfl rfl dX1_become_54 ?_
  refine lv_iconst (v := 0) hx hb dX1_become_57 (by decide) ?_
  refine lv_aload_n hx hb dX1_become_58 rfl (lv_at hl 0 rfl) ?_
  refine xg hF kf_X1_25 hK hP 0 rfl rfl dX1_become_59 ?_
  refine lv_iconst (v := 0) hx hb dX1_become_62 (by decide) ?_
  refine lv_bipush (v := 100) hx hb dX1_become_63 (by decide) ?_
  refine va_copyi hx hb (hml.trans hl.1.symm) hown (hu _ uw63) (hu _ uw59) (hu _ uw60) (hu _ uw61) hK hP hD hS 18 4 0 0 rfl rfl rfl rfl rfl (by decide) (by decide) (by decide) (by decide) (by decide) (fun _ _ => rfl) (Nat.le_of_ble_eq_true rfl) (by decide) dX1_become_65 (fun H locs hP hD hS => ?_)
  rw [show va_cpy (fun _ => (0 : Int32)) (fun _ => (0 : Int32)) (0 : Int32).toNatClampNeg (0 : Int32).toNatClampNeg (100 : Int32).toNatClampNeg = (fun _ => (0 : Int32)) from xcpy0 _ _ _] at hP hD
  have hP : va_P D vwCl [(h0, .inr (1, [.int 0, .ref ae, .ref al, .ref au, .ref ao, .ref ar, .ref ak, .ref aw, .ref att, .ref ass])), (ae, .inl (cI, 10, .inl (fun _ => 0))), (al, .inl (cI, 100, .inl (fun _ => 0))), (au, .inl (cI, 100, .inl (fun _ => 0))), (ao, .inl (cI, 100, .inl (fun _ => 0))), (ar, .inr (3, [.int 0, .ref aRn, .ref aRp])), (aRn, .inl (cI, 8, .inl (fun _ => 0))), (aRp, .inl (cI, 48, .inl (fun _ => 0))), (ak, .inl (cI, 8, .inl (fun _ => 0))), (aw, .inr (3, [.int 0, .ref aWn, .ref aWp])), (aWn, .inl (cI, 8, .inl (fun _ => 0))), (aWp, .inl (cI, 48, .inl (fun _ => 0))), (att, .inl (cI, 8, .inl (fun _ => 0))), (ass, .inl (cI, 8, .inl (fun _ => 0))), (q1, .inr (1, [.int 0, .ref be, .ref bl, .ref bu, .ref bo, .ref br, .ref bk, .ref bw, .ref btt, .ref bss])), (be, .inl (cI, 10, .inl (fun _ => 0))), (bl, .inl (cI, 100, .inl (fun _ => 0))), (bu, .inl (cI, 100, .inl (fun _ => 0))), (bo, .inl (cI, 100, .inl (fun _ => 0))), (br, .inr (3, [.int 0, .ref bRn, .ref bRp])), (bRn, .inl (cI, 8, .inl (fun _ => 0))), (bRp, .inl (cI, 48, .inl (fun _ => 0))), (bk, .inl (cI, 8, .inl (fun _ => 0))), (bw, .inr (3, [.int 0, .ref bWn, .ref bWp])), (bWn, .inl (cI, 8, .inl (fun _ => 0))), (bWp, .inl (cI, 48, .inl (fun _ => 0))), (btt, .inl (cI, 8, .inl (fun _ => 0))), (bss, .inl (cI, 8, .inl (fun _ => 0)))] H := hP
  have hD : va_D A [(h0, .inr (1, [.int 0, .ref ae, .ref al, .ref au, .ref ao, .ref ar, .ref ak, .ref aw, .ref att, .ref ass])), (ae, .inl (cI, 10, .inl (fun _ => 0))), (al, .inl (cI, 100, .inl (fun _ => 0))), (au, .inl (cI, 100, .inl (fun _ => 0))), (ao, .inl (cI, 100, .inl (fun _ => 0))), (ar, .inr (3, [.int 0, .ref aRn, .ref aRp])), (aRn, .inl (cI, 8, .inl (fun _ => 0))), (aRp, .inl (cI, 48, .inl (fun _ => 0))), (ak, .inl (cI, 8, .inl (fun _ => 0))), (aw, .inr (3, [.int 0, .ref aWn, .ref aWp])), (aWn, .inl (cI, 8, .inl (fun _ => 0))), (aWp, .inl (cI, 48, .inl (fun _ => 0))), (att, .inl (cI, 8, .inl (fun _ => 0))), (ass, .inl (cI, 8, .inl (fun _ => 0))), (q1, .inr (1, [.int 0, .ref be, .ref bl, .ref bu, .ref bo, .ref br, .ref bk, .ref bw, .ref btt, .ref bss])), (be, .inl (cI, 10, .inl (fun _ => 0))), (bl, .inl (cI, 100, .inl (fun _ => 0))), (bu, .inl (cI, 100, .inl (fun _ => 0))), (bo, .inl (cI, 100, .inl (fun _ => 0))), (br, .inr (3, [.int 0, .ref bRn, .ref bRp])), (bRn, .inl (cI, 8, .inl (fun _ => 0))), (bRp, .inl (cI, 48, .inl (fun _ => 0))), (bk, .inl (cI, 8, .inl (fun _ => 0))), (bw, .inr (3, [.int 0, .ref bWn, .ref bWp])), (bWn, .inl (cI, 8, .inl (fun _ => 0))), (bWp, .inl (cI, 48, .inl (fun _ => 0))), (btt, .inl (cI, 8, .inl (fun _ => 0))), (bss, .inl (cI, 8, .inl (fun _ => 0)))] := hD
  refine lv_aload_n hx hb dX1_become_68 rfl (lv_at hl 0 rfl) ?_
  refine xg hF kf_X1_31 hK hP 0 rfl rfl dX1_become_69 ?_
  refine lv_aload_n hx hb dX1_become_72 rfl (lv_at hl 1 rfl) ?_
  refine xg hF kf_X1_31 hK hP 14 rfl rfl dX1_become_73 ?_
  refine xc_Vv (wr := [(h0, .inr (1, [.int 0, .ref ae, .ref al, .ref au, .ref ao, .ref ar, .ref ak, .ref aw, .ref att, .ref ass])), (ae, .inl (cI, 10, .inl (fun _ => 0))), (al, .inl (cI, 100, .inl (fun _ => 0))), (au, .inl (cI, 100, .inl (fun _ => 0))), (ao, .inl (cI, 100, .inl (fun _ => 0))), (ak, .inl (cI, 8, .inl (fun _ => 0))), (aw, .inr (3, [.int 0, .ref aWn, .ref aWp])), (aWn, .inl (cI, 8, .inl (fun _ => 0))), (aWp, .inl (cI, 48, .inl (fun _ => 0))), (att, .inl (cI, 8, .inl (fun _ => 0))), (ass, .inl (cI, 8, .inl (fun _ => 0))), (q1, .inr (1, [.int 0, .ref be, .ref bl, .ref bu, .ref bo, .ref br, .ref bk, .ref bw, .ref btt, .ref bss])), (be, .inl (cI, 10, .inl (fun _ => 0))), (bl, .inl (cI, 100, .inl (fun _ => 0))), (bu, .inl (cI, 100, .inl (fun _ => 0))), (bo, .inl (cI, 100, .inl (fun _ => 0))), (bk, .inl (cI, 8, .inl (fun _ => 0))), (bw, .inr (3, [.int 0, .ref bWn, .ref bWp])), (bWn, .inl (cI, 8, .inl (fun _ => 0))), (bWp, .inl (cI, 48, .inl (fun _ => 0))), (btt, .inl (cI, 8, .inl (fun _ => 0))), (bss, .inl (cI, 8, .inl (fun _ => 0)))]) hF (c_X3_become l D cI cJ cZ cS sa H.size ar aRn aRp br bRn bRp ) kv_X1_53 ⟨rfl, rfl, Nat.le_of_ble_eq_true rfl, Nat.le_of_ble_eq_true rfl⟩ ⟨Nat.le_of_ble_eq_true rfl, Nat.le_of_ble_eq_true rfl⟩ hK hN hP hD hS hA [5, 6, 7, 19, 20, 21] [0, 1, 2, 3, 4, 8, 9, 10, 11, 12, 13, 14, 15, 16, 17, 18, 22, 23, 24, 25, 26, 27] rfl rfl rfl rfl (by decide) 0 rfl rfl rfl rfl hl.1 rfl (Nat.le_of_ble_eq_true rfl) dX1_become_76 (fun u_r_5 H locs hw_r_5 hP hD hS => ?_)
  have hP : va_P D vwCl [(h0, .inr (1, [.int 0, .ref ae, .ref al, .ref au, .ref ao, .ref ar, .ref ak, .ref aw, .ref att, .ref ass])), (ae, .inl (cI, 10, .inl (fun _ => 0))), (al, .inl (cI, 100, .inl (fun _ => 0))), (au, .inl (cI, 100, .inl (fun _ => 0))), (ao, .inl (cI, 100, .inl (fun _ => 0))), (ak, .inl (cI, 8, .inl (fun _ => 0))), (aw, .inr (3, [.int 0, .ref aWn, .ref aWp])), (aWn, .inl (cI, 8, .inl (fun _ => 0))), (aWp, .inl (cI, 48, .inl (fun _ => 0))), (att, .inl (cI, 8, .inl (fun _ => 0))), (ass, .inl (cI, 8, .inl (fun _ => 0))), (q1, .inr (1, [.int 0, .ref be, .ref bl, .ref bu, .ref bo, .ref br, .ref bk, .ref bw, .ref btt, .ref bss])), (be, .inl (cI, 10, .inl (fun _ => 0))), (bl, .inl (cI, 100, .inl (fun _ => 0))), (bu, .inl (cI, 100, .inl (fun _ => 0))), (bo, .inl (cI, 100, .inl (fun _ => 0))), (bk, .inl (cI, 8, .inl (fun _ => 0))), (bw, .inr (3, [.int 0, .ref bWn, .ref bWp])), (bWn, .inl (cI, 8, .inl (fun _ => 0))), (bWp, .inl (cI, 48, .inl (fun _ => 0))), (btt, .inl (cI, 8, .inl (fun _ => 0))), (bss, .inl (cI, 8, .inl (fun _ => 0))), (ar, .inr (3, [.int 0, .ref aRn, .ref aRp])), (aRn, .inl (cI, 8, .inl (fun _ => 0))), (aRp, .inl (cI, 48, .inl (fun _ => 0))), (br, .inr (3, [.int 0, .ref bRn, .ref bRp])), (bRn, .inl (cI, 8, .inl (fun _ => 0))), (bRp, .inl (cI, 48, .inl (fun _ => 0)))] H := hP
  have hD : va_D A [(h0, .inr (1, [.int 0, .ref ae, .ref al, .ref au, .ref ao, .ref ar, .ref ak, .ref aw, .ref att, .ref ass])), (ae, .inl (cI, 10, .inl (fun _ => 0))), (al, .inl (cI, 100, .inl (fun _ => 0))), (au, .inl (cI, 100, .inl (fun _ => 0))), (ao, .inl (cI, 100, .inl (fun _ => 0))), (ak, .inl (cI, 8, .inl (fun _ => 0))), (aw, .inr (3, [.int 0, .ref aWn, .ref aWp])), (aWn, .inl (cI, 8, .inl (fun _ => 0))), (aWp, .inl (cI, 48, .inl (fun _ => 0))), (att, .inl (cI, 8, .inl (fun _ => 0))), (ass, .inl (cI, 8, .inl (fun _ => 0))), (q1, .inr (1, [.int 0, .ref be, .ref bl, .ref bu, .ref bo, .ref br, .ref bk, .ref bw, .ref btt, .ref bss])), (be, .inl (cI, 10, .inl (fun _ => 0))), (bl, .inl (cI, 100, .inl (fun _ => 0))), (bu, .inl (cI, 100, .inl (fun _ => 0))), (bo, .inl (cI, 100, .inl (fun _ => 0))), (bk, .inl (cI, 8, .inl (fun _ => 0))), (bw, .inr (3, [.int 0, .ref bWn, .ref bWp])), (bWn, .inl (cI, 8, .inl (fun _ => 0))), (bWp, .inl (cI, 48, .inl (fun _ => 0))), (btt, .inl (cI, 8, .inl (fun _ => 0))), (bss, .inl (cI, 8, .inl (fun _ => 0))), (ar, .inr (3, [.int 0, .ref aRn, .ref aRp])), (aRn, .inl (cI, 8, .inl (fun _ => 0))), (aRp, .inl (cI, 48, .inl (fun _ => 0))), (br, .inr (3, [.int 0, .ref bRn, .ref bRp])), (bRn, .inl (cI, 8, .inl (fun _ => 0))), (bRp, .inl (cI, 48, .inl (fun _ => 0)))] := hD
  refine lv_aload_n hx hb dX1_become_79 rfl (lv_at hl 1 rfl) ?_
  refine xg hF kf_X1_35 hK hP 11 rfl rfl dX1_become_80 ?_
  refine lv_iconst (v := 0) hx hb dX1_become_83 (by decide) ?_
  refine lv_aload_n hx hb dX1_become_84 rfl (lv_at hl 0 rfl) ?_
  refine xg hF kf_X1_35 hK hP 0 rfl rfl dX1_become_85 ?_
  refine lv_iconst (v := 0) hx hb dX1_become_88 (by decide) ?_
  refine lv_bipush (v := 8) hx hb dX1_become_89 (by decide) ?_
  refine va_copyi hx hb (hml.trans hl.1.symm) hown (hu _ uw63) (hu _ uw59) (hu _ uw60) (hu _ uw61) hK hP hD hS 16 5 0 0 rfl rfl rfl rfl rfl (by decide) (by decide) (by decide) (by decide) (by decide) (fun _ _ => rfl) (Nat.le_of_ble_eq_true rfl) (by decide) dX1_become_91 (fun H locs hP hD hS => ?_)
  rw [show va_cpy (fun _ => (0 : Int32)) (fun _ => (0 : Int32)) (0 : Int32).toNatClampNeg (0 : Int32).toNatClampNeg (8 : Int32).toNatClampNeg = (fun _ => (0 : Int32)) from xcpy0 _ _ _] at hP hD
  have hP : va_P D vwCl [(h0, .inr (1, [.int 0, .ref ae, .ref al, .ref au, .ref ao, .ref ar, .ref ak, .ref aw, .ref att, .ref ass])), (ae, .inl (cI, 10, .inl (fun _ => 0))), (al, .inl (cI, 100, .inl (fun _ => 0))), (au, .inl (cI, 100, .inl (fun _ => 0))), (ao, .inl (cI, 100, .inl (fun _ => 0))), (ak, .inl (cI, 8, .inl (fun _ => 0))), (aw, .inr (3, [.int 0, .ref aWn, .ref aWp])), (aWn, .inl (cI, 8, .inl (fun _ => 0))), (aWp, .inl (cI, 48, .inl (fun _ => 0))), (att, .inl (cI, 8, .inl (fun _ => 0))), (ass, .inl (cI, 8, .inl (fun _ => 0))), (q1, .inr (1, [.int 0, .ref be, .ref bl, .ref bu, .ref bo, .ref br, .ref bk, .ref bw, .ref btt, .ref bss])), (be, .inl (cI, 10, .inl (fun _ => 0))), (bl, .inl (cI, 100, .inl (fun _ => 0))), (bu, .inl (cI, 100, .inl (fun _ => 0))), (bo, .inl (cI, 100, .inl (fun _ => 0))), (bk, .inl (cI, 8, .inl (fun _ => 0))), (bw, .inr (3, [.int 0, .ref bWn, .ref bWp])), (bWn, .inl (cI, 8, .inl (fun _ => 0))), (bWp, .inl (cI, 48, .inl (fun _ => 0))), (btt, .inl (cI, 8, .inl (fun _ => 0))), (bss, .inl (cI, 8, .inl (fun _ => 0))), (ar, .inr (3, [.int 0, .ref aRn, .ref aRp])), (aRn, .inl (cI, 8, .inl (fun _ => 0))), (aRp, .inl (cI, 48, .inl (fun _ => 0))), (br, .inr (3, [.int 0, .ref bRn, .ref bRp])), (bRn, .inl (cI, 8, .inl (fun _ => 0))), (bRp, .inl (cI, 48, .inl (fun _ => 0)))] H := hP
  have hD : va_D A [(h0, .inr (1, [.int 0, .ref ae, .ref al, .ref au, .ref ao, .ref ar, .ref ak, .ref aw, .ref att, .ref ass])), (ae, .inl (cI, 10, .inl (fun _ => 0))), (al, .inl (cI, 100, .inl (fun _ => 0))), (au, .inl (cI, 100, .inl (fun _ => 0))), (ao, .inl (cI, 100, .inl (fun _ => 0))), (ak, .inl (cI, 8, .inl (fun _ => 0))), (aw, .inr (3, [.int 0, .ref aWn, .ref aWp])), (aWn, .inl (cI, 8, .inl (fun _ => 0))), (aWp, .inl (cI, 48, .inl (fun _ => 0))), (att, .inl (cI, 8, .inl (fun _ => 0))), (ass, .inl (cI, 8, .inl (fun _ => 0))), (q1, .inr (1, [.int 0, .ref be, .ref bl, .ref bu, .ref bo, .ref br, .ref bk, .ref bw, .ref btt, .ref bss])), (be, .inl (cI, 10, .inl (fun _ => 0))), (bl, .inl (cI, 100, .inl (fun _ => 0))), (bu, .inl (cI, 100, .inl (fun _ => 0))), (bo, .inl (cI, 100, .inl (fun _ => 0))), (bk, .inl (cI, 8, .inl (fun _ => 0))), (bw, .inr (3, [.int 0, .ref bWn, .ref bWp])), (bWn, .inl (cI, 8, .inl (fun _ => 0))), (bWp, .inl (cI, 48, .inl (fun _ => 0))), (btt, .inl (cI, 8, .inl (fun _ => 0))), (bss, .inl (cI, 8, .inl (fun _ => 0))), (ar, .inr (3, [.int 0, .ref aRn, .ref aRp])), (aRn, .inl (cI, 8, .inl (fun _ => 0))), (aRp, .inl (cI, 48, .inl (fun _ => 0))), (br, .inr (3, [.int 0, .ref bRn, .ref bRp])), (bRn, .inl (cI, 8, .inl (fun _ => 0))), (bRp, .inl (cI, 48, .inl (fun _ => 0)))] := hD
  refine lv_aload_n hx hb dX1_become_94 rfl (lv_at hl 0 rfl) ?_
  refine xg hF kf_X1_38 hK hP 0 rfl rfl dX1_become_95 ?_
  refine lv_aload_n hx hb dX1_become_98 rfl (lv_at hl 1 rfl) ?_
  refine xg hF kf_X1_38 hK hP 11 rfl rfl dX1_become_99 ?_
  refine xc_Vv (wr := [(h0, .inr (1, [.int 0, .ref ae, .ref al, .ref au, .ref ao, .ref ar, .ref ak, .ref aw, .ref att, .ref ass])), (ae, .inl (cI, 10, .inl (fun _ => 0))), (al, .inl (cI, 100, .inl (fun _ => 0))), (au, .inl (cI, 100, .inl (fun _ => 0))), (ao, .inl (cI, 100, .inl (fun _ => 0))), (ak, .inl (cI, 8, .inl (fun _ => 0))), (att, .inl (cI, 8, .inl (fun _ => 0))), (ass, .inl (cI, 8, .inl (fun _ => 0))), (q1, .inr (1, [.int 0, .ref be, .ref bl, .ref bu, .ref bo, .ref br, .ref bk, .ref bw, .ref btt, .ref bss])), (be, .inl (cI, 10, .inl (fun _ => 0))), (bl, .inl (cI, 100, .inl (fun _ => 0))), (bu, .inl (cI, 100, .inl (fun _ => 0))), (bo, .inl (cI, 100, .inl (fun _ => 0))), (bk, .inl (cI, 8, .inl (fun _ => 0))), (btt, .inl (cI, 8, .inl (fun _ => 0))), (bss, .inl (cI, 8, .inl (fun _ => 0))), (ar, .inr (3, [.int 0, .ref aRn, .ref aRp])), (aRn, .inl (cI, 8, .inl (fun _ => 0))), (aRp, .inl (cI, 48, .inl (fun _ => 0))), (br, .inr (3, [.int 0, .ref bRn, .ref bRp])), (bRn, .inl (cI, 8, .inl (fun _ => 0))), (bRp, .inl (cI, 48, .inl (fun _ => 0)))]) hF (c_X3_become l D cI cJ cZ cS sa H.size aw aWn aWp bw bWn bWp ) kv_X1_53 ⟨rfl, rfl, Nat.le_of_ble_eq_true rfl, Nat.le_of_ble_eq_true rfl⟩ ⟨Nat.le_of_ble_eq_true rfl, Nat.le_of_ble_eq_true rfl⟩ hK hN hP hD hS hA [6, 7, 8, 17, 18, 19] [0, 1, 2, 3, 4, 5, 9, 10, 11, 12, 13, 14, 15, 16, 20, 21, 22, 23, 24, 25, 26, 27] rfl rfl rfl rfl (by decide) 0 rfl rfl rfl rfl hl.1 rfl (Nat.le_of_ble_eq_true rfl) dX1_become_102 (fun u_r_7 H locs hw_r_7 hP hD hS => ?_)
  have hP : va_P D vwCl [(h0, .inr (1, [.int 0, .ref ae, .ref al, .ref au, .ref ao, .ref ar, .ref ak, .ref aw, .ref att, .ref ass])), (ae, .inl (cI, 10, .inl (fun _ => 0))), (al, .inl (cI, 100, .inl (fun _ => 0))), (au, .inl (cI, 100, .inl (fun _ => 0))), (ao, .inl (cI, 100, .inl (fun _ => 0))), (ak, .inl (cI, 8, .inl (fun _ => 0))), (att, .inl (cI, 8, .inl (fun _ => 0))), (ass, .inl (cI, 8, .inl (fun _ => 0))), (q1, .inr (1, [.int 0, .ref be, .ref bl, .ref bu, .ref bo, .ref br, .ref bk, .ref bw, .ref btt, .ref bss])), (be, .inl (cI, 10, .inl (fun _ => 0))), (bl, .inl (cI, 100, .inl (fun _ => 0))), (bu, .inl (cI, 100, .inl (fun _ => 0))), (bo, .inl (cI, 100, .inl (fun _ => 0))), (bk, .inl (cI, 8, .inl (fun _ => 0))), (btt, .inl (cI, 8, .inl (fun _ => 0))), (bss, .inl (cI, 8, .inl (fun _ => 0))), (ar, .inr (3, [.int 0, .ref aRn, .ref aRp])), (aRn, .inl (cI, 8, .inl (fun _ => 0))), (aRp, .inl (cI, 48, .inl (fun _ => 0))), (br, .inr (3, [.int 0, .ref bRn, .ref bRp])), (bRn, .inl (cI, 8, .inl (fun _ => 0))), (bRp, .inl (cI, 48, .inl (fun _ => 0))), (aw, .inr (3, [.int 0, .ref aWn, .ref aWp])), (aWn, .inl (cI, 8, .inl (fun _ => 0))), (aWp, .inl (cI, 48, .inl (fun _ => 0))), (bw, .inr (3, [.int 0, .ref bWn, .ref bWp])), (bWn, .inl (cI, 8, .inl (fun _ => 0))), (bWp, .inl (cI, 48, .inl (fun _ => 0)))] H := hP
  have hD : va_D A [(h0, .inr (1, [.int 0, .ref ae, .ref al, .ref au, .ref ao, .ref ar, .ref ak, .ref aw, .ref att, .ref ass])), (ae, .inl (cI, 10, .inl (fun _ => 0))), (al, .inl (cI, 100, .inl (fun _ => 0))), (au, .inl (cI, 100, .inl (fun _ => 0))), (ao, .inl (cI, 100, .inl (fun _ => 0))), (ak, .inl (cI, 8, .inl (fun _ => 0))), (att, .inl (cI, 8, .inl (fun _ => 0))), (ass, .inl (cI, 8, .inl (fun _ => 0))), (q1, .inr (1, [.int 0, .ref be, .ref bl, .ref bu, .ref bo, .ref br, .ref bk, .ref bw, .ref btt, .ref bss])), (be, .inl (cI, 10, .inl (fun _ => 0))), (bl, .inl (cI, 100, .inl (fun _ => 0))), (bu, .inl (cI, 100, .inl (fun _ => 0))), (bo, .inl (cI, 100, .inl (fun _ => 0))), (bk, .inl (cI, 8, .inl (fun _ => 0))), (btt, .inl (cI, 8, .inl (fun _ => 0))), (bss, .inl (cI, 8, .inl (fun _ => 0))), (ar, .inr (3, [.int 0, .ref aRn, .ref aRp])), (aRn, .inl (cI, 8, .inl (fun _ => 0))), (aRp, .inl (cI, 48, .inl (fun _ => 0))), (br, .inr (3, [.int 0, .ref bRn, .ref bRp])), (bRn, .inl (cI, 8, .inl (fun _ => 0))), (bRp, .inl (cI, 48, .inl (fun _ => 0))), (aw, .inr (3, [.int 0, .ref aWn, .ref aWp])), (aWn, .inl (cI, 8, .inl (fun _ => 0))), (aWp, .inl (cI, 48, .inl (fun _ => 0))), (bw, .inr (3, [.int 0, .ref bWn, .ref bWp])), (bWn, .inl (cI, 8, .inl (fun _ => 0))), (bWp, .inl (cI, 48, .inl (fun _ => 0)))] := hD
  refine lv_aload_n hx hb dX1_become_105 rfl (lv_at hl 1 rfl) ?_
  refine xg hF kf_X1_41 hK hP 8 rfl rfl dX1_become_106 ?_
  refine lv_iconst (v := 0) hx hb dX1_become_109 (by decide) ?_
  refine lv_aload_n hx hb dX1_become_110 rfl (lv_at hl 0 rfl) ?_
  refine xg hF kf_X1_41 hK hP 0 rfl rfl dX1_become_111 ?_
  refine lv_iconst (v := 0) hx hb dX1_become_114 (by decide) ?_
  refine lv_bipush (v := 8) hx hb dX1_become_115 (by decide) ?_
  refine va_copyi hx hb (hml.trans hl.1.symm) hown (hu _ uw63) (hu _ uw59) (hu _ uw60) (hu _ uw61) hK hP hD hS 14 6 0 0 rfl rfl rfl rfl rfl (by decide) (by decide) (by decide) (by decide) (by decide) (fun _ _ => rfl) (Nat.le_of_ble_eq_true rfl) (by decide) dX1_become_117 (fun H locs hP hD hS => ?_)
  rw [show va_cpy (fun _ => (0 : Int32)) (fun _ => (0 : Int32)) (0 : Int32).toNatClampNeg (0 : Int32).toNatClampNeg (8 : Int32).toNatClampNeg = (fun _ => (0 : Int32)) from xcpy0 _ _ _] at hP hD
  have hP : va_P D vwCl [(h0, .inr (1, [.int 0, .ref ae, .ref al, .ref au, .ref ao, .ref ar, .ref ak, .ref aw, .ref att, .ref ass])), (ae, .inl (cI, 10, .inl (fun _ => 0))), (al, .inl (cI, 100, .inl (fun _ => 0))), (au, .inl (cI, 100, .inl (fun _ => 0))), (ao, .inl (cI, 100, .inl (fun _ => 0))), (ak, .inl (cI, 8, .inl (fun _ => 0))), (att, .inl (cI, 8, .inl (fun _ => 0))), (ass, .inl (cI, 8, .inl (fun _ => 0))), (q1, .inr (1, [.int 0, .ref be, .ref bl, .ref bu, .ref bo, .ref br, .ref bk, .ref bw, .ref btt, .ref bss])), (be, .inl (cI, 10, .inl (fun _ => 0))), (bl, .inl (cI, 100, .inl (fun _ => 0))), (bu, .inl (cI, 100, .inl (fun _ => 0))), (bo, .inl (cI, 100, .inl (fun _ => 0))), (bk, .inl (cI, 8, .inl (fun _ => 0))), (btt, .inl (cI, 8, .inl (fun _ => 0))), (bss, .inl (cI, 8, .inl (fun _ => 0))), (ar, .inr (3, [.int 0, .ref aRn, .ref aRp])), (aRn, .inl (cI, 8, .inl (fun _ => 0))), (aRp, .inl (cI, 48, .inl (fun _ => 0))), (br, .inr (3, [.int 0, .ref bRn, .ref bRp])), (bRn, .inl (cI, 8, .inl (fun _ => 0))), (bRp, .inl (cI, 48, .inl (fun _ => 0))), (aw, .inr (3, [.int 0, .ref aWn, .ref aWp])), (aWn, .inl (cI, 8, .inl (fun _ => 0))), (aWp, .inl (cI, 48, .inl (fun _ => 0))), (bw, .inr (3, [.int 0, .ref bWn, .ref bWp])), (bWn, .inl (cI, 8, .inl (fun _ => 0))), (bWp, .inl (cI, 48, .inl (fun _ => 0)))] H := hP
  have hD : va_D A [(h0, .inr (1, [.int 0, .ref ae, .ref al, .ref au, .ref ao, .ref ar, .ref ak, .ref aw, .ref att, .ref ass])), (ae, .inl (cI, 10, .inl (fun _ => 0))), (al, .inl (cI, 100, .inl (fun _ => 0))), (au, .inl (cI, 100, .inl (fun _ => 0))), (ao, .inl (cI, 100, .inl (fun _ => 0))), (ak, .inl (cI, 8, .inl (fun _ => 0))), (att, .inl (cI, 8, .inl (fun _ => 0))), (ass, .inl (cI, 8, .inl (fun _ => 0))), (q1, .inr (1, [.int 0, .ref be, .ref bl, .ref bu, .ref bo, .ref br, .ref bk, .ref bw, .ref btt, .ref bss])), (be, .inl (cI, 10, .inl (fun _ => 0))), (bl, .inl (cI, 100, .inl (fun _ => 0))), (bu, .inl (cI, 100, .inl (fun _ => 0))), (bo, .inl (cI, 100, .inl (fun _ => 0))), (bk, .inl (cI, 8, .inl (fun _ => 0))), (btt, .inl (cI, 8, .inl (fun _ => 0))), (bss, .inl (cI, 8, .inl (fun _ => 0))), (ar, .inr (3, [.int 0, .ref aRn, .ref aRp])), (aRn, .inl (cI, 8, .inl (fun _ => 0))), (aRp, .inl (cI, 48, .inl (fun _ => 0))), (br, .inr (3, [.int 0, .ref bRn, .ref bRp])), (bRn, .inl (cI, 8, .inl (fun _ => 0))), (bRp, .inl (cI, 48, .inl (fun _ => 0))), (aw, .inr (3, [.int 0, .ref aWn, .ref aWp])), (aWn, .inl (cI, 8, .inl (fun _ => 0))), (aWp, .inl (cI, 48, .inl (fun _ => 0))), (bw, .inr (3, [.int 0, .ref bWn, .ref bWp])), (bWn, .inl (cI, 8, .inl (fun _ => 0))), (bWp, .inl (cI, 48, .inl (fun _ => 0)))] := hD
  refine lv_aload_n hx hb dX1_become_120 rfl (lv_at hl 1 rfl) ?_
  refine xg hF kf_X1_44 hK hP 8 rfl rfl dX1_become_121 ?_
  refine lv_iconst (v := 0) hx hb dX1_become_124 (by decide) ?_
  refine lv_aload_n hx hb dX1_become_125 rfl (lv_at hl 0 rfl) ?_
  refine xg hF kf_X1_44 hK hP 0 rfl rfl dX1_become_126 ?_
  refine lv_iconst (v := 0) hx hb dX1_become_129 (by decide) ?_
  refine lv_bipush (v := 8) hx hb dX1_become_130 (by decide) ?_
  refine va_copyi hx hb (hml.trans hl.1.symm) hown (hu _ uw63) (hu _ uw59) (hu _ uw60) (hu _ uw61) hK hP hD hS 15 7 0 0 rfl rfl rfl rfl rfl (by decide) (by decide) (by decide) (by decide) (by decide) (fun _ _ => rfl) (Nat.le_of_ble_eq_true rfl) (by decide) dX1_become_132 (fun H locs hP hD hS => ?_)
  rw [show va_cpy (fun _ => (0 : Int32)) (fun _ => (0 : Int32)) (0 : Int32).toNatClampNeg (0 : Int32).toNatClampNeg (8 : Int32).toNatClampNeg = (fun _ => (0 : Int32)) from xcpy0 _ _ _] at hP hD
  have hP : va_P D vwCl [(h0, .inr (1, [.int 0, .ref ae, .ref al, .ref au, .ref ao, .ref ar, .ref ak, .ref aw, .ref att, .ref ass])), (ae, .inl (cI, 10, .inl (fun _ => 0))), (al, .inl (cI, 100, .inl (fun _ => 0))), (au, .inl (cI, 100, .inl (fun _ => 0))), (ao, .inl (cI, 100, .inl (fun _ => 0))), (ak, .inl (cI, 8, .inl (fun _ => 0))), (att, .inl (cI, 8, .inl (fun _ => 0))), (ass, .inl (cI, 8, .inl (fun _ => 0))), (q1, .inr (1, [.int 0, .ref be, .ref bl, .ref bu, .ref bo, .ref br, .ref bk, .ref bw, .ref btt, .ref bss])), (be, .inl (cI, 10, .inl (fun _ => 0))), (bl, .inl (cI, 100, .inl (fun _ => 0))), (bu, .inl (cI, 100, .inl (fun _ => 0))), (bo, .inl (cI, 100, .inl (fun _ => 0))), (bk, .inl (cI, 8, .inl (fun _ => 0))), (btt, .inl (cI, 8, .inl (fun _ => 0))), (bss, .inl (cI, 8, .inl (fun _ => 0))), (ar, .inr (3, [.int 0, .ref aRn, .ref aRp])), (aRn, .inl (cI, 8, .inl (fun _ => 0))), (aRp, .inl (cI, 48, .inl (fun _ => 0))), (br, .inr (3, [.int 0, .ref bRn, .ref bRp])), (bRn, .inl (cI, 8, .inl (fun _ => 0))), (bRp, .inl (cI, 48, .inl (fun _ => 0))), (aw, .inr (3, [.int 0, .ref aWn, .ref aWp])), (aWn, .inl (cI, 8, .inl (fun _ => 0))), (aWp, .inl (cI, 48, .inl (fun _ => 0))), (bw, .inr (3, [.int 0, .ref bWn, .ref bWp])), (bWn, .inl (cI, 8, .inl (fun _ => 0))), (bWp, .inl (cI, 48, .inl (fun _ => 0)))] H := hP
  have hD : va_D A [(h0, .inr (1, [.int 0, .ref ae, .ref al, .ref au, .ref ao, .ref ar, .ref ak, .ref aw, .ref att, .ref ass])), (ae, .inl (cI, 10, .inl (fun _ => 0))), (al, .inl (cI, 100, .inl (fun _ => 0))), (au, .inl (cI, 100, .inl (fun _ => 0))), (ao, .inl (cI, 100, .inl (fun _ => 0))), (ak, .inl (cI, 8, .inl (fun _ => 0))), (att, .inl (cI, 8, .inl (fun _ => 0))), (ass, .inl (cI, 8, .inl (fun _ => 0))), (q1, .inr (1, [.int 0, .ref be, .ref bl, .ref bu, .ref bo, .ref br, .ref bk, .ref bw, .ref btt, .ref bss])), (be, .inl (cI, 10, .inl (fun _ => 0))), (bl, .inl (cI, 100, .inl (fun _ => 0))), (bu, .inl (cI, 100, .inl (fun _ => 0))), (bo, .inl (cI, 100, .inl (fun _ => 0))), (bk, .inl (cI, 8, .inl (fun _ => 0))), (btt, .inl (cI, 8, .inl (fun _ => 0))), (bss, .inl (cI, 8, .inl (fun _ => 0))), (ar, .inr (3, [.int 0, .ref aRn, .ref aRp])), (aRn, .inl (cI, 8, .inl (fun _ => 0))), (aRp, .inl (cI, 48, .inl (fun _ => 0))), (br, .inr (3, [.int 0, .ref bRn, .ref bRp])), (bRn, .inl (cI, 8, .inl (fun _ => 0))), (bRp, .inl (cI, 48, .inl (fun _ => 0))), (aw, .inr (3, [.int 0, .ref aWn, .ref aWp])), (aWn, .inl (cI, 8, .inl (fun _ => 0))), (aWp, .inl (cI, 48, .inl (fun _ => 0))), (bw, .inr (3, [.int 0, .ref bWn, .ref bWp])), (bWn, .inl (cI, 8, .inl (fun _ => 0))), (bWp, .inl (cI, 48, .inl (fun _ => 0)))] := hD
  exact W.vret hx hb hr (fun t ht hW => ⟨⟨(), rfl, trivial, by rw [ht]; exact hP.sub [0, 1, 2, 3, 4, 5, 6, 7, 8, 9, 10, 11, 12, 13, 14, 15, 16, 17, 18, 19, 20, 21, 22, 23, 24, 25, 26, 27] rfl, hD.sub [0, 1, 2, 3, 4, 5, 6, 7, 8, 9, 10, 11, 12, 13, 14, 15, 16, 17, 18, 19, 20, 21, 22, 23, 24, 25, 26, 27] (by decide) rfl⟩, hS.F ht⟩) hS.2.2 dX1_become_135 hlk
set_option maxHeartbeats 4000000 in
set_option maxRecDepth 100000 in
theorem c_X7_kindAt (l : Launch) (D : va_G) (cI cJ cZ cS : ClassId) (sa : Nat → Nat) (sz : Nat) (h0 : Nat) (ab : Nat) : Met l yX7_kindAt (Cond.code yX7_kindAt cX7_kindAt 3 (some .int) :: wsU) ({ frames := 0, cells := 0, slots := 0, locals := 0 }) (va_Pc [.ref h0, .int 0] (XW D (xT cI cJ cZ cS) sa [(h0, .inr (7, [.int 0, .ref ab, .int 0, .int 0, .int 0, .int 0, .int 0]))] sz)) (vp_Si (fun r : Int32 => r = 0)) 0 0 (fun _ => False) := by
  refine xh (by decide) (Nat.le_of_ble_eq_true rfl) ?_
  intro p e s m below meth c ls hF hr hlk hin hsz hP hK hD hN hl
  have hF : CallFix p m c cX7_kindAt 3 s _ _ RX7 := hF
  have hx := hF.1
  have hb := hF.2.1
  have hml := hF.2.2.1
  have hown := hF.2.2.2.1
  have hu : ∀ w ∈ wsU, w.before _ s = true := fun w h => hF.2.2.2.2 w (List.mem_cons_of_mem _ h)
  have hl : lv_has ls 3 [(0, .ref h0), (1, .int 0)] := hl
  refine lv_iload_n hx hb dX7_kindAt_0 rfl (lv_at hl 1 rfl) ?_
  refine lv_aload_n hx hb dX7_kindAt_1 rfl (lv_at hl 0 rfl) ?_
  refine xg hF kf_X7_9 hK hP 0 rfl rfl dX7_kindAt_2 ?_
  refine lv_icmp_lt (tgt := 10) hx hb dX7_kindAt_5 (by decide) (fun c_1 => absurd c_1 (by decide)) (fun c_1 => ?_)
  refine lv_iconst (v := 0) hx hb dX7_kindAt_8 (by decide) ?_
  exact W.iret (v := 0) hx hb hr (fun t ht hW => ⟨0, rfl, rfl, ht⟩) (fun q h => by cases h) dX7_kindAt_9 hlk
set_option maxHeartbeats 4000000 in
set_option maxRecDepth 100000 in
theorem c_X7_step (l : Launch) (D : va_G) (cI cJ cZ cS : ClassId) (sa : Nat → Nat) (sz : Nat) (h0 : Nat) (ab : Nat) : Met l yX7_step (Cond.code yX7_step cX7_step 3 none :: wsU) ({ frames := 1, cells := 0, slots := 0, locals := 22 }) (va_Pc [.ref h0] (XW D (xT cI cJ cZ cS) sa [(h0, .inr (7, [.int 0, .ref ab, .int 0, .int 0, .int 0, .int 0, .int 0]))] sz)) (XQv (fun _ : Unit => True) D (fun _ : Unit => [(h0, .inr (7, [.int 0, .ref ab, .int 0, .int 0, .int 0, .int 0, .int 0]))]) (va_A [(h0, .inr (7, [.int 0, .ref ab, .int 0, .int 0, .int 0, .int 0, .int 0]))] sz)) 0 0 (va_A [(h0, .inr (7, [.int 0, .ref ab, .int 0, .int 0, .int 0, .int 0, .int 0]))] sz) := by
  refine xhw (QA := fun A => XQv (fun _ : Unit => True) D (fun _ : Unit => [(h0, .inr (7, [.int 0, .ref ab, .int 0, .int 0, .int 0, .int 0, .int 0]))]) A) (by decide) (Nat.le_of_ble_eq_true rfl) ?_
  intro p e s m below meth c ls A hF hr hlk hin hsz hP hK hD hN hA hS hl
  have hF : CallFix p m c cX7_step 3 s _ _ RX7 := hF
  have hx := hF.1
  have hb := hF.2.1
  have hml := hF.2.2.1
  have hown := hF.2.2.2.1
  have hu : ∀ w ∈ wsU, w.before _ s = true := fun w h => hF.2.2.2.2 w (List.mem_cons_of_mem _ h)
  have hl : lv_has ls 3 [(0, .ref h0)] := hl
  refine lv_aload_n hx hb dX7_step_0 rfl (lv_at hl 0 rfl) ?_
  refine xg hF kf_X7_25 hK hP 0 rfl rfl dX7_step_1 ?_
  refine lv_istore_n (lv' := [(1, .int 0), (0, .ref h0)]) hx hb dX7_step_4 rfl hl (by decide) rfl (fun ls hl => ?_)
  refine lv_iload_n hx hb dX7_step_5 rfl (lv_at hl 0 rfl) ?_
  refine lv_aload_n hx hb dX7_step_6 rfl (lv_at hl 1 rfl) ?_
  refine xg hF kf_X7_9 hK hP 0 rfl rfl dX7_step_7 ?_
  refine lv_icmp_ge (tgt := 30) hx hb dX7_step_10 (by decide) (fun c_1 => ?_) (fun c_1 => absurd (by decide) c_1)
  refine lv_aload_n hx hb dX7_step_30 rfl (lv_at hl 1 rfl) ?_
  refine lv_iload_n hx hb dX7_step_31 rfl (lv_at hl 0 rfl) ?_
  refine xp hF kf_X7_22 tyX7_ok nmX7 hK hP hD hS 0 rfl rfl rfl rfl (Nat.le_of_ble_eq_true rfl) dX7_step_32 (fun H locs hP hD hS => ?_)
  have hP : va_P D vwCl [(h0, .inr (7, [.int 0, .ref ab, .int 0, .int 0, .int 0, .int 0, .int 0]))] H := hP
  have hD : va_D A [(h0, .inr (7, [.int 0, .ref ab, .int 0, .int 0, .int 0, .int 0, .int 0]))] := hD
  refine lv_aload_n hx hb dX7_step_35 rfl (lv_at hl 1 rfl) ?_
  refine lv_aload_n hx hb dX7_step_36 rfl (lv_at hl 1 rfl) ?_
  refine lv_iload_n hx hb dX7_step_37 rfl (lv_at hl 0 rfl) ?_
  refine xc_Vr hF (c_X7_kindAt l D cI cJ cZ cS sa H.size h0 ab ) kv_X7_142 ⟨rfl, rfl, Nat.le_of_ble_eq_true rfl, Nat.le_of_ble_eq_true rfl⟩ ⟨Nat.le_of_ble_eq_true rfl, Nat.le_of_ble_eq_true rfl⟩ hK hN hP hD [0] rfl rfl 0 rfl rfl rfl rfl hl.1 rfl (Nat.le_of_ble_eq_true rfl) dX7_step_38 (fun r_2 hw_r_2 => ?_)
  subst hw_r_2
  refine xp hF kf_X7_19 tyX7_ok nmX7 hK hP hD hS 0 rfl rfl rfl rfl (Nat.le_of_ble_eq_true rfl) dX7_step_41 (fun H locs hP hD hS => ?_)
  have hP : va_P D vwCl [(h0, .inr (7, [.int 0, .ref ab, .int 0, .int 0, .int 0, .int 0, .int 0]))] H := hP
  have hD : va_D A [(h0, .inr (7, [.int 0, .ref ab, .int 0, .int 0, .int 0, .int 0, .int 0]))] := hD
  refine lv_aload_n hx hb dX7_step_44 rfl (lv_at hl 1 rfl) ?_
  refine lv_iconst (v := 0) hx hb dX7_step_45 (by decide) ?_
  refine xp hF kf_X7_28 tyX7_ok nmX7 hK hP hD hS 0 rfl rfl rfl rfl (Nat.le_of_ble_eq_true rfl) dX7_step_46 (fun H locs hP hD hS => ?_)
  have hP : va_P D vwCl [(h0, .inr (7, [.int 0, .ref ab, .int 0, .int 0, .int 0, .int 0, .int 0]))] H := hP
  have hD : va_D A [(h0, .inr (7, [.int 0, .ref ab, .int 0, .int 0, .int 0, .int 0, .int 0]))] := hD
  refine lv_aload_n hx hb dX7_step_49 rfl (lv_at hl 1 rfl) ?_
  refine xg hF kf_X7_19 hK hP 0 rfl rfl dX7_step_50 ?_
  refine lv_iconst (v := 1) hx hb dX7_step_53 (by decide) ?_
  refine lv_icmp_eq (tgt := 65) hx hb dX7_step_54 (by decide) (fun c_3 => absurd c_3 (by decide)) (fun c_3 => ?_)
  refine lv_aload_n hx hb dX7_step_57 rfl (lv_at hl 1 rfl) ?_
  refine xg hF kf_X7_19 hK hP 0 rfl rfl dX7_step_58 ?_
  refine lv_iconst (v := 2) hx hb dX7_step_61 (by decide) ?_
  refine lv_icmp_ne (tgt := 69) hx hb dX7_step_62 (by decide) (fun c_4 => ?_) (fun c_4 => absurd c_4 (by decide))
  refine lv_iconst (v := 0) hx hb dX7_step_69 (by decide) ?_
  refine lv_istore_n (lv' := [(2, .int 0), (1, .int 0), (0, .ref h0)]) hx hb dX7_step_70 rfl hl (by decide) rfl (fun ls hl => ?_)
  refine lv_iload_n hx hb dX7_step_71 rfl (lv_at hl 1 rfl) ?_
  refine lv_aload_n hx hb dX7_step_72 rfl (lv_at hl 2 rfl) ?_
  refine xg hF kf_X7_9 hK hP 0 rfl rfl dX7_step_73 ?_
  refine lv_icmp_ge (tgt := 144) hx hb dX7_step_76 (by decide) (fun c_5 => ?_) (fun c_5 => absurd (by decide) c_5)
  refine lv_aload_n hx hb dX7_step_144 rfl (lv_at hl 2 rfl) ?_
  refine lv_iload_n hx hb dX7_step_145 rfl (lv_at hl 1 rfl) ?_
  refine xp hF kf_X7_25 tyX7_ok nmX7 hK hP hD hS 0 rfl rfl rfl rfl (Nat.le_of_ble_eq_true rfl) dX7_step_146 (fun H locs hP hD hS => ?_)
  have hP : va_P D vwCl [(h0, .inr (7, [.int 0, .ref ab, .int 0, .int 0, .int 0, .int 0, .int 0]))] H := hP
  have hD : va_D A [(h0, .inr (7, [.int 0, .ref ab, .int 0, .int 0, .int 0, .int 0, .int 0]))] := hD
  exact W.vret hx hb hr (fun t ht hW => ⟨⟨(), rfl, trivial, by rw [ht]; exact hP.sub [0] rfl, hD.sub [0] (by decide) rfl⟩, hS.F ht⟩) hS.2.2 dX7_step_149 hlk
set_option maxHeartbeats 4000000 in
set_option maxRecDepth 100000 in
theorem c_X7_isWord (l : Launch) (D : va_G) (cI cJ cZ cS : ClassId) (sa : Nat → Nat) (sz : Nat) (h0 : Nat) (ab : Nat) (q1 : Nat) : Met l yX7_isWord (Cond.code yX7_isWord cX7_isWord 3 (some .boolean) :: wsU) ({ frames := 0, cells := 0, slots := 0, locals := 0 }) (va_Pc [.ref h0, .ref q1] (XW D (xT cI cJ cZ cS) sa [(h0, .inr (7, [.int 0, .ref ab, .int 0, .int 0, .int 0, .int 0, .int 0]))] sz)) (vp_Si (fun r : Int32 => r = 0)) 0 0 (fun _ => False) := by
  refine xh (by decide) (Nat.le_of_ble_eq_true rfl) ?_
  intro p e s m below meth c ls hF hr hlk hin hsz hP hK hD hN hl
  have hF : CallFix p m c cX7_isWord 3 s _ _ RX7 := hF
  have hx := hF.1
  have hb := hF.2.1
  have hml := hF.2.2.1
  have hown := hF.2.2.2.1
  have hu : ∀ w ∈ wsU, w.before _ s = true := fun w h => hF.2.2.2.2 w (List.mem_cons_of_mem _ h)
  have hl : lv_has ls 3 [(0, .ref h0), (1, .ref q1)] := hl
  refine lv_aload_n hx hb dX7_isWord_0 rfl (lv_at hl 0 rfl) ?_
  refine xg hF kf_X7_19 hK hP 0 rfl rfl dX7_isWord_1 ?_
  refine lv_iconst (v := 1) hx hb dX7_isWord_4 (by decide) ?_
  refine lv_icmp_ne (tgt := 24) hx hb dX7_isWord_5 (by decide) (fun c_1 => ?_) (fun c_1 => absurd c_1 (by decide))
  refine lv_iconst (v := 0) hx hb dX7_isWord_24 (by decide) ?_
  exact W.zret (v := 0) hx hb hr rfl (fun t ht hW => ⟨0, rfl, rfl, ht⟩) (fun q h => by cases h) dX7_isWord_25 hlk
set_option maxHeartbeats 4000000 in
set_option maxRecDepth 100000 in
theorem c_X7_takeItem (l : Launch) (D : va_G) (cI cJ cZ cS : ClassId) (sa : Nat → Nat) (sz : Nat) (h0 : Nat) (ab : Nat) (q1 : Nat) : Met l yX7_takeItem (Cond.code yX7_takeItem cX7_takeItem 2 (some .boolean) :: wsU) ({ frames := 1, cells := 0, slots := 0, locals := 22 }) (va_Pc [.ref h0, .ref q1] (XW D (xT cI cJ cZ cS) sa [(h0, .inr (7, [.int 0, .ref ab, .int 0, .int 0, .int 0, .int 0, .int 0]))] sz)) (vp_Si (fun r : Int32 => r = 0)) 0 0 (fun _ => False) := by
  refine xh (by decide) (Nat.le_of_ble_eq_true rfl) ?_
  intro p e s m below meth c ls hF hr hlk hin hsz hP hK hD hN hl
  have hF : CallFix p m c cX7_takeItem 2 s _ _ RX7 := hF
  have hx := hF.1
  have hb := hF.2.1
  have hml := hF.2.2.1
  have hown := hF.2.2.2.1
  have hu : ∀ w ∈ wsU, w.before _ s = true := fun w h => hF.2.2.2.2 w (List.mem_cons_of_mem _ h)
  have hl : lv_has ls 2 [(0, .ref h0), (1, .ref q1)] := hl
  refine lv_aload_n hx hb dX7_takeItem_0 rfl (lv_at hl 0 rfl) ?_
  refine va_ldcS (tx := "place") (q := sa 0) hx hb hown (hN.2.2 (41, "place", 0) (by decide)) dX7_takeItem_1 ?_
  refine xc_Vr hF (c_X7_isWord l D cI cJ cZ cS sa s.heap.size h0 ab (sa 0) ) kv_X7_43 ⟨rfl, rfl, Nat.le_of_ble_eq_true rfl, Nat.le_of_ble_eq_true rfl⟩ ⟨Nat.le_of_ble_eq_true rfl, Nat.le_of_ble_eq_true rfl⟩ hK hN hP hD [0] rfl rfl 0 rfl rfl rfl rfl hl.1 rfl (Nat.le_of_ble_eq_true rfl) dX7_takeItem_3 (fun r_1 hw_r_1 => ?_)
  subst hw_r_1
  refine lv_if_eq (tgt := 15) hx hb dX7_takeItem_6 (by decide) (fun c_2 => ?_) (fun c_2 => absurd (by decide) c_2)
  refine lv_aload_n hx hb dX7_takeItem_15 rfl (lv_at hl 0 rfl) ?_
  refine va_ldcS (tx := "way") (q := sa 1) hx hb hown (hN.2.2 (50, "way", 1) (by decide)) dX7_takeItem_16 ?_
  refine xc_Vr hF (c_X7_isWord l D cI cJ cZ cS sa s.heap.size h0 ab (sa 1) ) kv_X7_43 ⟨rfl, rfl, Nat.le_of_ble_eq_true rfl, Nat.le_of_ble_eq_true rfl⟩ ⟨Nat.le_of_ble_eq_true rfl, Nat.le_of_ble_eq_true rfl⟩ hK hN hP hD [0] rfl rfl 0 rfl rfl rfl rfl hl.1 rfl (Nat.le_of_ble_eq_true rfl) dX7_takeItem_18 (fun r_3 hw_r_3 => ?_)
  subst hw_r_3
  refine lv_if_eq (tgt := 30) hx hb dX7_takeItem_21 (by decide) (fun c_4 => ?_) (fun c_4 => absurd (by decide) c_4)
  refine lv_aload_n hx hb dX7_takeItem_30 rfl (lv_at hl 0 rfl) ?_
  refine va_ldcS (tx := "walk") (q := sa 2) hx hb hown (hN.2.2 (55, "walk", 2) (by decide)) dX7_takeItem_31 ?_
  refine xc_Vr hF (c_X7_isWord l D cI cJ cZ cS sa s.heap.size h0 ab (sa 2) ) kv_X7_43 ⟨rfl, rfl, Nat.le_of_ble_eq_true rfl, Nat.le_of_ble_eq_true rfl⟩ ⟨Nat.le_of_ble_eq_true rfl, Nat.le_of_ble_eq_true rfl⟩ hK hN hP hD [0] rfl rfl 0 rfl rfl rfl rfl hl.1 rfl (Nat.le_of_ble_eq_true rfl) dX7_takeItem_33 (fun r_5 hw_r_5 => ?_)
  subst hw_r_5
  refine lv_if_eq (tgt := 51) hx hb dX7_takeItem_36 (by decide) (fun c_6 => ?_) (fun c_6 => absurd (by decide) c_6)
  refine lv_iconst (v := 0) hx hb dX7_takeItem_51 (by decide) ?_
  exact W.zret (v := 0) hx hb hr rfl (fun t ht hW => ⟨0, rfl, rfl, ht⟩) (fun q h => by cases h) dX7_takeItem_52 hlk
set_option maxHeartbeats 4000000 in
set_option maxRecDepth 100000 in
theorem c_X7_tellTo (l : Launch) (D : va_G) (cI cJ cZ cS : ClassId) (sa : Nat → Nat) (sz : Nat) (h0 : Nat) (ab : Nat) (q1 : Nat) : Met l yX7_tellTo (Cond.code yX7_tellTo cX7_tellTo 3 (some .int) :: wsU) ({ frames := 2, cells := 0, slots := 0, locals := 44 }) (va_Pc [.ref h0, .ref q1] (XW D (xT cI cJ cZ cS) sa [(h0, .inr (7, [.int 0, .ref ab, .int 0, .int 0, .int 0, .int 0, .int 0]))] sz)) (XQi (fun (r : Int32) (_ : Unit) => r = (-1)) D (fun _ : Unit => [(h0, .inr (7, [.int 0, .ref ab, .int 0, .int 0, .int 0, .int 0, .int 0]))]) (va_A [(h0, .inr (7, [.int 0, .ref ab, .int 0, .int 0, .int 0, .int 0, .int 0]))] sz)) 0 0 (va_A [(h0, .inr (7, [.int 0, .ref ab, .int 0, .int 0, .int 0, .int 0, .int 0]))] sz) := by
  refine xhw (QA := fun A => XQi (fun (r : Int32) (_ : Unit) => r = (-1)) D (fun _ : Unit => [(h0, .inr (7, [.int 0, .ref ab, .int 0, .int 0, .int 0, .int 0, .int 0]))]) A) (by decide) (Nat.le_of_ble_eq_true rfl) ?_
  intro p e s m below meth c ls A hF hr hlk hin hsz hP hK hD hN hA hS hl
  have hF : CallFix p m c cX7_tellTo 3 s _ _ RX7 := hF
  have hx := hF.1
  have hb := hF.2.1
  have hml := hF.2.2.1
  have hown := hF.2.2.2.1
  have hu : ∀ w ∈ wsU, w.before _ s = true := fun w h => hF.2.2.2.2 w (List.mem_cons_of_mem _ h)
  have hl : lv_has ls 3 [(0, .ref h0), (1, .ref q1)] := hl
  refine lv_aload_n hx hb dX7_tellTo_0 rfl (lv_at hl 0 rfl) ?_
  refine lv_iconst (v := 0) hx hb dX7_tellTo_1 (by decide) ?_
  refine xp hF kf_X7_25 tyX7_ok nmX7 hK hP hD hS 0 rfl rfl rfl rfl (Nat.le_of_ble_eq_true rfl) dX7_tellTo_2 (fun H locs hP hD hS => ?_)
  have hP : va_P D vwCl [(h0, .inr (7, [.int 0, .ref ab, .int 0, .int 0, .int 0, .int 0, .int 0]))] H := hP
  have hD : va_D A [(h0, .inr (7, [.int 0, .ref ab, .int 0, .int 0, .int 0, .int 0, .int 0]))] := hD
  refine lv_aload_n hx hb dX7_tellTo_5 rfl (lv_at hl 0 rfl) ?_
  refine xc_Vv (wr := []) hF (c_X7_step l D cI cJ cZ cS sa H.size h0 ab ) kv_X7_34 ⟨rfl, rfl, Nat.le_of_ble_eq_true rfl, Nat.le_of_ble_eq_true rfl⟩ ⟨Nat.le_of_ble_eq_true rfl, Nat.le_of_ble_eq_true rfl⟩ hK hN hP hD hS hA [0] [] rfl rfl rfl rfl (by decide) 0 rfl rfl rfl rfl hl.1 rfl (Nat.le_of_ble_eq_true rfl) dX7_tellTo_6 (fun u_r_1 H locs hw_r_1 hP hD hS => ?_)
  have hP : va_P D vwCl [(h0, .inr (7, [.int 0, .ref ab, .int 0, .int 0, .int 0, .int 0, .int 0]))] H := hP
  have hD : va_D A [(h0, .inr (7, [.int 0, .ref ab, .int 0, .int 0, .int 0, .int 0, .int 0]))] := hD
  refine lv_iconst (v := 1) hx hb dX7_tellTo_9 (by decide) ?_
  refine lv_istore_n (lv' := [(2, .int 1), (0, .ref h0), (1, .ref q1)]) hx hb dX7_tellTo_10 rfl hl (by decide) rfl (fun ls hl => ?_)
  refine lv_iload_n hx hb dX7_tellTo_11 rfl (lv_at hl 0 rfl) ?_
  refine lv_bipush (v := 120) hx hb dX7_tellTo_12 (by decide) ?_
  refine lv_icmp_gt (tgt := 66) hx hb dX7_tellTo_14 (by decide) (fun c_2 => absurd c_2 (by decide)) (fun c_2 => ?_)
  refine lv_aload_n hx hb dX7_tellTo_17 rfl (lv_at hl 1 rfl) ?_
  refine lv_aload_n hx hb dX7_tellTo_18 rfl (lv_at hl 2 rfl) ?_
  refine xc_Vr hF (c_X7_takeItem l D cI cJ cZ cS sa H.size h0 ab q1 ) kv_X7_37 ⟨rfl, rfl, Nat.le_of_ble_eq_true rfl, Nat.le_of_ble_eq_true rfl⟩ ⟨Nat.le_of_ble_eq_true rfl, Nat.le_of_ble_eq_true rfl⟩ hK hN hP hD [0] rfl rfl 0 rfl rfl rfl rfl hl.1 rfl (Nat.le_of_ble_eq_true rfl) dX7_tellTo_19 (fun r_3 hw_r_3 => ?_)
  subst hw_r_3
  refine lv_if_ne (tgt := 32) hx hb dX7_tellTo_22 (by decide) (fun c_4 => absurd (by decide) c_4) (fun c_4 => ?_)
  refine lv_iconst (v := (-1)) hx hb dX7_tellTo_25 (by decide) ?_
  refine lv_aload_n hx hb dX7_tellTo_26 rfl (lv_at hl 1 rfl) ?_
  refine xg hF kf_X7_22 hK hP 0 rfl rfl dX7_tellTo_27 ?_
  refine lv_isub hx hb dX7_tellTo_30 ?_
  refine xl_i (y := (-1)) (by decide) ?_
  exact W.iret (v := (-1)) hx hb hr (fun t ht hW => ⟨⟨(-1), (), rfl, rfl, by rw [ht]; exact hP.sub [0] rfl, hD.sub [0] (by decide) rfl⟩, hS.F ht⟩) hS.2.2 dX7_tellTo_31 hlk
set_option maxHeartbeats 4000000 in
set_option maxRecDepth 100000 in
theorem c_X7_addByte_0 (l : Launch) (D : va_G) (cI cJ cZ cS : ClassId) (sa : Nat → Nat) (sz : Nat) (h0 : Nat) (ab : Nat) (p0 : Int32) (f : Nat → Int32) : Met l yX7_addByte (Cond.code yX7_addByte cX7_addByte 2 none :: wsU) ({ frames := 0, cells := 0, slots := 0, locals := 0 }) (va_Pc [.ref h0, .int p0] (XW D (xT cI cJ cZ cS) sa [(h0, .inr (7, [.int 0, .ref ab, .int 0, .int 0, .int 0, .int 0, .int 0])), (ab, .inl (cI, 120, .inl f))] sz)) (XQv (fun _ : (Nat → Int32) => True) D (fun (f2 : Nat → Int32) => [(h0, .inr (7, [.int 1, .ref ab, .int 0, .int 0, .int 0, .int 0, .int 0])), (ab, .inl (cI, 120, .inl f2))]) (va_A [(h0, .inr (7, [.int 0, .ref ab, .int 0, .int 0, .int 0, .int 0, .int 0])), (ab, .inl (cI, 120, .inl f))] sz)) 0 0 (va_A [(h0, .inr (7, [.int 0, .ref ab, .int 0, .int 0, .int 0, .int 0, .int 0])), (ab, .inl (cI, 120, .inl f))] sz) := by
  refine xhw (QA := fun A => XQv (fun _ : (Nat → Int32) => True) D (fun (f2 : Nat → Int32) => [(h0, .inr (7, [.int 1, .ref ab, .int 0, .int 0, .int 0, .int 0, .int 0])), (ab, .inl (cI, 120, .inl f2))]) A) (by decide) (Nat.le_of_ble_eq_true rfl) ?_
  intro p e s m below meth c ls A hF hr hlk hin hsz hP hK hD hN hA hS hl
  have hF : CallFix p m c cX7_addByte 2 s _ _ RX7 := hF
  have hx := hF.1
  have hb := hF.2.1
  have hml := hF.2.2.1
  have hown := hF.2.2.2.1
  have hu : ∀ w ∈ wsU, w.before _ s = true := fun w h => hF.2.2.2.2 w (List.mem_cons_of_mem _ h)
  have hl : lv_has ls 2 [(0, .ref h0), (1, .int p0)] := hl
  refine lv_aload_n hx hb dX7_addByte_0 rfl (lv_at hl 0 rfl) ?_
  refine xg hF kf_X7_9 hK hP 0 rfl rfl dX7_addByte_1 ?_
  refine lv_bipush (v := 120) hx hb dX7_addByte_4 (by decide) ?_
  refine lv_icmp_ge (tgt := 29) hx hb dX7_addByte_6 (by decide) (fun c_1 => absurd c_1 (by decide)) (fun c_1 => ?_)
  refine lv_aload_n hx hb dX7_addByte_9 rfl (lv_at hl 0 rfl) ?_
  refine xg hF kf_X7_15 hK hP 0 rfl rfl dX7_addByte_10 ?_
  refine lv_aload_n hx hb dX7_addByte_13 rfl (lv_at hl 0 rfl) ?_
  refine xg hF kf_X7_9 hK hP 0 rfl rfl dX7_addByte_14 ?_
  refine lv_iload_n hx hb dX7_addByte_17 rfl (lv_at hl 1 rfl) ?_
  refine va_iast hx hb hK hP hD hS 1 0 rfl rfl (xin 0 120 (by decide) (by decide)) dX7_addByte_18 (fun H locs hP hD hS => ?_)
  obtain ⟨f_2, ef_2⟩ : ∃ g, g = upd f (0 : Int32).toNatClampNeg p0 := ⟨_, rfl⟩
  rw [← ef_2] at hP hD
  have hP : va_P D vwCl [(h0, .inr (7, [.int 0, .ref ab, .int 0, .int 0, .int 0, .int 0, .int 0])), (ab, .inl (cI, 120, .inl f_2))] H := hP
  have hD : va_D A [(h0, .inr (7, [.int 0, .ref ab, .int 0, .int 0, .int 0, .int 0, .int 0])), (ab, .inl (cI, 120, .inl f_2))] := hD
  refine lv_aload_n hx hb dX7_addByte_19 rfl (lv_at hl 0 rfl) ?_
  refine lv_dup hx hb dX7_addByte_20 rfl ?_
  refine xg hF kf_X7_9 hK hP 0 rfl rfl dX7_addByte_21 ?_
  refine lv_iconst (v := 1) hx hb dX7_addByte_24 (by decide) ?_
  refine lv_iadd hx hb dX7_addByte_25 ?_
  refine xl_i (y := 1) (by decide) ?_
  refine xp hF kf_X7_9 tyX7_ok nmX7 hK hP hD hS 0 rfl rfl rfl rfl (Nat.le_of_ble_eq_true rfl) dX7_addByte_26 (fun H locs hP hD hS => ?_)
  have hP : va_P D vwCl [(h0, .inr (7, [.int 1, .ref ab, .int 0, .int 0, .int 0, .int 0, .int 0])), (ab, .inl (cI, 120, .inl f_2))] H := hP
  have hD : va_D A [(h0, .inr (7, [.int 1, .ref ab, .int 0, .int 0, .int 0, .int 0, .int 0])), (ab, .inl (cI, 120, .inl f_2))] := hD
  exact W.vret hx hb hr (fun t ht hW => ⟨⟨f_2, rfl, trivial, by rw [ht]; exact hP.sub [0, 1] rfl, hD.sub [0, 1] (by decide) rfl⟩, hS.F ht⟩) hS.2.2 dX7_addByte_29 hlk
set_option maxHeartbeats 4000000 in
set_option maxRecDepth 100000 in
theorem c_X7_addByte_1 (l : Launch) (D : va_G) (cI cJ cZ cS : ClassId) (sa : Nat → Nat) (sz : Nat) (h0 : Nat) (ab : Nat) (p0 : Int32) (f : Nat → Int32) : Met l yX7_addByte (Cond.code yX7_addByte cX7_addByte 2 none :: wsU) ({ frames := 0, cells := 0, slots := 0, locals := 0 }) (va_Pc [.ref h0, .int p0] (XW D (xT cI cJ cZ cS) sa [(h0, .inr (7, [.int 1, .ref ab, .int 0, .int 0, .int 0, .int 0, .int 0])), (ab, .inl (cI, 120, .inl f))] sz)) (XQv (fun _ : (Nat → Int32) => True) D (fun (f2 : Nat → Int32) => [(h0, .inr (7, [.int 2, .ref ab, .int 0, .int 0, .int 0, .int 0, .int 0])), (ab, .inl (cI, 120, .inl f2))]) (va_A [(h0, .inr (7, [.int 1, .ref ab, .int 0, .int 0, .int 0, .int 0, .int 0])), (ab, .inl (cI, 120, .inl f))] sz)) 0 0 (va_A [(h0, .inr (7, [.int 1, .ref ab, .int 0, .int 0, .int 0, .int 0, .int 0])), (ab, .inl (cI, 120, .inl f))] sz) := by
  refine xhw (QA := fun A => XQv (fun _ : (Nat → Int32) => True) D (fun (f2 : Nat → Int32) => [(h0, .inr (7, [.int 2, .ref ab, .int 0, .int 0, .int 0, .int 0, .int 0])), (ab, .inl (cI, 120, .inl f2))]) A) (by decide) (Nat.le_of_ble_eq_true rfl) ?_
  intro p e s m below meth c ls A hF hr hlk hin hsz hP hK hD hN hA hS hl
  have hF : CallFix p m c cX7_addByte 2 s _ _ RX7 := hF
  have hx := hF.1
  have hb := hF.2.1
  have hml := hF.2.2.1
  have hown := hF.2.2.2.1
  have hu : ∀ w ∈ wsU, w.before _ s = true := fun w h => hF.2.2.2.2 w (List.mem_cons_of_mem _ h)
  have hl : lv_has ls 2 [(0, .ref h0), (1, .int p0)] := hl
  refine lv_aload_n hx hb dX7_addByte_0 rfl (lv_at hl 0 rfl) ?_
  refine xg hF kf_X7_9 hK hP 0 rfl rfl dX7_addByte_1 ?_
  refine lv_bipush (v := 120) hx hb dX7_addByte_4 (by decide) ?_
  refine lv_icmp_ge (tgt := 29) hx hb dX7_addByte_6 (by decide) (fun c_1 => absurd c_1 (by decide)) (fun c_1 => ?_)
  refine lv_aload_n hx hb dX7_addByte_9 rfl (lv_at hl 0 rfl) ?_
  refine xg hF kf_X7_15 hK hP 0 rfl rfl dX7_addByte_10 ?_
  refine lv_aload_n hx hb dX7_addByte_13 rfl (lv_at hl 0 rfl) ?_
  refine xg hF kf_X7_9 hK hP 0 rfl rfl dX7_addByte_14 ?_
  refine lv_iload_n hx hb dX7_addByte_17 rfl (lv_at hl 1 rfl) ?_
  refine va_iast hx hb hK hP hD hS 1 0 rfl rfl (xin 1 120 (by decide) (by decide)) dX7_addByte_18 (fun H locs hP hD hS => ?_)
  obtain ⟨f_2, ef_2⟩ : ∃ g, g = upd f (1 : Int32).toNatClampNeg p0 := ⟨_, rfl⟩
  rw [← ef_2] at hP hD
  have hP : va_P D vwCl [(h0, .inr (7, [.int 1, .ref ab, .int 0, .int 0, .int 0, .int 0, .int 0])), (ab, .inl (cI, 120, .inl f_2))] H := hP
  have hD : va_D A [(h0, .inr (7, [.int 1, .ref ab, .int 0, .int 0, .int 0, .int 0, .int 0])), (ab, .inl (cI, 120, .inl f_2))] := hD
  refine lv_aload_n hx hb dX7_addByte_19 rfl (lv_at hl 0 rfl) ?_
  refine lv_dup hx hb dX7_addByte_20 rfl ?_
  refine xg hF kf_X7_9 hK hP 0 rfl rfl dX7_addByte_21 ?_
  refine lv_iconst (v := 1) hx hb dX7_addByte_24 (by decide) ?_
  refine lv_iadd hx hb dX7_addByte_25 ?_
  refine xl_i (y := 2) (by decide) ?_
  refine xp hF kf_X7_9 tyX7_ok nmX7 hK hP hD hS 0 rfl rfl rfl rfl (Nat.le_of_ble_eq_true rfl) dX7_addByte_26 (fun H locs hP hD hS => ?_)
  have hP : va_P D vwCl [(h0, .inr (7, [.int 2, .ref ab, .int 0, .int 0, .int 0, .int 0, .int 0])), (ab, .inl (cI, 120, .inl f_2))] H := hP
  have hD : va_D A [(h0, .inr (7, [.int 2, .ref ab, .int 0, .int 0, .int 0, .int 0, .int 0])), (ab, .inl (cI, 120, .inl f_2))] := hD
  exact W.vret hx hb hr (fun t ht hW => ⟨⟨f_2, rfl, trivial, by rw [ht]; exact hP.sub [0, 1] rfl, hD.sub [0, 1] (by decide) rfl⟩, hS.F ht⟩) hS.2.2 dX7_addByte_29 hlk
set_option maxHeartbeats 4000000 in
set_option maxRecDepth 100000 in
theorem c_X7_addByte_2 (l : Launch) (D : va_G) (cI cJ cZ cS : ClassId) (sa : Nat → Nat) (sz : Nat) (h0 : Nat) (ab : Nat) (p0 : Int32) (f : Nat → Int32) : Met l yX7_addByte (Cond.code yX7_addByte cX7_addByte 2 none :: wsU) ({ frames := 0, cells := 0, slots := 0, locals := 0 }) (va_Pc [.ref h0, .int p0] (XW D (xT cI cJ cZ cS) sa [(h0, .inr (7, [.int 2, .ref ab, .int 0, .int 0, .int 0, .int 0, .int 0])), (ab, .inl (cI, 120, .inl f))] sz)) (XQv (fun _ : (Nat → Int32) => True) D (fun (f2 : Nat → Int32) => [(h0, .inr (7, [.int 3, .ref ab, .int 0, .int 0, .int 0, .int 0, .int 0])), (ab, .inl (cI, 120, .inl f2))]) (va_A [(h0, .inr (7, [.int 2, .ref ab, .int 0, .int 0, .int 0, .int 0, .int 0])), (ab, .inl (cI, 120, .inl f))] sz)) 0 0 (va_A [(h0, .inr (7, [.int 2, .ref ab, .int 0, .int 0, .int 0, .int 0, .int 0])), (ab, .inl (cI, 120, .inl f))] sz) := by
  refine xhw (QA := fun A => XQv (fun _ : (Nat → Int32) => True) D (fun (f2 : Nat → Int32) => [(h0, .inr (7, [.int 3, .ref ab, .int 0, .int 0, .int 0, .int 0, .int 0])), (ab, .inl (cI, 120, .inl f2))]) A) (by decide) (Nat.le_of_ble_eq_true rfl) ?_
  intro p e s m below meth c ls A hF hr hlk hin hsz hP hK hD hN hA hS hl
  have hF : CallFix p m c cX7_addByte 2 s _ _ RX7 := hF
  have hx := hF.1
  have hb := hF.2.1
  have hml := hF.2.2.1
  have hown := hF.2.2.2.1
  have hu : ∀ w ∈ wsU, w.before _ s = true := fun w h => hF.2.2.2.2 w (List.mem_cons_of_mem _ h)
  have hl : lv_has ls 2 [(0, .ref h0), (1, .int p0)] := hl
  refine lv_aload_n hx hb dX7_addByte_0 rfl (lv_at hl 0 rfl) ?_
  refine xg hF kf_X7_9 hK hP 0 rfl rfl dX7_addByte_1 ?_
  refine lv_bipush (v := 120) hx hb dX7_addByte_4 (by decide) ?_
  refine lv_icmp_ge (tgt := 29) hx hb dX7_addByte_6 (by decide) (fun c_1 => absurd c_1 (by decide)) (fun c_1 => ?_)
  refine lv_aload_n hx hb dX7_addByte_9 rfl (lv_at hl 0 rfl) ?_
  refine xg hF kf_X7_15 hK hP 0 rfl rfl dX7_addByte_10 ?_
  refine lv_aload_n hx hb dX7_addByte_13 rfl (lv_at hl 0 rfl) ?_
  refine xg hF kf_X7_9 hK hP 0 rfl rfl dX7_addByte_14 ?_
  refine lv_iload_n hx hb dX7_addByte_17 rfl (lv_at hl 1 rfl) ?_
  refine va_iast hx hb hK hP hD hS 1 0 rfl rfl (xin 2 120 (by decide) (by decide)) dX7_addByte_18 (fun H locs hP hD hS => ?_)
  obtain ⟨f_2, ef_2⟩ : ∃ g, g = upd f (2 : Int32).toNatClampNeg p0 := ⟨_, rfl⟩
  rw [← ef_2] at hP hD
  have hP : va_P D vwCl [(h0, .inr (7, [.int 2, .ref ab, .int 0, .int 0, .int 0, .int 0, .int 0])), (ab, .inl (cI, 120, .inl f_2))] H := hP
  have hD : va_D A [(h0, .inr (7, [.int 2, .ref ab, .int 0, .int 0, .int 0, .int 0, .int 0])), (ab, .inl (cI, 120, .inl f_2))] := hD
  refine lv_aload_n hx hb dX7_addByte_19 rfl (lv_at hl 0 rfl) ?_
  refine lv_dup hx hb dX7_addByte_20 rfl ?_
  refine xg hF kf_X7_9 hK hP 0 rfl rfl dX7_addByte_21 ?_
  refine lv_iconst (v := 1) hx hb dX7_addByte_24 (by decide) ?_
  refine lv_iadd hx hb dX7_addByte_25 ?_
  refine xl_i (y := 3) (by decide) ?_
  refine xp hF kf_X7_9 tyX7_ok nmX7 hK hP hD hS 0 rfl rfl rfl rfl (Nat.le_of_ble_eq_true rfl) dX7_addByte_26 (fun H locs hP hD hS => ?_)
  have hP : va_P D vwCl [(h0, .inr (7, [.int 3, .ref ab, .int 0, .int 0, .int 0, .int 0, .int 0])), (ab, .inl (cI, 120, .inl f_2))] H := hP
  have hD : va_D A [(h0, .inr (7, [.int 3, .ref ab, .int 0, .int 0, .int 0, .int 0, .int 0])), (ab, .inl (cI, 120, .inl f_2))] := hD
  exact W.vret hx hb hr (fun t ht hW => ⟨⟨f_2, rfl, trivial, by rw [ht]; exact hP.sub [0, 1] rfl, hD.sub [0, 1] (by decide) rfl⟩, hS.F ht⟩) hS.2.2 dX7_addByte_29 hlk
set_option maxHeartbeats 4000000 in
set_option maxRecDepth 100000 in
theorem c_X7_addByte_3 (l : Launch) (D : va_G) (cI cJ cZ cS : ClassId) (sa : Nat → Nat) (sz : Nat) (h0 : Nat) (ab : Nat) (p0 : Int32) (f : Nat → Int32) : Met l yX7_addByte (Cond.code yX7_addByte cX7_addByte 2 none :: wsU) ({ frames := 0, cells := 0, slots := 0, locals := 0 }) (va_Pc [.ref h0, .int p0] (XW D (xT cI cJ cZ cS) sa [(h0, .inr (7, [.int 3, .ref ab, .int 0, .int 0, .int 0, .int 0, .int 0])), (ab, .inl (cI, 120, .inl f))] sz)) (XQv (fun _ : (Nat → Int32) => True) D (fun (f2 : Nat → Int32) => [(h0, .inr (7, [.int 4, .ref ab, .int 0, .int 0, .int 0, .int 0, .int 0])), (ab, .inl (cI, 120, .inl f2))]) (va_A [(h0, .inr (7, [.int 3, .ref ab, .int 0, .int 0, .int 0, .int 0, .int 0])), (ab, .inl (cI, 120, .inl f))] sz)) 0 0 (va_A [(h0, .inr (7, [.int 3, .ref ab, .int 0, .int 0, .int 0, .int 0, .int 0])), (ab, .inl (cI, 120, .inl f))] sz) := by
  refine xhw (QA := fun A => XQv (fun _ : (Nat → Int32) => True) D (fun (f2 : Nat → Int32) => [(h0, .inr (7, [.int 4, .ref ab, .int 0, .int 0, .int 0, .int 0, .int 0])), (ab, .inl (cI, 120, .inl f2))]) A) (by decide) (Nat.le_of_ble_eq_true rfl) ?_
  intro p e s m below meth c ls A hF hr hlk hin hsz hP hK hD hN hA hS hl
  have hF : CallFix p m c cX7_addByte 2 s _ _ RX7 := hF
  have hx := hF.1
  have hb := hF.2.1
  have hml := hF.2.2.1
  have hown := hF.2.2.2.1
  have hu : ∀ w ∈ wsU, w.before _ s = true := fun w h => hF.2.2.2.2 w (List.mem_cons_of_mem _ h)
  have hl : lv_has ls 2 [(0, .ref h0), (1, .int p0)] := hl
  refine lv_aload_n hx hb dX7_addByte_0 rfl (lv_at hl 0 rfl) ?_
  refine xg hF kf_X7_9 hK hP 0 rfl rfl dX7_addByte_1 ?_
  refine lv_bipush (v := 120) hx hb dX7_addByte_4 (by decide) ?_
  refine lv_icmp_ge (tgt := 29) hx hb dX7_addByte_6 (by decide) (fun c_1 => absurd c_1 (by decide)) (fun c_1 => ?_)
  refine lv_aload_n hx hb dX7_addByte_9 rfl (lv_at hl 0 rfl) ?_
  refine xg hF kf_X7_15 hK hP 0 rfl rfl dX7_addByte_10 ?_
  refine lv_aload_n hx hb dX7_addByte_13 rfl (lv_at hl 0 rfl) ?_
  refine xg hF kf_X7_9 hK hP 0 rfl rfl dX7_addByte_14 ?_
  refine lv_iload_n hx hb dX7_addByte_17 rfl (lv_at hl 1 rfl) ?_
  refine va_iast hx hb hK hP hD hS 1 0 rfl rfl (xin 3 120 (by decide) (by decide)) dX7_addByte_18 (fun H locs hP hD hS => ?_)
  obtain ⟨f_2, ef_2⟩ : ∃ g, g = upd f (3 : Int32).toNatClampNeg p0 := ⟨_, rfl⟩
  rw [← ef_2] at hP hD
  have hP : va_P D vwCl [(h0, .inr (7, [.int 3, .ref ab, .int 0, .int 0, .int 0, .int 0, .int 0])), (ab, .inl (cI, 120, .inl f_2))] H := hP
  have hD : va_D A [(h0, .inr (7, [.int 3, .ref ab, .int 0, .int 0, .int 0, .int 0, .int 0])), (ab, .inl (cI, 120, .inl f_2))] := hD
  refine lv_aload_n hx hb dX7_addByte_19 rfl (lv_at hl 0 rfl) ?_
  refine lv_dup hx hb dX7_addByte_20 rfl ?_
  refine xg hF kf_X7_9 hK hP 0 rfl rfl dX7_addByte_21 ?_
  refine lv_iconst (v := 1) hx hb dX7_addByte_24 (by decide) ?_
  refine lv_iadd hx hb dX7_addByte_25 ?_
  refine xl_i (y := 4) (by decide) ?_
  refine xp hF kf_X7_9 tyX7_ok nmX7 hK hP hD hS 0 rfl rfl rfl rfl (Nat.le_of_ble_eq_true rfl) dX7_addByte_26 (fun H locs hP hD hS => ?_)
  have hP : va_P D vwCl [(h0, .inr (7, [.int 4, .ref ab, .int 0, .int 0, .int 0, .int 0, .int 0])), (ab, .inl (cI, 120, .inl f_2))] H := hP
  have hD : va_D A [(h0, .inr (7, [.int 4, .ref ab, .int 0, .int 0, .int 0, .int 0, .int 0])), (ab, .inl (cI, 120, .inl f_2))] := hD
  exact W.vret hx hb hr (fun t ht hW => ⟨⟨f_2, rfl, trivial, by rw [ht]; exact hP.sub [0, 1] rfl, hD.sub [0, 1] (by decide) rfl⟩, hS.F ht⟩) hS.2.2 dX7_addByte_29 hlk
set_option maxHeartbeats 4000000 in
set_option maxRecDepth 100000 in
theorem c_X4_isMissing (l : Launch) (D : va_G) (cI cJ cZ cS : ClassId) (sa : Nat → Nat) (sz : Nat) (h0 : Nat) (an : Nat) : Met l yX4_isMissing (Cond.code yX4_isMissing cX4_isMissing 1 (some .boolean) :: wsU) ({ frames := 0, cells := 0, slots := 0, locals := 0 }) (va_Pc [.ref h0] (XW D (xT cI cJ cZ cS) sa [(h0, .inr (4, [.int 0, .int 0, .ref an]))] sz)) (vp_Si (fun r : Int32 => r = 1)) 0 0 (fun _ => False) := by
  refine xh (by decide) (Nat.le_of_ble_eq_true rfl) ?_
  intro p e s m below meth c ls hF hr hlk hin hsz hP hK hD hN hl
  have hF : CallFix p m c cX4_isMissing 1 s _ _ RX4 := hF
  have hx := hF.1
  have hb := hF.2.1
  have hml := hF.2.2.1
  have hown := hF.2.2.2.1
  have hu : ∀ w ∈ wsU, w.before _ s = true := fun w h => hF.2.2.2.2 w (List.mem_cons_of_mem _ h)
  have hl : lv_has ls 1 [(0, .ref h0)] := hl
  refine lv_aload_n hx hb dX4_isMissing_0 rfl (lv_at hl 0 rfl) ?_
  refine xg hF kf_X4_9 hK hP 0 rfl rfl dX4_isMissing_1 ?_
  refine lv_if_ne (tgt := 11) hx hb dX4_isMissing_4 (by decide) (fun c_1 => absurd (by decide) c_1) (fun c_1 => ?_)
  refine lv_iconst (v := 1) hx hb dX4_isMissing_7 (by decide) ?_
  refine lv_goto (tgt := 12) hx hb dX4_isMissing_8 (by decide) ?_
  exact W.zret (v := 1) hx hb hr rfl (fun t ht hW => ⟨1, rfl, rfl, ht⟩) (fun q h => by cases h) dX4_isMissing_12 hlk
set_option maxHeartbeats 4000000 in
set_option maxRecDepth 100000 in
theorem c_X4_begin (l : Launch) (D : va_G) (cI cJ cZ cS : ClassId) (sa : Nat → Nat) (sz : Nat) (h0 : Nat) (an : Nat) (p0 : Int32) (p1 : Int32) (f : Nat → Int64) : Met l yX4_begin (Cond.code yX4_begin cX4_begin 4 none :: wsU) ({ frames := 0, cells := 0, slots := 0, locals := 0 }) (va_Pc [.ref h0, .int p0, .int p1] (XW D (xT cI cJ cZ cS) sa [(h0, .inr (4, [.int 0, .int 0, .ref an])), (an, .inl (cJ, 40, .inr (.inl f)))] sz)) (XQv (fun _ : Unit => True) D (fun _ : Unit => [(h0, .inr (4, [.int p0, .int p1, .ref an]))]) (va_A [(h0, .inr (4, [.int 0, .int 0, .ref an])), (an, .inl (cJ, 40, .inr (.inl f)))] sz)) 0 0 (va_A [(h0, .inr (4, [.int 0, .int 0, .ref an])), (an, .inl (cJ, 40, .inr (.inl f)))] sz) := by
  refine xhw (QA := fun A => XQv (fun _ : Unit => True) D (fun _ : Unit => [(h0, .inr (4, [.int p0, .int p1, .ref an]))]) A) (by decide) (Nat.le_of_ble_eq_true rfl) ?_
  intro p e s m below meth c ls A hF hr hlk hin hsz hP hK hD hN hA hS hl
  have hF : CallFix p m c cX4_begin 4 s _ _ RX4 := hF
  have hx := hF.1
  have hb := hF.2.1
  have hml := hF.2.2.1
  have hown := hF.2.2.2.1
  have hu : ∀ w ∈ wsU, w.before _ s = true := fun w h => hF.2.2.2.2 w (List.mem_cons_of_mem _ h)
  have hl : lv_has ls 4 [(0, .ref h0), (1, .int p0), (2, .int p1)] := hl
  refine lv_aload_n hx hb dX4_begin_0 rfl (lv_at hl 0 rfl) ?_
  refine lv_iload_n hx hb dX4_begin_1 rfl (lv_at hl 1 rfl) ?_
  refine xp hF kf_X4_9 tyX4_ok nmX4 hK hP hD hS 0 rfl rfl rfl rfl (Nat.le_of_ble_eq_true rfl) dX4_begin_2 (fun H locs hP hD hS => ?_)
  have hP : va_P D vwCl [(h0, .inr (4, [.int p0, .int 0, .ref an])), (an, .inl (cJ, 40, .inr (.inl f)))] H := hP
  have hD : va_D A [(h0, .inr (4, [.int p0, .int 0, .ref an])), (an, .inl (cJ, 40, .inr (.inl f)))] := hD
  refine lv_aload_n hx hb dX4_begin_5 rfl (lv_at hl 0 rfl) ?_
  refine lv_iload_n hx hb dX4_begin_6 rfl (lv_at hl 2 rfl) ?_
  refine xp hF kf_X4_15 tyX4_ok nmX4 hK hP hD hS 0 rfl rfl rfl rfl (Nat.le_of_ble_eq_true rfl) dX4_begin_7 (fun H locs hP hD hS => ?_)
  have hP : va_P D vwCl [(h0, .inr (4, [.int p0, .int p1, .ref an])), (an, .inl (cJ, 40, .inr (.inl f)))] H := hP
  have hD : va_D A [(h0, .inr (4, [.int p0, .int p1, .ref an])), (an, .inl (cJ, 40, .inr (.inl f)))] := hD
  refine lv_iconst (v := 0) hx hb dX4_begin_10 (by decide) ?_
  refine lv_istore_n (lv' := [(3, .int 0), (0, .ref h0), (1, .int p0), (2, .int p1)]) hx hb dX4_begin_11 rfl hl (by decide) rfl (fun ls hl => ?_)
  suffices loop_2 : ∀ (n k_1 : Nat) (f9 : Nat → Int64) (H : Heap) (locs : List Loc) (ls : Array Slot), k_1 + n = 40 → va_P D vwCl [(h0, .inr (4, [.int p0, .int p1, .ref an])), (an, .inl (cJ, 40, .inr (.inl f9)))] H → va_D A [(h0, .inr (4, [.int p0, .int p1, .ref an])), (an, .inl (cJ, 40, .inr (.inl f9)))] → va_S A s.heap H locs → lv_has ls 4 [(3, .int (nI (k_1))), (0, .ref h0), (1, .int p0), (2, .int p1)] → W p l e ({ frames := 0, cells := 0, slots := 0, locals := 0 }) s m ([.ref h0, .int p0, .int p1] : List Value).toArray below meth c H locs 0 0 (MQ below (XQv (fun _ : Unit => True) D (fun _ : Unit => [(h0, .inr (4, [.int p0, .int p1, .ref an]))]) A) ([.ref h0, .int p0, .int p1] : List Value).toArray s 0 0 A) (F0 m 12 ls []) by
    exact loop_2 40 0 f _ _ _ (by decide) hP hD hS (lv_sub hl [0, 1, 2, 3] rfl)
  intro n
  induction n with
  | zero =>
    intro k_1 f9 H locs ls hk hP hD hS hl 
    have hk2 : k_1 = 40 := by omega
    subst hk2
    have hl : lv_has ls 4 [(3, .int 40), (0, .ref h0), (1, .int p0), (2, .int p1)] := hl
    refine lv_iload_n hx hb dX4_begin_12 rfl (lv_at hl 0 rfl) ?_
    refine lv_bipush (v := 40) hx hb dX4_begin_13 (by decide) ?_
    refine lv_icmp_ge (tgt := 31) hx hb dX4_begin_15 (by decide) (fun c_3 => ?_) (fun c_3 => absurd (by decide) c_3)
    exact W.vret hx hb hr (fun t ht hW => ⟨⟨(), rfl, trivial, by rw [ht]; exact hP.sub [0] rfl, hD.sub [0] (by decide) rfl⟩, hS.F ht⟩) hS.2.2 dX4_begin_31 hlk
  | succ n ih =>
    intro k_1 f9 H locs ls hk hP hD hS hl 
    have hlt_k_1 : k_1 < 40 := by omega
    refine lv_iload_n hx hb dX4_begin_12 rfl (lv_at hl 0 rfl) ?_
    refine lv_bipush (v := 40) hx hb dX4_begin_13 (by decide) ?_
    refine lv_icmp_ge (tgt := 31) hx hb dX4_begin_15 (by decide) (fun c_4 => absurd c_4 (nI_ge hlt_k_1 (by decide))) (fun c_4 => ?_)
    refine lv_aload_n hx hb dX4_begin_18 rfl (lv_at hl 1 rfl) ?_
    refine xg hF kf_X4_18 hK hP 0 rfl rfl dX4_begin_19 ?_
    refine lv_iload_n hx hb dX4_begin_22 rfl (lv_at hl 0 rfl) ?_
    refine lv_lconst (v := 0) hx hb dX4_begin_23 (by decide) ?_
    refine va_last hx hb hK hP hD hS 1 1 rfl rfl (vp_in_nI (show k_1 < 40 by omega) (by decide)) dX4_begin_24 (fun H locs hP hD hS => ?_)
    obtain ⟨f_5, ef_5⟩ : ∃ g, g = vp_updL f9 (nI (k_1)).toNatClampNeg 0 := ⟨_, rfl⟩
    rw [← ef_5] at hP hD
    have hP : va_P D vwCl [(h0, .inr (4, [.int p0, .int p1, .ref an])), (an, .inl (cJ, 40, .inr (.inl f_5)))] H := hP
    have hD : va_D A [(h0, .inr (4, [.int p0, .int p1, .ref an])), (an, .inl (cJ, 40, .inr (.inl f_5)))] := hD
    refine lv_iinc (v := nI (k_1 + 1)) (lv' := [(3, .int (nI (k_1 + 1))), (0, .ref h0), (1, .int p0), (2, .int p1)]) hx hb dX4_begin_25 hl (k := 0) rfl (nI_1 (k_1)) (by decide) rfl (fun ls hl => ?_)
    refine lv_goto (tgt := 12) hx hb dX4_begin_28 (by decide) ?_
    exact ih (k_1 + 1) f_5 _ _ _ (by omega) (hP.sub [0, 1] rfl) (hD.sub [0, 1] (by decide) rfl) hS (lv_sub hl [0, 1, 2, 3] rfl)
