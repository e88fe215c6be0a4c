set_option maxHeartbeats 4000000 in
set_option maxRecDepth 100000 in
theorem c_X8_known (l : Launch) (D : va_G) (cI cJ cZ cS : ClassId) (sa : Nat → Nat) (sz : Nat) (h0 : Nat) (qh : Nat) (qk : Nat) (qd : Nat) (qa : Nat) (qm : Nat) (qs : Nat) (qp : Nat) (ql : Nat) (qt : Nat) (qz : Nat) (qf : Nat) (ae : Nat) (al : Nat) (au : Nat) (ao : Nat) (ar : Nat) (ak : Nat) (aw : Nat) (att : Nat) (ass : Nat) (p0 : Int32) : Met l yX8_known (Cond.code yX8_known cX8_known 2 (some .int) :: wsU) ({ frames := 1, cells := 0, slots := 0, locals := 22 }) (va_Pc [.ref h0, .int p0] (XW D (xT cI cJ cZ cS) sa [(h0, .inr (8, [.ref qh, .ref qk, .ref qd, .int 0, .ref qa, .ref qm, .ref qs, .ref qp, .ref ql, .ref qt, .ref qz, .ref qf])), (qh, .inr (1, [.int 0, .ref ae, .ref al, .ref au, .ref ao, .ref ar, .ref ak, .ref aw, .ref att, .ref ass])), (al, .inl (cI, 100, .inl (fun _ => 0))), (au, .inl (cI, 100, .inl (fun _ => 0))), (ao, .inl (cI, 100, .inl (fun _ => 0))), (qf, .inl (cI, 7, .inl (fun _ => 0)))] sz)) (XQi (fun (r : Int32) (_ : Unit) => r = a_known p0) D (fun _ : Unit => []) (va_A [(h0, .inr (8, [.ref qh, .ref qk, .ref qd, .int 0, .ref qa, .ref qm, .ref qs, .ref qp, .ref ql, .ref qt, .ref qz, .ref qf])), (qh, .inr (1, [.int 0, .ref ae, .ref al, .ref au, .ref ao, .ref ar, .ref ak, .ref aw, .ref att, .ref ass])), (al, .inl (cI, 100, .inl (fun _ => 0))), (au, .inl (cI, 100, .inl (fun _ => 0))), (ao, .inl (cI, 100, .inl (fun _ => 0))), (qf, .inl (cI, 7, .inl (fun _ => 0)))] sz)) 0 0 (va_A [(h0, .inr (8, [.ref qh, .ref qk, .ref qd, .int 0, .ref qa, .ref qm, .ref qs, .ref qp, .ref ql, .ref qt, .ref qz, .ref qf])), (qh, .inr (1, [.int 0, .ref ae, .ref al, .ref au, .ref ao, .ref ar, .ref ak, .ref aw, .ref att, .ref ass])), (al, .inl (cI, 100, .inl (fun _ => 0))), (au, .inl (cI, 100, .inl (fun _ => 0))), (ao, .inl (cI, 100, .inl (fun _ => 0))), (qf, .inl (cI, 7, .inl (fun _ => 0)))] sz) := by
  refine xhw (QA := fun A => XQi (fun (r : Int32) (_ : Unit) => r = a_known p0) D (fun _ : Unit => []) A) (by decide) (Nat.le_of_ble_eq_true rfl) ?_
  intro p e s m below meth c ls A hF hr hlk hin hsz hP hK hD hN hA hS hl
  have hF : CallFix p m c cX8_known 2 s _ _ RX8 := hF
  have hx := hF.1
  have hb := hF.2.1
  have hml := hF.2.2.1
  have hown := hF.2.2.2.1
  have hu : ∀ w ∈ wsU, w.before _ s = true := fun w h => hF.2.2.2.2 w (List.mem_cons_of_mem _ h)
  have hl : lv_has ls 2 [(0, .ref h0), (1, .int p0)] := hl
  refine lv_iload_n hx hb dX8_known_0 rfl (lv_at hl 1 rfl) ?_
  refine lv_if_ne (tgt := 12) hx hb dX8_known_1 (by decide) (fun c_1 => ?_) (fun c_1 => ?_)
  · skip
    refine lv_iload_n hx hb dX8_known_12 rfl (lv_at hl 1 rfl) ?_
    refine lv_iconst (v := 1) hx hb dX8_known_13 (by decide) ?_
    refine lv_icmp_ne (tgt := 25) hx hb dX8_known_14 (by decide) (fun c_2 => ?_) (fun c_2 => ?_)
    · skip
      refine lv_iload_n hx hb dX8_known_25 rfl (lv_at hl 1 rfl) ?_
      refine lv_iconst (v := 2) hx hb dX8_known_26 (by decide) ?_
      refine lv_icmp_ne (tgt := 38) hx hb dX8_known_27 (by decide) (fun c_3 => ?_) (fun c_3 => ?_)
      · skip
        refine lv_aload_n hx hb dX8_known_38 rfl (lv_at hl 0 rfl) ?_
        refine lv_ldc (v := (-1000000001)) hx hb hown (hu _ uw4) dX8_known_39 ?_
        refine xc_Vi (wr := [(qh, .inr (1, [.int 0, .ref ae, .ref al, .ref au, .ref ao, .ref ar, .ref ak, .ref aw, .ref att, .ref ass])), (al, .inl (cI, 100, .inl (fun _ => 0))), (au, .inl (cI, 100, .inl (fun _ => 0))), (ao, .inl (cI, 100, .inl (fun _ => 0)))]) hF (c_X8_finding_B l D cI cJ cZ cS sa s.heap.size h0 qh qk qd qa qm qs qp ql qt qz qf 0 (fun _ => 0) ) kv_X8_80 ⟨rfl, rfl, Nat.le_of_ble_eq_true rfl, Nat.le_of_ble_eq_true rfl⟩ ⟨Nat.le_of_ble_eq_true rfl, Nat.le_of_ble_eq_true rfl⟩ hK hN hP hD hS hA [0, 5] [1, 2, 3, 4] rfl rfl rfl rfl (by decide) 0 rfl rfl rfl rfl hl.1 rfl (Nat.le_of_ble_eq_true rfl) dX8_known_41 (fun r_4 u_r_4 H locs hw_r_4 hP hD hS => ?_)
        have hP : va_P D vwCl [(qh, .inr (1, [.int 0, .ref ae, .ref al, .ref au, .ref ao, .ref ar, .ref ak, .ref aw, .ref att, .ref ass])), (al, .inl (cI, 100, .inl (fun _ => 0))), (au, .inl (cI, 100, .inl (fun _ => 0))), (ao, .inl (cI, 100, .inl (fun _ => 0)))] H := hP
        have hD : va_D A [(qh, .inr (1, [.int 0, .ref ae, .ref al, .ref au, .ref ao, .ref ar, .ref ak, .ref aw, .ref att, .ref ass])), (al, .inl (cI, 100, .inl (fun _ => 0))), (au, .inl (cI, 100, .inl (fun _ => 0))), (ao, .inl (cI, 100, .inl (fun _ => 0)))] := hD
        subst hw_r_4
        exact W.iret (v := (-1000000001)) hx hb hr (fun t ht hW => ⟨⟨(-1000000001), (), rfl, (p_known c_1 c_2 c_3), by rw [ht]; exact hP.sub [] rfl, hD.sub [] (by decide) rfl⟩, hS.F ht⟩) hS.2.2 dX8_known_44 hlk
      · skip
        subst c_3
        refine lv_aload_n hx hb dX8_known_30 rfl (lv_at hl 0 rfl) ?_
        refine xg hF kf_X8_12 hK hP 0 rfl rfl dX8_known_31 ?_
        refine xc_Vr hF (c_X1_allBetweenEnds l D cI cJ cZ cS sa s.heap.size qh ae al au ao ar ak aw att ass ) kv_X8_253 ⟨rfl, rfl, Nat.le_of_ble_eq_true rfl, Nat.le_of_ble_eq_true rfl⟩ ⟨Nat.le_of_ble_eq_true rfl, Nat.le_of_ble_eq_true rfl⟩ hK hN hP hD [1, 2, 3, 4] rfl rfl 0 rfl rfl rfl rfl hl.1 rfl (Nat.le_of_ble_eq_true rfl) dX8_known_34 (fun r_5 hw_r_5 => ?_)
        subst hw_r_5
        exact W.iret (v := 0) hx hb hr (fun t ht hW => ⟨⟨0, (), rfl, (by first | rfl | decide | simp), by rw [ht]; exact hP.sub [] rfl, hD.sub [] (by decide) rfl⟩, hS.F ht⟩) hS.2.2 dX8_known_37 hlk
    · skip
      subst c_2
      refine lv_aload_n hx hb dX8_known_17 rfl (lv_at hl 0 rfl) ?_
      refine xg hF kf_X8_12 hK hP 0 rfl rfl dX8_known_18 ?_
      refine xc_Vr hF (c_X1_countUnknown l D cI cJ cZ cS sa s.heap.size qh ae al au ao ar ak aw att ass ) kv_X8_250 ⟨rfl, rfl, Nat.le_of_ble_eq_true rfl, Nat.le_of_ble_eq_true rfl⟩ ⟨Nat.le_of_ble_eq_true rfl, Nat.le_of_ble_eq_true rfl⟩ hK hN hP hD [1, 2, 3, 4] rfl rfl 0 rfl rfl rfl rfl hl.1 rfl (Nat.le_of_ble_eq_true rfl) dX8_known_21 (fun r_6 hw_r_6 => ?_)
      subst hw_r_6
      exact W.iret (v := 0) hx hb hr (fun t ht hW => ⟨⟨0, (), rfl, (by first | rfl | decide | simp), by rw [ht]; exact hP.sub [] rfl, hD.sub [] (by decide) rfl⟩, hS.F ht⟩) hS.2.2 dX8_known_24 hlk
  · skip
    subst c_1
    refine lv_aload_n hx hb dX8_known_4 rfl (lv_at hl 0 rfl) ?_
    refine xg hF kf_X8_12 hK hP 0 rfl rfl dX8_known_5 ?_
    refine xc_Vr hF (c_X1_countWays l D cI cJ cZ cS sa s.heap.size qh ae al au ao ar ak aw att ass ) kv_X8_247 ⟨rfl, rfl, Nat.le_of_ble_eq_true rfl, Nat.le_of_ble_eq_true rfl⟩ ⟨Nat.le_of_ble_eq_true rfl, Nat.le_of_ble_eq_true rfl⟩ hK hN hP hD [1, 2, 3, 4] rfl rfl 0 rfl rfl rfl rfl hl.1 rfl (Nat.le_of_ble_eq_true rfl) dX8_known_8 (fun r_7 hw_r_7 => ?_)
    subst hw_r_7
    exact W.iret (v := 0) hx hb hr (fun t ht hW => ⟨⟨0, (), rfl, (by first | rfl | decide | simp), by rw [ht]; exact hP.sub [] rfl, hD.sub [] (by decide) rfl⟩, hS.F ht⟩) hS.2.2 dX8_known_11 hlk
set_option maxHeartbeats 4000000 in
set_option maxRecDepth 100000 in
theorem c_X8_feed (l : Launch) (D : va_G) (cI cJ cZ cS : ClassId) (sa : Nat → Nat) (sz : Nat) (h0 : Nat) (qh : Nat) (qk : Nat) (qd : Nat) (qa : Nat) (qm : Nat) (qs : Nat) (qp : Nat) (ql : Nat) (qt : Nat) (qz : Nat) (qf : Nat) (tb : Nat) (p0 : Int32) (p1 : Int32) : Met l yX8_feed (Cond.code yX8_feed cX8_feed 4 (some .int) :: wsU) ({ frames := 1, cells := 0, slots := 0, locals := 22 }) (va_Pc [.ref h0, .int p0, .int p1] (XW D (xT cI cJ cZ cS) sa [(h0, .inr (8, [.ref qh, .ref qk, .ref qd, .int 0, .ref qa, .ref qm, .ref qs, .ref qp, .ref ql, .ref qt, .ref qz, .ref qf])), (qt, .inr (7, [.int 0, .ref tb, .int 0, .int 0, .int 0, .int 0, .int 0])), (tb, .inl (cI, 120, .inl (fun _ => 0))), (qf, .inl (cI, 7, .inl (fun _ => 0)))] sz)) (XQi (fun (r : Int32) (_ : Unit) => r = a_feed p1) D (fun _ : Unit => []) (va_A [(h0, .inr (8, [.ref qh, .ref qk, .ref qd, .int 0, .ref qa, .ref qm, .ref qs, .ref qp, .ref ql, .ref qt, .ref qz, .ref qf])), (qt, .inr (7, [.int 0, .ref tb, .int 0, .int 0, .int 0, .int 0, .int 0])), (tb, .inl (cI, 120, .inl (fun _ => 0))), (qf, .inl (cI, 7, .inl (fun _ => 0)))] sz)) 0 0 (va_A [(h0, .inr (8, [.ref qh, .ref qk, .ref qd, .int 0, .ref qa, .ref qm, .ref qs, .ref qp, .ref ql, .ref qt, .ref qz, .ref qf])), (qt, .inr (7, [.int 0, .ref tb, .int 0, .int 0, .int 0, .int 0, .int 0])), (tb, .inl (cI, 120, .inl (fun _ => 0))), (qf, .inl (cI, 7, .inl (fun _ => 0)))] sz) := by
  refine xhw (QA := fun A => XQi (fun (r : Int32) (_ : Unit) => r = a_feed p1) D (fun _ : Unit => []) A) (by decide) (Nat.le_of_ble_eq_true rfl) ?_
  intro p e s m below meth c ls A hF hr hlk hin hsz hP hK hD hN hA hS hl
  have hF : CallFix p m c cX8_feed 4 s _ _ RX8 := hF
  have hx := hF.1
  have hb := hF.2.1
  have hml := hF.2.2.1
  have hown := hF.2.2.2.1
  have hu : ∀ w ∈ wsU, w.before _ s = true := fun w h => hF.2.2.2.2 w (List.mem_cons_of_mem _ h)
  have hl : lv_has ls 4 [(0, .ref h0), (1, .int p0), (2, .int p1)] := hl
  refine lv_iload_n hx hb dX8_feed_0 rfl (lv_at hl 2 rfl) ?_
  refine lv_iconst (v := 1) hx hb dX8_feed_1 (by decide) ?_
  refine lv_iconst (v := 4) hx hb dX8_feed_2 (by decide) ?_
  refine xc_Sr hF (c_X8_isWithin l D cI cJ cZ cS sa s.heap.size p1 1 4 ) ks_X8_91 ⟨rfl, rfl, Nat.le_of_ble_eq_true rfl, Nat.le_of_ble_eq_true rfl⟩ ⟨Nat.le_of_ble_eq_true rfl, Nat.le_of_ble_eq_true rfl⟩ hK hN hP hD [] rfl rfl rfl hl.1 rfl (Nat.le_of_ble_eq_true rfl) dX8_feed_3 (fun r_1 hw_r_1 => ?_)
  rcases hw_r_1 with ⟨rfl, h_2, h_3⟩ | ⟨rfl, h_4⟩
  · skip
    refine lv_if_ne (tgt := 16) hx hb dX8_feed_6 (by decide) (fun c_5 => ?_) (fun c_5 => absurd c_5 (by decide))
    rcases x_f4 h_2 h_3 with rfl | rfl | rfl | rfl
    · skip
      refine lv_aload_n hx hb dX8_feed_16 rfl (lv_at hl 0 rfl) ?_
      refine xg hF kf_X8_60 hK hP 0 rfl rfl dX8_feed_17 ?_
      refine xg hF kf_X8_275 hK hP 1 rfl rfl dX8_feed_20 ?_
      refine lv_iload_n hx hb dX8_feed_23 rfl (lv_at hl 2 rfl) ?_
      refine lv_iadd hx hb dX8_feed_24 ?_
      refine xl_i (y := 1) (by decide) ?_
      refine lv_bipush (v := 120) hx hb dX8_feed_25 (by decide) ?_
      refine lv_icmp_le (tgt := 37) hx hb dX8_feed_27 (by decide) (fun c_6 => ?_) (fun c_6 => absurd (by decide) c_6)
      refine lv_iload_n hx hb dX8_feed_37 rfl (lv_at hl 2 rfl) ?_
      refine lv_iconst (v := 1) hx hb dX8_feed_38 (by decide) ?_
      refine lv_isub hx hb dX8_feed_39 ?_
      refine xl_i (y := 0) (by decide) ?_
      refine lv_istore_n (lv' := [(3, .int 0), (0, .ref h0), (1, .int p0), (2, .int 1)]) hx hb dX8_feed_40 rfl hl (by decide) rfl (fun ls hl => ?_)
      refine lv_iload_n hx hb dX8_feed_41 rfl (lv_at hl 0 rfl) ?_
      refine lv_if_lt (tgt := 68) hx hb dX8_feed_42 (by decide) (fun c_7 => absurd c_7 (by decide)) (fun c_7 => ?_)
      refine lv_aload_n hx hb dX8_feed_45 rfl (lv_at hl 1 rfl) ?_
      refine xg hF kf_X8_60 hK hP 0 rfl rfl dX8_feed_46 ?_
      refine lv_iload_n hx hb dX8_feed_49 rfl (lv_at hl 2 rfl) ?_
      refine lv_bipush (v := 8) hx hb dX8_feed_50 (by decide) ?_
      refine lv_iload_n hx hb dX8_feed_52 rfl (lv_at hl 0 rfl) ?_
      refine lv_imul hx hb dX8_feed_53 ?_
      refine xl_i (y := 0) (by decide) ?_
      refine lv_iushr hx hb dX8_feed_54 rfl ?_
      refine lv_topi (fun x_8 ex_8 => ?_)
      refine lv_sipush (v := 255) hx hb dX8_feed_55 (by decide) ?_
      refine lv_iand hx hb dX8_feed_58 ?_
      refine lv_topi (fun x_9 ex_9 => ?_)
      refine xc_Vv (wr := [(h0, .inr (8, [.ref qh, .ref qk, .ref qd, .int 0, .ref qa, .ref qm, .ref qs, .ref qp, .ref ql, .ref qt, .ref qz, .ref qf])), (qf, .inl (cI, 7, .inl (fun _ => 0)))]) hF (c_X7_addByte_0 l D cI cJ cZ cS sa s.heap.size qt tb x_9 (fun _ => 0) ) kv_X8_278 ⟨rfl, rfl, Nat.le_of_ble_eq_true rfl, Nat.le_of_ble_eq_true rfl⟩ ⟨Nat.le_of_ble_eq_true rfl, Nat.le_of_ble_eq_true rfl⟩ hK hN hP hD hS hA [1, 2] [0, 3] rfl rfl rfl rfl (by decide) 0 rfl rfl rfl rfl hl.1 rfl (Nat.le_of_ble_eq_true rfl) dX8_feed_59 (fun u_r_10 H locs hw_r_10 hP hD hS => ?_)
      obtain ⟨f2_11, rfl⟩ : ∃ z, z = u_r_10 := ⟨_, rfl⟩
      try dsimp only at hw_r_10
      have hP : va_P D vwCl [(h0, .inr (8, [.ref qh, .ref qk, .ref qd, .int 0, .ref qa, .ref qm, .ref qs, .ref qp, .ref ql, .ref qt, .ref qz, .ref qf])), (qf, .inl (cI, 7, .inl (fun _ => 0))), (qt, .inr (7, [.int 1, .ref tb, .int 0, .int 0, .int 0, .int 0, .int 0])), (tb, .inl (cI, 120, .inl f2_11))] H := hP
      have hD : va_D A [(h0, .inr (8, [.ref qh, .ref qk, .ref qd, .int 0, .ref qa, .ref qm, .ref qs, .ref qp, .ref ql, .ref qt, .ref qz, .ref qf])), (qf, .inl (cI, 7, .inl (fun _ => 0))), (qt, .inr (7, [.int 1, .ref tb, .int 0, .int 0, .int 0, .int 0, .int 0])), (tb, .inl (cI, 120, .inl f2_11))] := hD
      refine lv_iinc (v := (-1)) (lv' := [(3, .int (-1)), (0, .ref h0), (1, .int p0), (2, .int 1)]) hx hb dX8_feed_62 hl (k := 0) rfl (by decide) (by decide) rfl (fun ls hl => ?_)
      refine lv_goto (tgt := 41) hx hb dX8_feed_65 (by decide) ?_
      refine lv_iload_n hx hb dX8_feed_41 rfl (lv_at hl 0 rfl) ?_
      refine lv_if_lt (tgt := 68) hx hb dX8_feed_42 (by decide) (fun c_12 => ?_) (fun c_12 => absurd (by decide) c_12)
      refine lv_aload_n hx hb dX8_feed_68 rfl (lv_at hl 1 rfl) ?_
      refine xg hF kf_X8_60 hK hP 0 rfl rfl dX8_feed_69 ?_
      refine xg hF kf_X8_275 hK hP 2 rfl rfl dX8_feed_72 ?_
      exact W.iret (v := 1) hx hb hr (fun t ht hW => ⟨⟨1, (), rfl, (by first | rfl | decide | simp), by rw [ht]; exact hP.sub [] rfl, hD.sub [] (by decide) rfl⟩, hS.F ht⟩) hS.2.2 dX8_feed_75 hlk
    · skip
      refine lv_aload_n hx hb dX8_feed_16 rfl (lv_at hl 0 rfl) ?_
      refine xg hF kf_X8_60 hK hP 0 rfl rfl dX8_feed_17 ?_
      refine xg hF kf_X8_275 hK hP 1 rfl rfl dX8_feed_20 ?_
      refine lv_iload_n hx hb dX8_feed_23 rfl (lv_at hl 2 rfl) ?_
      refine lv_iadd hx hb dX8_feed_24 ?_
      refine xl_i (y := 2) (by decide) ?_
      refine lv_bipush (v := 120) hx hb dX8_feed_25 (by decide) ?_
      refine lv_icmp_le (tgt := 37) hx hb dX8_feed_27 (by decide) (fun c_13 => ?_) (fun c_13 => absurd (by decide) c_13)
      refine lv_iload_n hx hb dX8_feed_37 rfl (lv_at hl 2 rfl) ?_
      refine lv_iconst (v := 1) hx hb dX8_feed_38 (by decide) ?_
      refine lv_isub hx hb dX8_feed_39 ?_
      refine xl_i (y := 1) (by decide) ?_
      refine lv_istore_n (lv' := [(3, .int 1), (0, .ref h0), (1, .int p0), (2, .int 2)]) hx hb dX8_feed_40 rfl hl (by decide) rfl (fun ls hl => ?_)
      refine lv_iload_n hx hb dX8_feed_41 rfl (lv_at hl 0 rfl) ?_
      refine lv_if_lt (tgt := 68) hx hb dX8_feed_42 (by decide) (fun c_14 => absurd c_14 (by decide)) (fun c_14 => ?_)
      refine lv_aload_n hx hb dX8_feed_45 rfl (lv_at hl 1 rfl) ?_
      refine xg hF kf_X8_60 hK hP 0 rfl rfl dX8_feed_46 ?_
      refine lv_iload_n hx hb dX8_feed_49 rfl (lv_at hl 2 rfl) ?_
      refine lv_bipush (v := 8) hx hb dX8_feed_50 (by decide) ?_
      refine lv_iload_n hx hb dX8_feed_52 rfl (lv_at hl 0 rfl) ?_
      refine lv_imul hx hb dX8_feed_53 ?_
      refine xl_i (y := 8) (by decide) ?_
      refine lv_iushr hx hb dX8_feed_54 rfl ?_
      refine lv_topi (fun x_15 ex_15 => ?_)
      refine lv_sipush (v := 255) hx hb dX8_feed_55 (by decide) ?_
      refine lv_iand hx hb dX8_feed_58 ?_
      refine lv_topi (fun x_16 ex_16 => ?_)
      refine xc_Vv (wr := [(h0, .inr (8, [.ref qh, .ref qk, .ref qd, .int 0, .ref qa, .ref qm, .ref qs, .ref qp, .ref ql, .ref qt, .ref qz, .ref qf])), (qf, .inl (cI, 7, .inl (fun _ => 0)))]) hF (c_X7_addByte_0 l D cI cJ cZ cS sa s.heap.size qt tb x_16 (fun _ => 0) ) kv_X8_278 ⟨rfl, rfl, Nat.le_of_ble_eq_true rfl, Nat.le_of_ble_eq_true rfl⟩ ⟨Nat.le_of_ble_eq_true rfl, Nat.le_of_ble_eq_true rfl⟩ hK hN hP hD hS hA [1, 2] [0, 3] rfl rfl rfl rfl (by decide) 0 rfl rfl rfl rfl hl.1 rfl (Nat.le_of_ble_eq_true rfl) dX8_feed_59 (fun u_r_17 H locs hw_r_17 hP hD hS => ?_)
      obtain ⟨f2_18, rfl⟩ : ∃ z, z = u_r_17 := ⟨_, rfl⟩
      try dsimp only at hw_r_17
      have hP : va_P D vwCl [(h0, .inr (8, [.ref qh, .ref qk, .ref qd, .int 0, .ref qa, .ref qm, .ref qs, .ref qp, .ref ql, .ref qt, .ref qz, .ref qf])), (qf, .inl (cI, 7, .inl (fun _ => 0))), (qt, .inr (7, [.int 1, .ref tb, .int 0, .int 0, .int 0, .int 0, .int 0])), (tb, .inl (cI, 120, .inl f2_18))] H := hP
      have hD : va_D A [(h0, .inr (8, [.ref qh, .ref qk, .ref qd, .int 0, .ref qa, .ref qm, .ref qs, .ref qp, .ref ql, .ref qt, .ref qz, .ref qf])), (qf, .inl (cI, 7, .inl (fun _ => 0))), (qt, .inr (7, [.int 1, .ref tb, .int 0, .int 0, .int 0, .int 0, .int 0])), (tb, .inl (cI, 120, .inl f2_18))] := hD
      refine lv_iinc (v := 0) (lv' := [(3, .int 0), (0, .ref h0), (1, .int p0), (2, .int 2)]) hx hb dX8_feed_62 hl (k := 0) rfl (by decide) (by decide) rfl (fun ls hl => ?_)
      refine lv_goto (tgt := 41) hx hb dX8_feed_65 (by decide) ?_
      refine lv_iload_n hx hb dX8_feed_41 rfl (lv_at hl 0 rfl) ?_
      refine lv_if_lt (tgt := 68) hx hb dX8_feed_42 (by decide) (fun c_19 => absurd c_19 (by decide)) (fun c_19 => ?_)
      refine lv_aload_n hx hb dX8_feed_45 rfl (lv_at hl 1 rfl) ?_
      refine xg hF kf_X8_60 hK hP 0 rfl rfl dX8_feed_46 ?_
      refine lv_iload_n hx hb dX8_feed_49 rfl (lv_at hl 2 rfl) ?_
      refine lv_bipush (v := 8) hx hb dX8_feed_50 (by decide) ?_
      refine lv_iload_n hx hb dX8_feed_52 rfl (lv_at hl 0 rfl) ?_
      refine lv_imul hx hb dX8_feed_53 ?_
      refine xl_i (y := 0) (by decide) ?_
      refine lv_iushr hx hb dX8_feed_54 rfl ?_
      refine lv_topi (fun x_20 ex_20 => ?_)
      refine lv_sipush (v := 255) hx hb dX8_feed_55 (by decide) ?_
      refine lv_iand hx hb dX8_feed_58 ?_
      refine lv_topi (fun x_21 ex_21 => ?_)
      refine xc_Vv (wr := [(h0, .inr (8, [.ref qh, .ref qk, .ref qd, .int 0, .ref qa, .ref qm, .ref qs, .ref qp, .ref ql, .ref qt, .ref qz, .ref qf])), (qf, .inl (cI, 7, .inl (fun _ => 0)))]) hF (c_X7_addByte_1 l D cI cJ cZ cS sa H.size qt tb x_21 f2_18 ) kv_X8_278 ⟨rfl, rfl, Nat.le_of_ble_eq_true rfl, Nat.le_of_ble_eq_true rfl⟩ ⟨Nat.le_of_ble_eq_true rfl, Nat.le_of_ble_eq_true rfl⟩ hK hN hP hD hS hA [2, 3] [0, 1] rfl rfl rfl rfl (by decide) 0 rfl rfl rfl rfl hl.1 rfl (Nat.le_of_ble_eq_true rfl) dX8_feed_59 (fun u_r_22 H locs hw_r_22 hP hD hS => ?_)
      obtain ⟨f2_23, rfl⟩ : ∃ z, z = u_r_22 := ⟨_, rfl⟩
      try dsimp only at hw_r_22
      have hP : va_P D vwCl [(h0, .inr (8, [.ref qh, .ref qk, .ref qd, .int 0, .ref qa, .ref qm, .ref qs, .ref qp, .ref ql, .ref qt, .ref qz, .ref qf])), (qf, .inl (cI, 7, .inl (fun _ => 0))), (qt, .inr (7, [.int 2, .ref tb, .int 0, .int 0, .int 0, .int 0, .int 0])), (tb, .inl (cI, 120, .inl f2_23))] H := hP
      have hD : va_D A [(h0, .inr (8, [.ref qh, .ref qk, .ref qd, .int 0, .ref qa, .ref qm, .ref qs, .ref qp, .ref ql, .ref qt, .ref qz, .ref qf])), (qf, .inl (cI, 7, .inl (fun _ => 0))), (qt, .inr (7, [.int 2, .ref tb, .int 0, .int 0, .int 0, .int 0, .int 0])), (tb, .inl (cI, 120, .inl f2_23))] := hD
      refine lv_iinc (v := (-1)) (lv' := [(3, .int (-1)), (0, .ref h0), (1, .int p0), (2, .int 2)]) hx hb dX8_feed_62 hl (k := 0) rfl (by decide) (by decide) rfl (fun ls hl => ?_)
      refine lv_goto (tgt := 41) hx hb dX8_feed_65 (by decide) ?_
      refine lv_iload_n hx hb dX8_feed_41 rfl (lv_at hl 0 rfl) ?_
      refine lv_if_lt (tgt := 68) hx hb dX8_feed_42 (by decide) (fun c_24 => ?_) (fun c_24 => absurd (by decide) c_24)
      refine lv_aload_n hx hb dX8_feed_68 rfl (lv_at hl 1 rfl) ?_
      refine xg hF kf_X8_60 hK hP 0 rfl rfl dX8_feed_69 ?_
      refine xg hF kf_X8_275 hK hP 2 rfl rfl dX8_feed_72 ?_
      exact W.iret (v := 2) hx hb hr (fun t ht hW => ⟨⟨2, (), rfl, (by first | rfl | decide | simp), by rw [ht]; exact hP.sub [] rfl, hD.sub [] (by decide) rfl⟩, hS.F ht⟩) hS.2.2 dX8_feed_75 hlk
    · skip
      refine lv_aload_n hx hb dX8_feed_16 rfl (lv_at hl 0 rfl) ?_
      refine xg hF kf_X8_60 hK hP 0 rfl rfl dX8_feed_17 ?_
      refine xg hF kf_X8_275 hK hP 1 rfl rfl dX8_feed_20 ?_
      refine lv_iload_n hx hb dX8_feed_23 rfl (lv_at hl 2 rfl) ?_
      refine lv_iadd hx hb dX8_feed_24 ?_
      refine xl_i (y := 3) (by decide) ?_
      refine lv_bipush (v := 120) hx hb dX8_feed_25 (by decide) ?_
      refine lv_icmp_le (tgt := 37) hx hb dX8_feed_27 (by decide) (fun c_25 => ?_) (fun c_25 => absurd (by decide) c_25)
      refine lv_iload_n hx hb dX8_feed_37 rfl (lv_at hl 2 rfl) ?_
      refine lv_iconst (v := 1) hx hb dX8_feed_38 (by decide) ?_
      refine lv_isub hx hb dX8_feed_39 ?_
      refine xl_i (y := 2) (by decide) ?_
      refine lv_istore_n (lv' := [(3, .int 2), (0, .ref h0), (1, .int p0), (2, .int 3)]) hx hb dX8_feed_40 rfl hl (by decide) rfl (fun ls hl => ?_)
      refine lv_iload_n hx hb dX8_feed_41 rfl (lv_at hl 0 rfl) ?_
      refine lv_if_lt (tgt := 68) hx hb dX8_feed_42 (by decide) (fun c_26 => absurd c_26 (by decide)) (fun c_26 => ?_)
      refine lv_aload_n hx hb dX8_feed_45 rfl (lv_at hl 1 rfl) ?_
      refine xg hF kf_X8_60 hK hP 0 rfl rfl dX8_feed_46 ?_
      refine lv_iload_n hx hb dX8_feed_49 rfl (lv_at hl 2 rfl) ?_
      refine lv_bipush (v := 8) hx hb dX8_feed_50 (by decide) ?_
      refine lv_iload_n hx hb dX8_feed_52 rfl (lv_at hl 0 rfl) ?_
      refine lv_imul hx hb dX8_feed_53 ?_
      refine xl_i (y := 16) (by decide) ?_
      refine lv_iushr hx hb dX8_feed_54 rfl ?_
      refine lv_topi (fun x_27 ex_27 => ?_)
      refine lv_sipush (v := 255) hx hb dX8_feed_55 (by decide) ?_
      refine lv_iand hx hb dX8_feed_58 ?_
      refine lv_topi (fun x_28 ex_28 => ?_)
      refine xc_Vv (wr := [(h0, .inr (8, [.ref qh, .ref qk, .ref qd, .int 0, .ref qa, .ref qm, .ref qs, .ref qp, .ref ql, .ref qt, .ref qz, .ref qf])), (qf, .inl (cI, 7, .inl (fun _ => 0)))]) hF (c_X7_addByte_0 l D cI cJ cZ cS sa s.heap.size qt tb x_28 (fun _ => 0) ) kv_X8_278 ⟨rfl, rfl, Nat.le_of_ble_eq_true rfl, Nat.le_of_ble_eq_true rfl⟩ ⟨Nat.le_of_ble_eq_true rfl, Nat.le_of_ble_eq_true rfl⟩ hK hN hP hD hS hA [1, 2] [0, 3] rfl rfl rfl rfl (by decide) 0 rfl rfl rfl rfl hl.1 rfl (Nat.le_of_ble_eq_true rfl) dX8_feed_59 (fun u_r_29 H locs hw_r_29 hP hD hS => ?_)
      obtain ⟨f2_30, rfl⟩ : ∃ z, z = u_r_29 := ⟨_, rfl⟩
      try dsimp only at hw_r_29
      have hP : va_P D vwCl [(h0, .inr (8, [.ref qh, .ref qk, .ref qd, .int 0, .ref qa, .ref qm, .ref qs, .ref qp, .ref ql, .ref qt, .ref qz, .ref qf])), (qf, .inl (cI, 7, .inl (fun _ => 0))), (qt, .inr (7, [.int 1, .ref tb, .int 0, .int 0, .int 0, .int 0, .int 0])), (tb, .inl (cI, 120, .inl f2_30))] H := hP
      have hD : va_D A [(h0, .inr (8, [.ref qh, .ref qk, .ref qd, .int 0, .ref qa, .ref qm, .ref qs, .ref qp, .ref ql, .ref qt, .ref qz, .ref qf])), (qf, .inl (cI, 7, .inl (fun _ => 0))), (qt, .inr (7, [.int 1, .ref tb, .int 0, .int 0, .int 0, .int 0, .int 0])), (tb, .inl (cI, 120, .inl f2_30))] := hD
      refine lv_iinc (v := 1) (lv' := [(3, .int 1), (0, .ref h0), (1, .int p0), (2, .int 3)]) hx hb dX8_feed_62 hl (k := 0) rfl (by decide) (by decide) rfl (fun ls hl => ?_)
      refine lv_goto (tgt := 41) hx hb dX8_feed_65 (by decide) ?_
      refine lv_iload_n hx hb dX8_feed_41 rfl (lv_at hl 0 rfl) ?_
      refine lv_if_lt (tgt := 68) hx hb dX8_feed_42 (by decide) (fun c_31 => absurd c_31 (by decide)) (fun c_31 => ?_)
      refine lv_aload_n hx hb dX8_feed_45 rfl (lv_at hl 1 rfl) ?_
      refine xg hF kf_X8_60 hK hP 0 rfl rfl dX8_feed_46 ?_
      refine lv_iload_n hx hb dX8_feed_49 rfl (lv_at hl 2 rfl) ?_
      refine lv_bipush (v := 8) hx hb dX8_feed_50 (by decide) ?_
      refine lv_iload_n hx hb dX8_feed_52 rfl (lv_at hl 0 rfl) ?_
      refine lv_imul hx hb dX8_feed_53 ?_
      refine xl_i (y := 8) (by decide) ?_
      refine lv_iushr hx hb dX8_feed_54 rfl ?_
      refine lv_topi (fun x_32 ex_32 => ?_)
      refine lv_sipush (v := 255) hx hb dX8_feed_55 (by decide) ?_
      refine lv_iand hx hb dX8_feed_58 ?_
      refine lv_topi (fun x_33 ex_33 => ?_)
      refine xc_Vv (wr := [(h0, .inr (8, [.ref qh, .ref qk, .ref qd, .int 0, .ref qa, .ref qm, .ref qs, .ref qp, .ref ql, .ref qt, .ref qz, .ref qf])), (qf, .inl (cI, 7, .inl (fun _ => 0)))]) hF (c_X7_addByte_1 l D cI cJ cZ cS sa H.size qt tb x_33 f2_30 ) kv_X8_278 ⟨rfl, rfl, Nat.le_of_ble_eq_true rfl, Nat.le_of_ble_eq_true rfl⟩ ⟨Nat.le_of_ble_eq_true rfl, Nat.le_of_ble_eq_true rfl⟩ hK hN hP hD hS hA [2, 3] [0, 1] rfl rfl rfl rfl (by decide) 0 rfl rfl rfl rfl hl.1 rfl (Nat.le_of_ble_eq_true rfl) dX8_feed_59 (fun u_r_34 H locs hw_r_34 hP hD hS => ?_)
      obtain ⟨f2_35, rfl⟩ : ∃ z, z = u_r_34 := ⟨_, rfl⟩
      try dsimp only at hw_r_34
      have hP : va_P D vwCl [(h0, .inr (8, [.ref qh, .ref qk, .ref qd, .int 0, .ref qa, .ref qm, .ref qs, .ref qp, .ref ql, .ref qt, .ref qz, .ref qf])), (qf, .inl (cI, 7, .inl (fun _ => 0))), (qt, .inr (7, [.int 2, .ref tb, .int 0, .int 0, .int 0, .int 0, .int 0])), (tb, .inl (cI, 120, .inl f2_35))] H := hP
      have hD : va_D A [(h0, .inr (8, [.ref qh, .ref qk, .ref qd, .int 0, .ref qa, .ref qm, .ref qs, .ref qp, .ref ql, .ref qt, .ref qz, .ref qf])), (qf, .inl (cI, 7, .inl (fun _ => 0))), (qt, .inr (7, [.int 2, .ref tb, .int 0, .int 0, .int 0, .int 0, .int 0])), (tb, .inl (cI, 120, .inl f2_35))] := hD
      refine lv_iinc (v := 0) (lv' := [(3, .int 0), (0, .ref h0), (1, .int p0), (2, .int 3)]) hx hb dX8_feed_62 hl (k := 0) rfl (by decide) (by decide) rfl (fun ls hl => ?_)
      refine lv_goto (tgt := 41) hx hb dX8_feed_65 (by decide) ?_
      refine lv_iload_n hx hb dX8_feed_41 rfl (lv_at hl 0 rfl) ?_
      refine lv_if_lt (tgt := 68) hx hb dX8_feed_42 (by decide) (fun c_36 => absurd c_36 (by decide)) (fun c_36 => ?_)
      refine lv_aload_n hx hb dX8_feed_45 rfl (lv_at hl 1 rfl) ?_
      refine xg hF kf_X8_60 hK hP 0 rfl rfl dX8_feed_46 ?_
      refine lv_iload_n hx hb dX8_feed_49 rfl (lv_at hl 2 rfl) ?_
      refine lv_bipush (v := 8) hx hb dX8_feed_50 (by decide) ?_
      refine lv_iload_n hx hb dX8_feed_52 rfl (lv_at hl 0 rfl) ?_
      refine lv_imul hx hb dX8_feed_53 ?_
      refine xl_i (y := 0) (by decide) ?_
      refine lv_iushr hx hb dX8_feed_54 rfl ?_
      refine lv_topi (fun x_37 ex_37 => ?_)
      refine lv_sipush (v := 255) hx hb dX8_feed_55 (by decide) ?_
      refine lv_iand hx hb dX8_feed_58 ?_
      refine lv_topi (fun x_38 ex_38 => ?_)
      refine xc_Vv (wr := [(h0, .inr (8, [.ref qh, .ref qk, .ref qd, .int 0, .ref qa, .ref qm, .ref qs, .ref qp, .ref ql, .ref qt, .ref qz, .ref qf])), (qf, .inl (cI, 7, .inl (fun _ => 0)))]) hF (c_X7_addByte_2 l D cI cJ cZ cS sa H.size qt tb x_38 f2_35 ) kv_X8_278 ⟨rfl, rfl, Nat.le_of_ble_eq_true rfl, Nat.le_of_ble_eq_true rfl⟩ ⟨Nat.le_of_ble_eq_true rfl, Nat.le_of_ble_eq_true rfl⟩ hK hN hP hD hS hA [2, 3] [0, 1] rfl rfl rfl rfl (by decide) 0 rfl rfl rfl rfl hl.1 rfl (Nat.le_of_ble_eq_true rfl) dX8_feed_59 (fun u_r_39 H locs hw_r_39 hP hD hS => ?_)
      obtain ⟨f2_40, rfl⟩ : ∃ z, z = u_r_39 := ⟨_, rfl⟩
      try dsimp only at hw_r_39
      have hP : va_P D vwCl [(h0, .inr (8, [.ref qh, .ref qk, .ref qd, .int 0, .ref qa, .ref qm, .ref qs, .ref qp, .ref ql, .ref qt, .ref qz, .ref qf])), (qf, .inl (cI, 7, .inl (fun _ => 0))), (qt, .inr (7, [.int 3, .ref tb, .int 0, .int 0, .int 0, .int 0, .int 0])), (tb, .inl (cI, 120, .inl f2_40))] H := hP
      have hD : va_D A [(h0, .inr (8, [.ref qh, .ref qk, .ref qd, .int 0, .ref qa, .ref qm, .ref qs, .ref qp, .ref ql, .ref qt, .ref qz, .ref qf])), (qf, .inl (cI, 7, .inl (fun _ => 0))), (qt, .inr (7, [.int 3, .ref tb, .int 0, .int 0, .int 0, .int 0, .int 0])), (tb, .inl (cI, 120, .inl f2_40))] := hD
      refine lv_iinc (v := (-1)) (lv' := [(3, .int (-1)), (0, .ref h0), (1, .int p0), (2, .int 3)]) hx hb dX8_feed_62 hl (k := 0) rfl (by decide) (by decide) rfl (fun ls hl => ?_)
      refine lv_goto (tgt := 41) hx hb dX8_feed_65 (by decide) ?_
      refine lv_iload_n hx hb dX8_feed_41 rfl (lv_at hl 0 rfl) ?_
      refine lv_if_lt (tgt := 68) hx hb dX8_feed_42 (by decide) (fun c_41 => ?_) (fun c_41 => absurd (by decide) c_41)
      refine lv_aload_n hx hb dX8_feed_68 rfl (lv_at hl 1 rfl) ?_
      refine xg hF kf_X8_60 hK hP 0 rfl rfl dX8_feed_69 ?_
      refine xg hF kf_X8_275 hK hP 2 rfl rfl dX8_feed_72 ?_
      exact W.iret (v := 3) hx hb hr (fun t ht hW => ⟨⟨3, (), rfl, (by first | rfl | decide | simp), by rw [ht]; exact hP.sub [] rfl, hD.sub [] (by decide) rfl⟩, hS.F ht⟩) hS.2.2 dX8_feed_75 hlk
    · skip
      refine lv_aload_n hx hb dX8_feed_16 rfl (lv_at hl 0 rfl) ?_
      refine xg hF kf_X8_60 hK hP 0 rfl rfl dX8_feed_17 ?_
      refine xg hF kf_X8_275 hK hP 1 rfl rfl dX8_feed_20 ?_
      refine lv_iload_n hx hb dX8_feed_23 rfl (lv_at hl 2 rfl) ?_
      refine lv_iadd hx hb dX8_feed_24 ?_
      refine xl_i (y := 4) (by decide) ?_
      refine lv_bipush (v := 120) hx hb dX8_feed_25 (by decide) ?_
      refine lv_icmp_le (tgt := 37) hx hb dX8_feed_27 (by decide) (fun c_42 => ?_) (fun c_42 => absurd (by decide) c_42)
      refine lv_iload_n hx hb dX8_feed_37 rfl (lv_at hl 2 rfl) ?_
      refine lv_iconst (v := 1) hx hb dX8_feed_38 (by decide) ?_
      refine lv_isub hx hb dX8_feed_39 ?_
      refine xl_i (y := 3) (by decide) ?_
      refine lv_istore_n (lv' := [(3, .int 3), (0, .ref h0), (1, .int p0), (2, .int 4)]) hx hb dX8_feed_40 rfl hl (by decide) rfl (fun ls hl => ?_)
      refine lv_iload_n hx hb dX8_feed_41 rfl (lv_at hl 0 rfl) ?_
      refine lv_if_lt (tgt := 68) hx hb dX8_feed_42 (by decide) (fun c_43 => absurd c_43 (by decide)) (fun c_43 => ?_)
      refine lv_aload_n hx hb dX8_feed_45 rfl (lv_at hl 1 rfl) ?_
      refine xg hF kf_X8_60 hK hP 0 rfl rfl dX8_feed_46 ?_
      refine lv_iload_n hx hb dX8_feed_49 rfl (lv_at hl 2 rfl) ?_
      refine lv_bipush (v := 8) hx hb dX8_feed_50 (by decide) ?_
      refine lv_iload_n hx hb dX8_feed_52 rfl (lv_at hl 0 rfl) ?_
      refine lv_imul hx hb dX8_feed_53 ?_
      refine xl_i (y := 24) (by decide) ?_
      refine lv_iushr hx hb dX8_feed_54 rfl ?_
      refine lv_topi (fun x_44 ex_44 => ?_)
      refine lv_sipush (v := 255) hx hb dX8_feed_55 (by decide) ?_
      refine lv_iand hx hb dX8_feed_58 ?_
      refine lv_topi (fun x_45 ex_45 => ?_)
      refine xc_Vv (wr := [(h0, .inr (8, [.ref qh, .ref qk, .ref qd, .int 0, .ref qa, .ref qm, .ref qs, .ref qp, .ref ql, .ref qt, .ref qz, .ref qf])), (qf, .inl (cI, 7, .inl (fun _ => 0)))]) hF (c_X7_addByte_0 l D cI cJ cZ cS sa s.heap.size qt tb x_45 (fun _ => 0) ) kv_X8_278 ⟨rfl, rfl, Nat.le_of_ble_eq_true rfl, Nat.le_of_ble_eq_true rfl⟩ ⟨Nat.le_of_ble_eq_true rfl, Nat.le_of_ble_eq_true rfl⟩ hK hN hP hD hS hA [1, 2] [0, 3] rfl rfl rfl rfl (by decide) 0 rfl rfl rfl rfl hl.1 rfl (Nat.le_of_ble_eq_true rfl) dX8_feed_59 (fun u_r_46 H locs hw_r_46 hP hD hS => ?_)
      obtain ⟨f2_47, rfl⟩ : ∃ z, z = u_r_46 := ⟨_, rfl⟩
      try dsimp only at hw_r_46
      have hP : va_P D vwCl [(h0, .inr (8, [.ref qh, .ref qk, .ref qd, .int 0, .ref qa, .ref qm, .ref qs, .ref qp, .ref ql, .ref qt, .ref qz, .ref qf])), (qf, .inl (cI, 7, .inl (fun _ => 0))), (qt, .inr (7, [.int 1, .ref tb, .int 0, .int 0, .int 0, .int 0, .int 0])), (tb, .inl (cI, 120, .inl f2_47))] H := hP
      have hD : va_D A [(h0, .inr (8, [.ref qh, .ref qk, .ref qd, .int 0, .ref qa, .ref qm, .ref qs, .ref qp, .ref ql, .ref qt, .ref qz, .ref qf])), (qf, .inl (cI, 7, .inl (fun _ => 0))), (qt, .inr (7, [.int 1, .ref tb, .int 0, .int 0, .int 0, .int 0, .int 0])), (tb, .inl (cI, 120, .inl f2_47))] := hD
      refine lv_iinc (v := 2) (lv' := [(3, .int 2), (0, .ref h0), (1, .int p0), (2, .int 4)]) hx hb dX8_feed_62 hl (k := 0) rfl (by decide) (by decide) rfl (fun ls hl => ?_)
      refine lv_goto (tgt := 41) hx hb dX8_feed_65 (by decide) ?_
      refine lv_iload_n hx hb dX8_feed_41 rfl (lv_at hl 0 rfl) ?_
      refine lv_if_lt (tgt := 68) hx hb dX8_feed_42 (by decide) (fun c_48 => absurd c_48 (by decide)) (fun c_48 => ?_)
      refine lv_aload_n hx hb dX8_feed_45 rfl (lv_at hl 1 rfl) ?_
      refine xg hF kf_X8_60 hK hP 0 rfl rfl dX8_feed_46 ?_
      refine lv_iload_n hx hb dX8_feed_49 rfl (lv_at hl 2 rfl) ?_
      refine lv_bipush (v := 8) hx hb dX8_feed_50 (by decide) ?_
      refine lv_iload_n hx hb dX8_feed_52 rfl (lv_at hl 0 rfl) ?_
      refine lv_imul hx hb dX8_feed_53 ?_
      refine xl_i (y := 16) (by decide) ?_
      refine lv_iushr hx hb dX8_feed_54 rfl ?_
      refine lv_topi (fun x_49 ex_49 => ?_)
      refine lv_sipush (v := 255) hx hb dX8_feed_55 (by decide) ?_
      refine lv_iand hx hb dX8_feed_58 ?_
      refine lv_topi (fun x_50 ex_50 => ?_)
      refine xc_Vv (wr := [(h0, .inr (8, [.ref qh, .ref qk, .ref qd, .int 0, .ref qa, .ref qm, .ref qs, .ref qp, .ref ql, .ref qt, .ref qz, .ref qf])), (qf, .inl (cI, 7, .inl (fun _ => 0)))]) hF (c_X7_addByte_1 l D cI cJ cZ cS sa H.size qt tb x_50 f2_47 ) kv_X8_278 ⟨rfl, rfl, Nat.le_of_ble_eq_true rfl, Nat.le_of_ble_eq_true rfl⟩ ⟨Nat.le_of_ble_eq_true rfl, Nat.le_of_ble_eq_true rfl⟩ hK hN hP hD hS hA [2, 3] [0, 1] rfl rfl rfl rfl (by decide) 0 rfl rfl rfl rfl hl.1 rfl (Nat.le_of_ble_eq_true rfl) dX8_feed_59 (fun u_r_51 H locs hw_r_51 hP hD hS => ?_)
      obtain ⟨f2_52, rfl⟩ : ∃ z, z = u_r_51 := ⟨_, rfl⟩
      try dsimp only at hw_r_51
      have hP : va_P D vwCl [(h0, .inr (8, [.ref qh, .ref qk, .ref qd, .int 0, .ref qa, .ref qm, .ref qs, .ref qp, .ref ql, .ref qt, .ref qz, .ref qf])), (qf, .inl (cI, 7, .inl (fun _ => 0))), (qt, .inr (7, [.int 2, .ref tb, .int 0, .int 0, .int 0, .int 0, .int 0])), (tb, .inl (cI, 120, .inl f2_52))] H := hP
      have hD : va_D A [(h0, .inr (8, [.ref qh, .ref qk, .ref qd, .int 0, .ref qa, .ref qm, .ref qs, .ref qp, .ref ql, .ref qt, .ref qz, .ref qf])), (qf, .inl (cI, 7, .inl (fun _ => 0))), (qt, .inr (7, [.int 2, .ref tb, .int 0, .int 0, .int 0, .int 0, .int 0])), (tb, .inl (cI, 120, .inl f2_52))] := hD
      refine lv_iinc (v := 1) (lv' := [(3, .int 1), (0, .ref h0), (1, .int p0), (2, .int 4)]) hx hb dX8_feed_62 hl (k := 0) rfl (by decide) (by decide) rfl (fun ls hl => ?_)
      refine lv_goto (tgt := 41) hx hb dX8_feed_65 (by decide) ?_
      refine lv_iload_n hx hb dX8_feed_41 rfl (lv_at hl 0 rfl) ?_
      refine lv_if_lt (tgt := 68) hx hb dX8_feed_42 (by decide) (fun c_53 => absurd c_53 (by decide)) (fun c_53 => ?_)
      refine lv_aload_n hx hb dX8_feed_45 rfl (lv_at hl 1 rfl) ?_
      refine xg hF kf_X8_60 hK hP 0 rfl rfl dX8_feed_46 ?_
      refine lv_iload_n hx hb dX8_feed_49 rfl (lv_at hl 2 rfl) ?_
      refine lv_bipush (v := 8) hx hb dX8_feed_50 (by decide) ?_
      refine lv_iload_n hx hb dX8_feed_52 rfl (lv_at hl 0 rfl) ?_
      refine lv_imul hx hb dX8_feed_53 ?_
      refine xl_i (y := 8) (by decide) ?_
      refine lv_iushr hx hb dX8_feed_54 rfl ?_
      refine lv_topi (fun x_54 ex_54 => ?_)
      refine lv_sipush (v := 255) hx hb dX8_feed_55 (by decide) ?_
      refine lv_iand hx hb dX8_feed_58 ?_
      refine lv_topi (fun x_55 ex_55 => ?_)
      refine xc_Vv (wr := [(h0, .inr (8, [.ref qh, .ref qk, .ref qd, .int 0, .ref qa, .ref qm, .ref qs, .ref qp, .ref ql, .ref qt, .ref qz, .ref qf])), (qf, .inl (cI, 7, .inl (fun _ => 0)))]) hF (c_X7_addByte_2 l D cI cJ cZ cS sa H.size qt tb x_55 f2_52 ) kv_X8_278 ⟨rfl, rfl, Nat.le_of_ble_eq_true rfl, Nat.le_of_ble_eq_true rfl⟩ ⟨Nat.le_of_ble_eq_true rfl, Nat.le_of_ble_eq_true rfl⟩ hK hN hP hD hS hA [2, 3] [0, 1] rfl rfl rfl rfl (by decide) 0 rfl rfl rfl rfl hl.1 rfl (Nat.le_of_ble_eq_true rfl) dX8_feed_59 (fun u_r_56 H locs hw_r_56 hP hD hS => ?_)
      obtain ⟨f2_57, rfl⟩ : ∃ z, z = u_r_56 := ⟨_, rfl⟩
      try dsimp only at hw_r_56
      have hP : va_P D vwCl [(h0, .inr (8, [.ref qh, .ref qk, .ref qd, .int 0, .ref qa, .ref qm, .ref qs, .ref qp, .ref ql, .ref qt, .ref qz, .ref qf])), (qf, .inl (cI, 7, .inl (fun _ => 0))), (qt, .inr (7, [.int 3, .ref tb, .int 0, .int 0, .int 0, .int 0, .int 0])), (tb, .inl (cI, 120, .inl f2_57))] H := hP
      have hD : va_D A [(h0, .inr (8, [.ref qh, .ref qk, .ref qd, .int 0, .ref qa, .ref qm, .ref qs, .ref qp, .ref ql, .ref qt, .ref qz, .ref qf])), (qf, .inl (cI, 7, .inl (fun _ => 0))), (qt, .inr (7, [.int 3, .ref tb, .int 0, .int 0, .int 0, .int 0, .int 0])), (tb, .inl (cI, 120, .inl f2_57))] := hD
      refine lv_iinc (v := 0) (lv' := [(3, .int 0), (0, .ref h0), (1, .int p0), (2, .int 4)]) hx hb dX8_feed_62 hl (k := 0) rfl (by decide) (by decide) rfl (fun ls hl => ?_)
      refine lv_goto (tgt := 41) hx hb dX8_feed_65 (by decide) ?_
      refine lv_iload_n hx hb dX8_feed_41 rfl (lv_at hl 0 rfl) ?_
      refine lv_if_lt (tgt := 68) hx hb dX8_feed_42 (by decide) (fun c_58 => absurd c_58 (by decide)) (fun c_58 => ?_)
      refine lv_aload_n hx hb dX8_feed_45 rfl (lv_at hl 1 rfl) ?_
      refine xg hF kf_X8_60 hK hP 0 rfl rfl dX8_feed_46 ?_
      refine lv_iload_n hx hb dX8_feed_49 rfl (lv_at hl 2 rfl) ?_
      refine lv_bipush (v := 8) hx hb dX8_feed_50 (by decide) ?_
      refine lv_iload_n hx hb dX8_feed_52 rfl (lv_at hl 0 rfl) ?_
      refine lv_imul hx hb dX8_feed_53 ?_
      refine xl_i (y := 0) (by decide) ?_
      refine lv_iushr hx hb dX8_feed_54 rfl ?_
      refine lv_topi (fun x_59 ex_59 => ?_)
      refine lv_sipush (v := 255) hx hb dX8_feed_55 (by decide) ?_
      refine lv_iand hx hb dX8_feed_58 ?_
      refine lv_topi (fun x_60 ex_60 => ?_)
      refine xc_Vv (wr := [(h0, .inr (8, [.ref qh, .ref qk, .ref qd, .int 0, .ref qa, .ref qm, .ref qs, .ref qp, .ref ql, .ref qt, .ref qz, .ref qf])), (qf, .inl (cI, 7, .inl (fun _ => 0)))]) hF (c_X7_addByte_3 l D cI cJ cZ cS sa H.size qt tb x_60 f2_57 ) kv_X8_278 ⟨rfl, rfl, Nat.le_of_ble_eq_true rfl, Nat.le_of_ble_eq_true rfl⟩ ⟨Nat.le_of_ble_eq_true rfl, Nat.le_of_ble_eq_true rfl⟩ hK hN hP hD hS hA [2, 3] [0, 1] rfl rfl rfl rfl (by decide) 0 rfl rfl rfl rfl hl.1 rfl (Nat.le_of_ble_eq_true rfl) dX8_feed_59 (fun u_r_61 H locs hw_r_61 hP hD hS => ?_)
      obtain ⟨f2_62, rfl⟩ : ∃ z, z = u_r_61 := ⟨_, rfl⟩
      try dsimp only at hw_r_61
      have hP : va_P D vwCl [(h0, .inr (8, [.ref qh, .ref qk, .ref qd, .int 0, .ref qa, .ref qm, .ref qs, .ref qp, .ref ql, .ref qt, .ref qz, .ref qf])), (qf, .inl (cI, 7, .inl (fun _ => 0))), (qt, .inr (7, [.int 4, .ref tb, .int 0, .int 0, .int 0, .int 0, .int 0])), (tb, .inl (cI, 120, .inl f2_62))] H := hP
      have hD : va_D A [(h0, .inr (8, [.ref qh, .ref qk, .ref qd, .int 0, .ref qa, .ref qm, .ref qs, .ref qp, .ref ql, .ref qt, .ref qz, .ref qf])), (qf, .inl (cI, 7, .inl (fun _ => 0))), (qt, .inr (7, [.int 4, .ref tb, .int 0, .int 0, .int 0, .int 0, .int 0])), (tb, .inl (cI, 120, .inl f2_62))] := hD
      refine lv_iinc (v := (-1)) (lv' := [(3, .int (-1)), (0, .ref h0), (1, .int p0), (2, .int 4)]) hx hb dX8_feed_62 hl (k := 0) rfl (by decide) (by decide) rfl (fun ls hl => ?_)
      refine lv_goto (tgt := 41) hx hb dX8_feed_65 (by decide) ?_
      refine lv_iload_n hx hb dX8_feed_41 rfl (lv_at hl 0 rfl) ?_
      refine lv_if_lt (tgt := 68) hx hb dX8_feed_42 (by decide) (fun c_63 => ?_) (fun c_63 => absurd (by decide) c_63)
      refine lv_aload_n hx hb dX8_feed_68 rfl (lv_at hl 1 rfl) ?_
      refine xg hF kf_X8_60 hK hP 0 rfl rfl dX8_feed_69 ?_
      refine xg hF kf_X8_275 hK hP 2 rfl rfl dX8_feed_72 ?_
      exact W.iret (v := 4) hx hb hr (fun t ht hW => ⟨⟨4, (), rfl, (by first | rfl | decide | simp), by rw [ht]; exact hP.sub [] rfl, hD.sub [] (by decide) rfl⟩, hS.F ht⟩) hS.2.2 dX8_feed_75 hlk
  · skip
    refine lv_if_ne (tgt := 16) hx hb dX8_feed_6 (by decide) (fun c_64 => absurd (by decide) c_64) (fun c_64 => ?_)
    refine lv_aload_n hx hb dX8_feed_9 rfl (lv_at hl 0 rfl) ?_
    refine lv_ldc (v := (-1000000001)) hx hb hown (hu _ uw4) dX8_feed_10 ?_
    refine xc_Vi (wr := [(qt, .inr (7, [.int 0, .ref tb, .int 0, .int 0, .int 0, .int 0, .int 0])), (tb, .inl (cI, 120, .inl (fun _ => 0)))]) hF (c_X8_finding_B l D cI cJ cZ cS sa s.heap.size h0 qh qk qd qa qm qs qp ql qt qz qf 0 (fun _ => 0) ) kv_X8_80 ⟨rfl, rfl, Nat.le_of_ble_eq_true rfl, Nat.le_of_ble_eq_true rfl⟩ ⟨Nat.le_of_ble_eq_true rfl, Nat.le_of_ble_eq_true rfl⟩ hK hN hP hD hS hA [0, 3] [1, 2] rfl rfl rfl rfl (by decide) 0 rfl rfl rfl rfl hl.1 rfl (Nat.le_of_ble_eq_true rfl) dX8_feed_12 (fun r_65 u_r_65 H locs hw_r_65 hP hD hS => ?_)
    have hP : va_P D vwCl [(qt, .inr (7, [.int 0, .ref tb, .int 0, .int 0, .int 0, .int 0, .int 0])), (tb, .inl (cI, 120, .inl (fun _ => 0)))] H := hP
    have hD : va_D A [(qt, .inr (7, [.int 0, .ref tb, .int 0, .int 0, .int 0, .int 0, .int 0])), (tb, .inl (cI, 120, .inl (fun _ => 0)))] := hD
    subst hw_r_65
    exact W.iret (v := (-1000000001)) hx hb hr (fun t ht hW => ⟨⟨(-1000000001), (), rfl, (p_feed h_4), by rw [ht]; exact hP.sub [] rfl, hD.sub [] (by decide) rfl⟩, hS.F ht⟩) hS.2.2 dX8_feed_15 hlk
set_option maxHeartbeats 4000000 in
set_option maxRecDepth 100000 in
theorem c_X8_sheet (l : Launch) (D : va_G) (cI cJ cZ cS : ClassId) (sa : Nat → Nat) (sz : Nat) (h0 : Nat) (qh : Nat) (qk : Nat) (qd : Nat) (qa : Nat) (qm : Nat) (qs : Nat) (qp : Nat) (ql : Nat) (qt : Nat) (qz : Nat) (qf : Nat) (s0 : Nat) (s1 : Nat) (s2 : Nat) (s3 : Nat) (sn0 : Nat) (sn1 : Nat) (sn2 : Nat) (sn3 : Nat) (p0 : Int32) (p1 : Int32) (p2 : Int32) : Met l yX8_sheet (Cond.code yX8_sheet cX8_sheet 4 (some .int) :: wsU) ({ frames := 2, cells := 0, slots := 0, locals := 42 }) (va_Pc [.ref h0, .int p0, .int p1, .int p2] (XW D (xT cI cJ cZ cS) sa [(h0, .inr (8, [.ref qh, .ref qk, .ref qd, .int 0, .ref qa, .ref qm, .ref qs, .ref qp, .ref ql, .ref qt, .ref qz, .ref qf])), (qz, .inl (cS, 4, .inr (.inr (.inr (.inr (xSh s0 s1 s2 s3)))))), (s0, .inr (4, [.int 0, .int 0, .ref sn0])), (s1, .inr (4, [.int 0, .int 0, .ref sn1])), (s2, .inr (4, [.int 0, .int 0, .ref sn2])), (s3, .inr (4, [.int 0, .int 0, .ref sn3])), (sn0, .inl (cJ, 40, .inr (.inl (fun _ => 0)))), (sn1, .inl (cJ, 40, .inr (.inl (fun _ => 0)))), (sn2, .inl (cJ, 40, .inr (.inl (fun _ => 0)))), (sn3, .inl (cJ, 40, .inr (.inl (fun _ => 0)))), (qf, .inl (cI, 7, .inl (fun _ => 0)))] sz)) (XQi (fun (r : Int32) (_ : Unit) => r = a_sheet p0 p1 p2) D (fun _ : Unit => []) (va_A [(h0, .inr (8, [.ref qh, .ref qk, .ref qd, .int 0, .ref qa, .ref qm, .ref qs, .ref qp, .ref ql, .ref qt, .ref qz, .ref qf])), (qz, .inl (cS, 4, .inr (.inr (.inr (.inr (xSh s0 s1 s2 s3)))))), (s0, .inr (4, [.int 0, .int 0, .ref sn0])), (s1, .inr (4, [.int 0, .int 0, .ref sn1])), (s2, .inr (4, [.int 0, .int 0, .ref sn2])), (s3, .inr (4, [.int 0, .int 0, .ref sn3])), (sn0, .inl (cJ, 40, .inr (.inl (fun _ => 0)))), (sn1, .inl (cJ, 40, .inr (.inl (fun _ => 0)))), (sn2, .inl (cJ, 40, .inr (.inl (fun _ => 0)))), (sn3, .inl (cJ, 40, .inr (.inl (fun _ => 0)))), (qf, .inl (cI, 7, .inl (fun _ => 0)))] sz)) 0 0 (va_A [(h0, .inr (8, [.ref qh, .ref qk, .ref qd, .int 0, .ref qa, .ref qm, .ref qs, .ref qp, .ref ql, .ref qt, .ref qz, .ref qf])), (qz, .inl (cS, 4, .inr (.inr (.inr (.inr (xSh s0 s1 s2 s3)))))), (s0, .inr (4, [.int 0, .int 0, .ref sn0])), (s1, .inr (4, [.int 0, .int 0, .ref sn1])), (s2, .inr (4, [.int 0, .int 0, .ref sn2])), (s3, .inr (4, [.int 0, .int 0, .ref sn3])), (sn0, .inl (cJ, 40, .inr (.inl (fun _ => 0)))), (sn1, .inl (cJ, 40, .inr (.inl (fun _ => 0)))), (sn2, .inl (cJ, 40, .inr (.inl (fun _ => 0)))), (sn3, .inl (cJ, 40, .inr (.inl (fun _ => 0)))), (qf, .inl (cI, 7, .inl (fun _ => 0)))] sz) := by
  refine xhw (QA := fun A => XQi (fun (r : Int32) (_ : Unit) => r = a_sheet p0 p1 p2) D (fun _ : Unit => []) A) (by decide) (Nat.le_of_ble_eq_true rfl) ?_
  intro p e s m below meth c ls A hF hr hlk hin hsz hP hK hD hN hA hS hl
  have hF : CallFix p m c cX8_sheet 4 s _ _ RX8 := hF
  have hx := hF.1
  have hb := hF.2.1
  have hml := hF.2.2.1
  have hown := hF.2.2.2.1
  have hu : ∀ w ∈ wsU, w.before _ s = true := fun w h => hF.2.2.2.2 w (List.mem_cons_of_mem _ h)
  have hl : lv_has ls 4 [(0, .ref h0), (1, .int p0), (2, .int p1), (3, .int p2)] := hl
  refine lv_iload_n hx hb dX8_sheet_0 rfl (lv_at hl 1 rfl) ?_
  refine xc_Sr hF (c_X8_isSheet l D cI cJ cZ cS sa s.heap.size p0 ) ks_X8_285 ⟨rfl, rfl, Nat.le_of_ble_eq_true rfl, Nat.le_of_ble_eq_true rfl⟩ ⟨Nat.le_of_ble_eq_true rfl, Nat.le_of_ble_eq_true rfl⟩ hK hN hP hD [] rfl rfl rfl hl.1 rfl (Nat.le_of_ble_eq_true rfl) dX8_sheet_1 (fun r_1 hw_r_1 => ?_)
  rcases hw_r_1 with ⟨rfl, h_2, h_3⟩ | ⟨rfl, h_4⟩
  · skip
    refine lv_if_eq (tgt := 29) hx hb dX8_sheet_4 (by decide) (fun c_5 => absurd c_5 (by decide)) (fun c_5 => ?_)
    refine lv_iload_n hx hb dX8_sheet_7 rfl (lv_at hl 2 rfl) ?_
    refine lv_if_eq (tgt := 36) hx hb dX8_sheet_8 (by decide) (fun c_6 => ?_) (fun c_6 => ?_)
    · skip
      subst c_6
      refine lv_iload_n hx hb dX8_sheet_36 rfl (lv_at hl 3 rfl) ?_
      refine lv_if_ge (tgt := 48) hx hb dX8_sheet_37 (by decide) (fun c_7 => ?_) (fun c_7 => ?_)
      · skip
        refine lv_iload_n hx hb dX8_sheet_48 rfl (lv_at hl 3 rfl) ?_
        refine lv_bipush (v := 40) hx hb dX8_sheet_49 (by decide) ?_
        refine lv_icmp_le (tgt := 61) hx hb dX8_sheet_51 (by decide) (fun c_8 => ?_) (fun c_8 => ?_)
        · skip
          rcases x_i4 h_2 h_3 with rfl | rfl | rfl | rfl
          · skip
            refine lv_aload_n hx hb dX8_sheet_61 rfl (lv_at hl 0 rfl) ?_
            refine xg hF kf_X8_66 hK hP 0 rfl rfl dX8_sheet_62 ?_
            refine lv_iload_n hx hb dX8_sheet_65 rfl (lv_at hl 1 rfl) ?_
            refine va_aldq hx hb hK hP 1 3 rfl rfl (xin 0 4 (by decide) (by decide)) dX8_sheet_66 ?_
            refine xl_v (w := .ref s0) rfl ?_
            refine lv_iload_n hx hb dX8_sheet_67 rfl (lv_at hl 2 rfl) ?_
            refine lv_iload_n hx hb dX8_sheet_68 rfl (lv_at hl 2 rfl) ?_
            refine lv_if_ne (tgt := 76) hx hb dX8_sheet_69 (by decide) (fun c_9 => absurd (by decide) c_9) (fun c_9 => ?_)
            refine lv_iconst (v := 0) hx hb dX8_sheet_72 (by decide) ?_
            refine lv_goto (tgt := 77) hx hb dX8_sheet_73 (by decide) ?_
            refine xc_Vv (wr := [(h0, .inr (8, [.ref qh, .ref qk, .ref qd, .int 0, .ref qa, .ref qm, .ref qs, .ref qp, .ref ql, .ref qt, .ref qz, .ref qf])), (qz, .inl (cS, 4, .inr (.inr (.inr (.inr (xSh s0 s1 s2 s3)))))), (s1, .inr (4, [.int 0, .int 0, .ref sn1])), (s2, .inr (4, [.int 0, .int 0, .ref sn2])), (s3, .inr (4, [.int 0, .int 0, .ref sn3])), (sn1, .inl (cJ, 40, .inr (.inl (fun _ => 0)))), (sn2, .inl (cJ, 40, .inr (.inl (fun _ => 0)))), (sn3, .inl (cJ, 40, .inr (.inl (fun _ => 0)))), (qf, .inl (cI, 7, .inl (fun _ => 0)))]) hF (c_X4_begin l D cI cJ cZ cS sa s.heap.size s0 sn0 0 0 (fun _ => 0) ) kv_X8_289 ⟨rfl, rfl, Nat.le_of_ble_eq_true rfl, Nat.le_of_ble_eq_true rfl⟩ ⟨Nat.le_of_ble_eq_true rfl, Nat.le_of_ble_eq_true rfl⟩ hK hN hP hD hS hA [2, 6] [0, 1, 3, 4, 5, 7, 8, 9, 10] rfl rfl rfl rfl (by decide) 0 rfl rfl rfl rfl hl.1 rfl (Nat.le_of_ble_eq_true rfl) dX8_sheet_77 (fun u_r_10 H locs hw_r_10 hP hD hS => ?_)
            have hP : va_P D vwCl [(h0, .inr (8, [.ref qh, .ref qk, .ref qd, .int 0, .ref qa, .ref qm, .ref qs, .ref qp, .ref ql, .ref qt, .ref qz, .ref qf])), (qz, .inl (cS, 4, .inr (.inr (.inr (.inr (xSh s0 s1 s2 s3)))))), (s1, .inr (4, [.int 0, .int 0, .ref sn1])), (s2, .inr (4, [.int 0, .int 0, .ref sn2])), (s3, .inr (4, [.int 0, .int 0, .ref sn3])), (sn1, .inl (cJ, 40, .inr (.inl (fun _ => 0)))), (sn2, .inl (cJ, 40, .inr (.inl (fun _ => 0)))), (sn3, .inl (cJ, 40, .inr (.inl (fun _ => 0)))), (qf, .inl (cI, 7, .inl (fun _ => 0))), (s0, .inr (4, [.int 0, .int 0, .ref sn0]))] H := hP
            have hD : va_D A [(h0, .inr (8, [.ref qh, .ref qk, .ref qd, .int 0, .ref qa, .ref qm, .ref qs, .ref qp, .ref ql, .ref qt, .ref qz, .ref qf])), (qz, .inl (cS, 4, .inr (.inr (.inr (.inr (xSh s0 s1 s2 s3)))))), (s1, .inr (4, [.int 0, .int 0, .ref sn1])), (s2, .inr (4, [.int 0, .int 0, .ref sn2])), (s3, .inr (4, [.int 0, .int 0, .ref sn3])), (sn1, .inl (cJ, 40, .inr (.inl (fun _ => 0)))), (sn2, .inl (cJ, 40, .inr (.inl (fun _ => 0)))), (sn3, .inl (cJ, 40, .inr (.inl (fun _ => 0)))), (qf, .inl (cI, 7, .inl (fun _ => 0))), (s0, .inr (4, [.int 0, .int 0, .ref sn0]))] := hD
            refine lv_aload_n hx hb dX8_sheet_80 rfl (lv_at hl 0 rfl) ?_
            refine xg hF kf_X8_66 hK hP 0 rfl rfl dX8_sheet_81 ?_
            refine lv_iload_n hx hb dX8_sheet_84 rfl (lv_at hl 1 rfl) ?_
            refine va_aldq hx hb hK hP 1 3 rfl rfl (xin 0 4 (by decide) (by decide)) dX8_sheet_85 ?_
            refine xl_v (w := .ref s0) rfl ?_
            refine xg hF kf_X8_293 hK hP 9 rfl rfl dX8_sheet_86 ?_
            exact W.iret (v := 0) hx hb hr (fun t ht hW => ⟨⟨0, (), rfl, (p_sheet5 (by decide) (by decide) (fun h => absurd c_7 (Int32.not_le.mpr h)) (fun h => absurd c_8 (Int32.not_le.mpr h))), by rw [ht]; exact hP.sub [] rfl, hD.sub [] (by decide) rfl⟩, hS.F ht⟩) hS.2.2 dX8_sheet_89 hlk
          · skip
            refine lv_aload_n hx hb dX8_sheet_61 rfl (lv_at hl 0 rfl) ?_
            refine xg hF kf_X8_66 hK hP 0 rfl rfl dX8_sheet_62 ?_
            refine lv_iload_n hx hb dX8_sheet_65 rfl (lv_at hl 1 rfl) ?_
            refine va_aldq hx hb hK hP 1 3 rfl rfl (xin 1 4 (by decide) (by decide)) dX8_sheet_66 ?_
            refine xl_v (w := .ref s1) rfl ?_
            refine lv_iload_n hx hb dX8_sheet_67 rfl (lv_at hl 2 rfl) ?_
            refine lv_iload_n hx hb dX8_sheet_68 rfl (lv_at hl 2 rfl) ?_
            refine lv_if_ne (tgt := 76) hx hb dX8_sheet_69 (by decide) (fun c_11 => absurd (by decide) c_11) (fun c_11 => ?_)
            refine lv_iconst (v := 0) hx hb dX8_sheet_72 (by decide) ?_
            refine lv_goto (tgt := 77) hx hb dX8_sheet_73 (by decide) ?_
            refine xc_Vv (wr := [(h0, .inr (8, [.ref qh, .ref qk, .ref qd, .int 0, .ref qa, .ref qm, .ref qs, .ref qp, .ref ql, .ref qt, .ref qz, .ref qf])), (qz, .inl (cS, 4, .inr (.inr (.inr (.inr (xSh s0 s1 s2 s3)))))), (s0, .inr (4, [.int 0, .int 0, .ref sn0])), (s2, .inr (4, [.int 0, .int 0, .ref sn2])), (s3, .inr (4, [.int 0, .int 0, .ref sn3])), (sn0, .inl (cJ, 40, .inr (.inl (fun _ => 0)))), (sn2, .inl (cJ, 40, .inr (.inl (fun _ => 0)))), (sn3, .inl (cJ, 40, .inr (.inl (fun _ => 0)))), (qf, .inl (cI, 7, .inl (fun _ => 0)))]) hF (c_X4_begin l D cI cJ cZ cS sa s.heap.size s1 sn1 0 0 (fun _ => 0) ) kv_X8_289 ⟨rfl, rfl, Nat.le_of_ble_eq_true rfl, Nat.le_of_ble_eq_true rfl⟩ ⟨Nat.le_of_ble_eq_true rfl, Nat.le_of_ble_eq_true rfl⟩ hK hN hP hD hS hA [3, 7] [0, 1, 2, 4, 5, 6, 8, 9, 10] rfl rfl rfl rfl (by decide) 0 rfl rfl rfl rfl hl.1 rfl (Nat.le_of_ble_eq_true rfl) dX8_sheet_77 (fun u_r_12 H locs hw_r_12 hP hD hS => ?_)
            have hP : va_P D vwCl [(h0, .inr (8, [.ref qh, .ref qk, .ref qd, .int 0, .ref qa, .ref qm, .ref qs, .ref qp, .ref ql, .ref qt, .ref qz, .ref qf])), (qz, .inl (cS, 4, .inr (.inr (.inr (.inr (xSh s0 s1 s2 s3)))))), (s0, .inr (4, [.int 0, .int 0, .ref sn0])), (s2, .inr (4, [.int 0, .int 0, .ref sn2])), (s3, .inr (4, [.int 0, .int 0, .ref sn3])), (sn0, .inl (cJ, 40, .inr (.inl (fun _ => 0)))), (sn2, .inl (cJ, 40, .inr (.inl (fun _ => 0)))), (sn3, .inl (cJ, 40, .inr (.inl (fun _ => 0)))), (qf, .inl (cI, 7, .inl (fun _ => 0))), (s1, .inr (4, [.int 0, .int 0, .ref sn1]))] H := hP
            have hD : va_D A [(h0, .inr (8, [.ref qh, .ref qk, .ref qd, .int 0, .ref qa, .ref qm, .ref qs, .ref qp, .ref ql, .ref qt, .ref qz, .ref qf])), (qz, .inl (cS, 4, .inr (.inr (.inr (.inr (xSh s0 s1 s2 s3)))))), (s0, .inr (4, [.int 0, .int 0, .ref sn0])), (s2, .inr (4, [.int 0, .int 0, .ref sn2])), (s3, .inr (4, [.int 0, .int 0, .ref sn3])), (sn0, .inl (cJ, 40, .inr (.inl (fun _ => 0)))), (sn2, .inl (cJ, 40, .inr (.inl (fun _ => 0)))), (sn3, .inl (cJ, 40, .inr (.inl (fun _ => 0)))), (qf, .inl (cI, 7, .inl (fun _ => 0))), (s1, .inr (4, [.int 0, .int 0, .ref sn1]))] := hD
            refine lv_aload_n hx hb dX8_sheet_80 rfl (lv_at hl 0 rfl) ?_
            refine xg hF kf_X8_66 hK hP 0 rfl rfl dX8_sheet_81 ?_
            refine lv_iload_n hx hb dX8_sheet_84 rfl (lv_at hl 1 rfl) ?_
            refine va_aldq hx hb hK hP 1 3 rfl rfl (xin 1 4 (by decide) (by decide)) dX8_sheet_85 ?_
            refine xl_v (w := .ref s1) rfl ?_
            refine xg hF kf_X8_293 hK hP 9 rfl rfl dX8_sheet_86 ?_
            exact W.iret (v := 0) hx hb hr (fun t ht hW => ⟨⟨0, (), rfl, (p_sheet5 (by decide) (by decide) (fun h => absurd c_7 (Int32.not_le.mpr h)) (fun h => absurd c_8 (Int32.not_le.mpr h))), by rw [ht]; exact hP.sub [] rfl, hD.sub [] (by decide) rfl⟩, hS.F ht⟩) hS.2.2 dX8_sheet_89 hlk
          · skip
            refine lv_aload_n hx hb dX8_sheet_61 rfl (lv_at hl 0 rfl) ?_
            refine xg hF kf_X8_66 hK hP 0 rfl rfl dX8_sheet_62 ?_
            refine lv_iload_n hx hb dX8_sheet_65 rfl (lv_at hl 1 rfl) ?_
            refine va_aldq hx hb hK hP 1 3 rfl rfl (xin 2 4 (by decide) (by decide)) dX8_sheet_66 ?_
            refine xl_v (w := .ref s2) rfl ?_
            refine lv_iload_n hx hb dX8_sheet_67 rfl (lv_at hl 2 rfl) ?_
            refine lv_iload_n hx hb dX8_sheet_68 rfl (lv_at hl 2 rfl) ?_
            refine lv_if_ne (tgt := 76) hx hb dX8_sheet_69 (by decide) (fun c_13 => absurd (by decide) c_13) (fun c_13 => ?_)
            refine lv_iconst (v := 0) hx hb dX8_sheet_72 (by decide) ?_
            refine lv_goto (tgt := 77) hx hb dX8_sheet_73 (by decide) ?_
            refine xc_Vv (wr := [(h0, .inr (8, [.ref qh, .ref qk, .ref qd, .int 0, .ref qa, .ref qm, .ref qs, .ref qp, .ref ql, .ref qt, .ref qz, .ref qf])), (qz, .inl (cS, 4, .inr (.inr (.inr (.inr (xSh s0 s1 s2 s3)))))), (s0, .inr (4, [.int 0, .int 0, .ref sn0])), (s1, .inr (4, [.int 0, .int 0, .ref sn1])), (s3, .inr (4, [.int 0, .int 0, .ref sn3])), (sn0, .inl (cJ, 40, .inr (.inl (fun _ => 0)))), (sn1, .inl (cJ, 40, .inr (.inl (fun _ => 0)))), (sn3, .inl (cJ, 40, .inr (.inl (fun _ => 0)))), (qf, .inl (cI, 7, .inl (fun _ => 0)))]) hF (c_X4_begin l D cI cJ cZ cS sa s.heap.size s2 sn2 0 0 (fun _ => 0) ) kv_X8_289 ⟨rfl, rfl, Nat.le_of_ble_eq_true rfl, Nat.le_of_ble_eq_true rfl⟩ ⟨Nat.le_of_ble_eq_true rfl, Nat.le_of_ble_eq_true rfl⟩ hK hN hP hD hS hA [4, 8] [0, 1, 2, 3, 5, 6, 7, 9, 10] rfl rfl rfl rfl (by decide) 0 rfl rfl rfl rfl hl.1 rfl (Nat.le_of_ble_eq_true rfl) dX8_sheet_77 (fun u_r_14 H locs hw_r_14 hP hD hS => ?_)
            have hP : va_P D vwCl [(h0, .inr (8, [.ref qh, .ref qk, .ref qd, .int 0, .ref qa, .ref qm, .ref qs, .ref qp, .ref ql, .ref qt, .ref qz, .ref qf])), (qz, .inl (cS, 4, .inr (.inr (.inr (.inr (xSh s0 s1 s2 s3)))))), (s0, .inr (4, [.int 0, .int 0, .ref sn0])), (s1, .inr (4, [.int 0, .int 0, .ref sn1])), (s3, .inr (4, [.int 0, .int 0, .ref sn3])), (sn0, .inl (cJ, 40, .inr (.inl (fun _ => 0)))), (sn1, .inl (cJ, 40, .inr (.inl (fun _ => 0)))), (sn3, .inl (cJ, 40, .inr (.inl (fun _ => 0)))), (qf, .inl (cI, 7, .inl (fun _ => 0))), (s2, .inr (4, [.int 0, .int 0, .ref sn2]))] H := hP
            have hD : va_D A [(h0, .inr (8, [.ref qh, .ref qk, .ref qd, .int 0, .ref qa, .ref qm, .ref qs, .ref qp, .ref ql, .ref qt, .ref qz, .ref qf])), (qz, .inl (cS, 4, .inr (.inr (.inr (.inr (xSh s0 s1 s2 s3)))))), (s0, .inr (4, [.int 0, .int 0, .ref sn0])), (s1, .inr (4, [.int 0, .int 0, .ref sn1])), (s3, .inr (4, [.int 0, .int 0, .ref sn3])), (sn0, .inl (cJ, 40, .inr (.inl (fun _ => 0)))), (sn1, .inl (cJ, 40, .inr (.inl (fun _ => 0)))), (sn3, .inl (cJ, 40, .inr (.inl (fun _ => 0)))), (qf, .inl (cI, 7, .inl (fun _ => 0))), (s2, .inr (4, [.int 0, .int 0, .ref sn2]))] := hD
            refine lv_aload_n hx hb dX8_sheet_80 rfl (lv_at hl 0 rfl) ?_
            refine xg hF kf_X8_66 hK hP 0 rfl rfl dX8_sheet_81 ?_
            refine lv_iload_n hx hb dX8_sheet_84 rfl (lv_at hl 1 rfl) ?_
            refine va_aldq hx hb hK hP 1 3 rfl rfl (xin 2 4 (by decide) (by decide)) dX8_sheet_85 ?_
            refine xl_v (w := .ref s2) rfl ?_
            refine xg hF kf_X8_293 hK hP 9 rfl rfl dX8_sheet_86 ?_
            exact W.iret (v := 0) hx hb hr (fun t ht hW => ⟨⟨0, (), rfl, (p_sheet5 (by decide) (by decide) (fun h => absurd c_7 (Int32.not_le.mpr h)) (fun h => absurd c_8 (Int32.not_le.mpr h))), by rw [ht]; exact hP.sub [] rfl, hD.sub [] (by decide) rfl⟩, hS.F ht⟩) hS.2.2 dX8_sheet_89 hlk
          · skip
            refine lv_aload_n hx hb dX8_sheet_61 rfl (lv_at hl 0 rfl) ?_
            refine xg hF kf_X8_66 hK hP 0 rfl rfl dX8_sheet_62 ?_
            refine lv_iload_n hx hb dX8_sheet_65 rfl (lv_at hl 1 rfl) ?_
            refine va_aldq hx hb hK hP 1 3 rfl rfl (xin 3 4 (by decide) (by decide)) dX8_sheet_66 ?_
            refine xl_v (w := .ref s3) rfl ?_
            refine lv_iload_n hx hb dX8_sheet_67 rfl (lv_at hl 2 rfl) ?_
            refine lv_iload_n hx hb dX8_sheet_68 rfl (lv_at hl 2 rfl) ?_
            refine lv_if_ne (tgt := 76) hx hb dX8_sheet_69 (by decide) (fun c_15 => absurd (by decide) c_15) (fun c_15 => ?_)
            refine lv_iconst (v := 0) hx hb dX8_sheet_72 (by decide) ?_
            refine lv_goto (tgt := 77) hx hb dX8_sheet_73 (by decide) ?_
            refine xc_Vv (wr := [(h0, .inr (8, [.ref qh, .ref qk, .ref qd, .int 0, .ref qa, .ref qm, .ref qs, .ref qp, .ref ql, .ref qt, .ref qz, .ref qf])), (qz, .inl (cS, 4, .inr (.inr (.inr (.inr (xSh s0 s1 s2 s3)))))), (s0, .inr (4, [.int 0, .int 0, .ref sn0])), (s1, .inr (4, [.int 0, .int 0, .ref sn1])), (s2, .inr (4, [.int 0, .int 0, .ref sn2])), (sn0, .inl (cJ, 40, .inr (.inl (fun _ => 0)))), (sn1, .inl (cJ, 40, .inr (.inl (fun _ => 0)))), (sn2, .inl (cJ, 40, .inr (.inl (fun _ => 0)))), (qf, .inl (cI, 7, .inl (fun _ => 0)))]) hF (c_X4_begin l D cI cJ cZ cS sa s.heap.size s3 sn3 0 0 (fun _ => 0) ) kv_X8_289 ⟨rfl, rfl, Nat.le_of_ble_eq_true rfl, Nat.le_of_ble_eq_true rfl⟩ ⟨Nat.le_of_ble_eq_true rfl, Nat.le_of_ble_eq_true rfl⟩ hK hN hP hD hS hA [5, 9] [0, 1, 2, 3, 4, 6, 7, 8, 10] rfl rfl rfl rfl (by decide) 0 rfl rfl rfl rfl hl.1 rfl (Nat.le_of_ble_eq_true rfl) dX8_sheet_77 (fun u_r_16 H locs hw_r_16 hP hD hS => ?_)
            have hP : va_P D vwCl [(h0, .inr (8, [.ref qh, .ref qk, .ref qd, .int 0, .ref qa, .ref qm, .ref qs, .ref qp, .ref ql, .ref qt, .ref qz, .ref qf])), (qz, .inl (cS, 4, .inr (.inr (.inr (.inr (xSh s0 s1 s2 s3)))))), (s0, .inr (4, [.int 0, .int 0, .ref sn0])), (s1, .inr (4, [.int 0, .int 0, .ref sn1])), (s2, .inr (4, [.int 0, .int 0, .ref sn2])), (sn0, .inl (cJ, 40, .inr (.inl (fun _ => 0)))), (sn1, .inl (cJ, 40, .inr (.inl (fun _ => 0)))), (sn2, .inl (cJ, 40, .inr (.inl (fun _ => 0)))), (qf, .inl (cI, 7, .inl (fun _ => 0))), (s3, .inr (4, [.int 0, .int 0, .ref sn3]))] H := hP
            have hD : va_D A [(h0, .inr (8, [.ref qh, .ref qk, .ref qd, .int 0, .ref qa, .ref qm, .ref qs, .ref qp, .ref ql, .ref qt, .ref qz, .ref qf])), (qz, .inl (cS, 4, .inr (.inr (.inr (.inr (xSh s0 s1 s2 s3)))))), (s0, .inr (4, [.int 0, .int 0, .ref sn0])), (s1, .inr (4, [.int 0, .int 0, .ref sn1])), (s2, .inr (4, [.int 0, .int 0, .ref sn2])), (sn0, .inl (cJ, 40, .inr (.inl (fun _ => 0)))), (sn1, .inl (cJ, 40, .inr (.inl (fun _ => 0)))), (sn2, .inl (cJ, 40, .inr (.inl (fun _ => 0)))), (qf, .inl (cI, 7, .inl (fun _ => 0))), (s3, .inr (4, [.int 0, .int 0, .ref sn3]))] := hD
            refine lv_aload_n hx hb dX8_sheet_80 rfl (lv_at hl 0 rfl) ?_
            refine xg hF kf_X8_66 hK hP 0 rfl rfl dX8_sheet_81 ?_
            refine lv_iload_n hx hb dX8_sheet_84 rfl (lv_at hl 1 rfl) ?_
            refine va_aldq hx hb hK hP 1 3 rfl rfl (xin 3 4 (by decide) (by decide)) dX8_sheet_85 ?_
            refine xl_v (w := .ref s3) rfl ?_
            refine xg hF kf_X8_293 hK hP 9 rfl rfl dX8_sheet_86 ?_
            exact W.iret (v := 0) hx hb hr (fun t ht hW => ⟨⟨0, (), rfl, (p_sheet5 (by decide) (by decide) (fun h => absurd c_7 (Int32.not_le.mpr h)) (fun h => absurd c_8 (Int32.not_le.mpr h))), by rw [ht]; exact hP.sub [] rfl, hD.sub [] (by decide) rfl⟩, hS.F ht⟩) hS.2.2 dX8_sheet_89 hlk
        · skip
          refine lv_aload_n hx hb dX8_sheet_54 rfl (lv_at hl 0 rfl) ?_
          refine lv_ldc (v := (-1000000001)) hx hb hown (hu _ uw4) dX8_sheet_55 ?_
          refine xc_Vi (wr := [(qz, .inl (cS, 4, .inr (.inr (.inr (.inr (xSh s0 s1 s2 s3)))))), (s0, .inr (4, [.int 0, .int 0, .ref sn0])), (s1, .inr (4, [.int 0, .int 0, .ref sn1])), (s2, .inr (4, [.int 0, .int 0, .ref sn2])), (s3, .inr (4, [.int 0, .int 0, .ref sn3])), (sn0, .inl (cJ, 40, .inr (.inl (fun _ => 0)))), (sn1, .inl (cJ, 40, .inr (.inl (fun _ => 0)))), (sn2, .inl (cJ, 40, .inr (.inl (fun _ => 0)))), (sn3, .inl (cJ, 40, .inr (.inl (fun _ => 0))))]) hF (c_X8_finding_B l D cI cJ cZ cS sa s.heap.size h0 qh qk qd qa qm qs qp ql qt qz qf 0 (fun _ => 0) ) kv_X8_80 ⟨rfl, rfl, Nat.le_of_ble_eq_true rfl, Nat.le_of_ble_eq_true rfl⟩ ⟨Nat.le_of_ble_eq_true rfl, Nat.le_of_ble_eq_true rfl⟩ hK hN hP hD hS hA [0, 10] [1, 2, 3, 4, 5, 6, 7, 8, 9] rfl rfl rfl rfl (by decide) 0 rfl rfl rfl rfl hl.1 rfl (Nat.le_of_ble_eq_true rfl) dX8_sheet_57 (fun r_17 u_r_17 H locs hw_r_17 hP hD hS => ?_)
          have hP : va_P D vwCl [(qz, .inl (cS, 4, .inr (.inr (.inr (.inr (xSh s0 s1 s2 s3)))))), (s0, .inr (4, [.int 0, .int 0, .ref sn0])), (s1, .inr (4, [.int 0, .int 0, .ref sn1])), (s2, .inr (4, [.int 0, .int 0, .ref sn2])), (s3, .inr (4, [.int 0, .int 0, .ref sn3])), (sn0, .inl (cJ, 40, .inr (.inl (fun _ => 0)))), (sn1, .inl (cJ, 40, .inr (.inl (fun _ => 0)))), (sn2, .inl (cJ, 40, .inr (.inl (fun _ => 0)))), (sn3, .inl (cJ, 40, .inr (.inl (fun _ => 0))))] H := hP
          have hD : va_D A [(qz, .inl (cS, 4, .inr (.inr (.inr (.inr (xSh s0 s1 s2 s3)))))), (s0, .inr (4, [.int 0, .int 0, .ref sn0])), (s1, .inr (4, [.int 0, .int 0, .ref sn1])), (s2, .inr (4, [.int 0, .int 0, .ref sn2])), (s3, .inr (4, [.int 0, .int 0, .ref sn3])), (sn0, .inl (cJ, 40, .inr (.inl (fun _ => 0)))), (sn1, .inl (cJ, 40, .inr (.inl (fun _ => 0)))), (sn2, .inl (cJ, 40, .inr (.inl (fun _ => 0)))), (sn3, .inl (cJ, 40, .inr (.inl (fun _ => 0))))] := hD
          subst hw_r_17
          exact W.iret (v := (-1000000001)) hx hb hr (fun t ht hW => ⟨⟨(-1000000001), (), rfl, (p_sheet4 h_2 h_3 (by decide) (fun h => absurd c_7 (Int32.not_le.mpr h)) (xlt c_8)), by rw [ht]; exact hP.sub [] rfl, hD.sub [] (by decide) rfl⟩, hS.F ht⟩) hS.2.2 dX8_sheet_60 hlk
      · skip
        refine lv_aload_n hx hb dX8_sheet_40 rfl (lv_at hl 0 rfl) ?_
        refine lv_ldcw (v := (-1000000007)) hx hb hown (hu _ uw231) dX8_sheet_41 ?_
        refine xc_Vi (wr := [(qz, .inl (cS, 4, .inr (.inr (.inr (.inr (xSh s0 s1 s2 s3)))))), (s0, .inr (4, [.int 0, .int 0, .ref sn0])), (s1, .inr (4, [.int 0, .int 0, .ref sn1])), (s2, .inr (4, [.int 0, .int 0, .ref sn2])), (s3, .inr (4, [.int 0, .int 0, .ref sn3])), (sn0, .inl (cJ, 40, .inr (.inl (fun _ => 0)))), (sn1, .inl (cJ, 40, .inr (.inl (fun _ => 0)))), (sn2, .inl (cJ, 40, .inr (.inl (fun _ => 0)))), (sn3, .inl (cJ, 40, .inr (.inl (fun _ => 0))))]) hF (c_X8_finding_S l D cI cJ cZ cS sa s.heap.size h0 qh qk qd qa qm qs qp ql qt qz qf 0 (fun _ => 0) ) kv_X8_80 ⟨rfl, rfl, Nat.le_of_ble_eq_true rfl, Nat.le_of_ble_eq_true rfl⟩ ⟨Nat.le_of_ble_eq_true rfl, Nat.le_of_ble_eq_true rfl⟩ hK hN hP hD hS hA [0, 10] [1, 2, 3, 4, 5, 6, 7, 8, 9] rfl rfl rfl rfl (by decide) 0 rfl rfl rfl rfl hl.1 rfl (Nat.le_of_ble_eq_true rfl) dX8_sheet_44 (fun r_18 u_r_18 H locs hw_r_18 hP hD hS => ?_)
        have hP : va_P D vwCl [(qz, .inl (cS, 4, .inr (.inr (.inr (.inr (xSh s0 s1 s2 s3)))))), (s0, .inr (4, [.int 0, .int 0, .ref sn0])), (s1, .inr (4, [.int 0, .int 0, .ref sn1])), (s2, .inr (4, [.int 0, .int 0, .ref sn2])), (s3, .inr (4, [.int 0, .int 0, .ref sn3])), (sn0, .inl (cJ, 40, .inr (.inl (fun _ => 0)))), (sn1, .inl (cJ, 40, .inr (.inl (fun _ => 0)))), (sn2, .inl (cJ, 40, .inr (.inl (fun _ => 0)))), (sn3, .inl (cJ, 40, .inr (.inl (fun _ => 0))))] H := hP
        have hD : va_D A [(qz, .inl (cS, 4, .inr (.inr (.inr (.inr (xSh s0 s1 s2 s3)))))), (s0, .inr (4, [.int 0, .int 0, .ref sn0])), (s1, .inr (4, [.int 0, .int 0, .ref sn1])), (s2, .inr (4, [.int 0, .int 0, .ref sn2])), (s3, .inr (4, [.int 0, .int 0, .ref sn3])), (sn0, .inl (cJ, 40, .inr (.inl (fun _ => 0)))), (sn1, .inl (cJ, 40, .inr (.inl (fun _ => 0)))), (sn2, .inl (cJ, 40, .inr (.inl (fun _ => 0)))), (sn3, .inl (cJ, 40, .inr (.inl (fun _ => 0))))] := hD
        subst hw_r_18
        exact W.iret (v := (-1000000007)) hx hb hr (fun t ht hW => ⟨⟨(-1000000007), (), rfl, (p_sheet3 h_2 h_3 (by decide) (xlt c_7)), by rw [ht]; exact hP.sub [] rfl, hD.sub [] (by decide) rfl⟩, hS.F ht⟩) hS.2.2 dX8_sheet_47 hlk
    · skip
      refine lv_iload_n hx hb dX8_sheet_11 rfl (lv_at hl 2 rfl) ?_
      refine lv_bipush (v := 8) hx hb dX8_sheet_12 (by decide) ?_
      refine lv_icmp_eq (tgt := 36) hx hb dX8_sheet_14 (by decide) (fun c_19 => ?_) (fun c_19 => ?_)
      · skip
        subst c_19
        refine lv_iload_n hx hb dX8_sheet_36 rfl (lv_at hl 3 rfl) ?_
        refine lv_if_ge (tgt := 48) hx hb dX8_sheet_37 (by decide) (fun c_20 => ?_) (fun c_20 => ?_)
        · skip
          refine lv_iload_n hx hb dX8_sheet_48 rfl (lv_at hl 3 rfl) ?_
          refine lv_bipush (v := 40) hx hb dX8_sheet_49 (by decide) ?_
          refine lv_icmp_le (tgt := 61) hx hb dX8_sheet_51 (by decide) (fun c_21 => ?_) (fun c_21 => ?_)
          · skip
            rcases x_i4 h_2 h_3 with rfl | rfl | rfl | rfl
            · skip
              refine lv_aload_n hx hb dX8_sheet_61 rfl (lv_at hl 0 rfl) ?_
              refine xg hF kf_X8_66 hK hP 0 rfl rfl dX8_sheet_62 ?_
              refine lv_iload_n hx hb dX8_sheet_65 rfl (lv_at hl 1 rfl) ?_
              refine va_aldq hx hb hK hP 1 3 rfl rfl (xin 0 4 (by decide) (by decide)) dX8_sheet_66 ?_
              refine xl_v (w := .ref s0) rfl ?_
              refine lv_iload_n hx hb dX8_sheet_67 rfl (lv_at hl 2 rfl) ?_
              refine lv_iload_n hx hb dX8_sheet_68 rfl (lv_at hl 2 rfl) ?_
              refine lv_if_ne (tgt := 76) hx hb dX8_sheet_69 (by decide) (fun c_22 => ?_) (fun c_22 => absurd c_22 (by decide))
              refine lv_iload_n hx hb dX8_sheet_76 rfl (lv_at hl 3 rfl) ?_
              refine xc_Vv (wr := [(h0, .inr (8, [.ref qh, .ref qk, .ref qd, .int 0, .ref qa, .ref qm, .ref qs, .ref qp, .ref ql, .ref qt, .ref qz, .ref qf])), (qz, .inl (cS, 4, .inr (.inr (.inr (.inr (xSh s0 s1 s2 s3)))))), (s1, .inr (4, [.int 0, .int 0, .ref sn1])), (s2, .inr (4, [.int 0, .int 0, .ref sn2])), (s3, .inr (4, [.int 0, .int 0, .ref sn3])), (sn1, .inl (cJ, 40, .inr (.inl (fun _ => 0)))), (sn2, .inl (cJ, 40, .inr (.inl (fun _ => 0)))), (sn3, .inl (cJ, 40, .inr (.inl (fun _ => 0)))), (qf, .inl (cI, 7, .inl (fun _ => 0)))]) hF (c_X4_begin l D cI cJ cZ cS sa s.heap.size s0 sn0 8 p2 (fun _ => 0) ) kv_X8_289 ⟨rfl, rfl, Nat.le_of_ble_eq_true rfl, Nat.le_of_ble_eq_true rfl⟩ ⟨Nat.le_of_ble_eq_true rfl, Nat.le_of_ble_eq_true rfl⟩ hK hN hP hD hS hA [2, 6] [0, 1, 3, 4, 5, 7, 8, 9, 10] rfl rfl rfl rfl (by decide) 0 rfl rfl rfl rfl hl.1 rfl (Nat.le_of_ble_eq_true rfl) dX8_sheet_77 (fun u_r_23 H locs hw_r_23 hP hD hS => ?_)
              have hP : va_P D vwCl [(h0, .inr (8, [.ref qh, .ref qk, .ref qd, .int 0, .ref qa, .ref qm, .ref qs, .ref qp, .ref ql, .ref qt, .ref qz, .ref qf])), (qz, .inl (cS, 4, .inr (.inr (.inr (.inr (xSh s0 s1 s2 s3)))))), (s1, .inr (4, [.int 0, .int 0, .ref sn1])), (s2, .inr (4, [.int 0, .int 0, .ref sn2])), (s3, .inr (4, [.int 0, .int 0, .ref sn3])), (sn1, .inl (cJ, 40, .inr (.inl (fun _ => 0)))), (sn2, .inl (cJ, 40, .inr (.inl (fun _ => 0)))), (sn3, .inl (cJ, 40, .inr (.inl (fun _ => 0)))), (qf, .inl (cI, 7, .inl (fun _ => 0))), (s0, .inr (4, [.int 8, .int p2, .ref sn0]))] H := hP
              have hD : va_D A [(h0, .inr (8, [.ref qh, .ref qk, .ref qd, .int 0, .ref qa, .ref qm, .ref qs, .ref qp, .ref ql, .ref qt, .ref qz, .ref qf])), (qz, .inl (cS, 4, .inr (.inr (.inr (.inr (xSh s0 s1 s2 s3)))))), (s1, .inr (4, [.int 0, .int 0, .ref sn1])), (s2, .inr (4, [.int 0, .int 0, .ref sn2])), (s3, .inr (4, [.int 0, .int 0, .ref sn3])), (sn1, .inl (cJ, 40, .inr (.inl (fun _ => 0)))), (sn2, .inl (cJ, 40, .inr (.inl (fun _ => 0)))), (sn3, .inl (cJ, 40, .inr (.inl (fun _ => 0)))), (qf, .inl (cI, 7, .inl (fun _ => 0))), (s0, .inr (4, [.int 8, .int p2, .ref sn0]))] := hD
              refine lv_aload_n hx hb dX8_sheet_80 rfl (lv_at hl 0 rfl) ?_
              refine xg hF kf_X8_66 hK hP 0 rfl rfl dX8_sheet_81 ?_
              refine lv_iload_n hx hb dX8_sheet_84 rfl (lv_at hl 1 rfl) ?_
              refine va_aldq hx hb hK hP 1 3 rfl rfl (xin 0 4 (by decide) (by decide)) dX8_sheet_85 ?_
              refine xl_v (w := .ref s0) rfl ?_
              refine xg hF kf_X8_293 hK hP 9 rfl rfl dX8_sheet_86 ?_
              exact W.iret (v := p2) hx hb hr (fun t ht hW => ⟨⟨p2, (), rfl, (p_sheet6 (by decide) (by decide) (by decide) (fun h => absurd c_20 (Int32.not_le.mpr h)) (fun h => absurd c_21 (Int32.not_le.mpr h)) (by decide)), by rw [ht]; exact hP.sub [] rfl, hD.sub [] (by decide) rfl⟩, hS.F ht⟩) hS.2.2 dX8_sheet_89 hlk
            · skip
              refine lv_aload_n hx hb dX8_sheet_61 rfl (lv_at hl 0 rfl) ?_
              refine xg hF kf_X8_66 hK hP 0 rfl rfl dX8_sheet_62 ?_
              refine lv_iload_n hx hb dX8_sheet_65 rfl (lv_at hl 1 rfl) ?_
              refine va_aldq hx hb hK hP 1 3 rfl rfl (xin 1 4 (by decide) (by decide)) dX8_sheet_66 ?_
              refine xl_v (w := .ref s1) rfl ?_
              refine lv_iload_n hx hb dX8_sheet_67 rfl (lv_at hl 2 rfl) ?_
              refine lv_iload_n hx hb dX8_sheet_68 rfl (lv_at hl 2 rfl) ?_
              refine lv_if_ne (tgt := 76) hx hb dX8_sheet_69 (by decide) (fun c_24 => ?_) (fun c_24 => absurd c_24 (by decide))
              refine lv_iload_n hx hb dX8_sheet_76 rfl (lv_at hl 3 rfl) ?_
              refine xc_Vv (wr := [(h0, .inr (8, [.ref qh, .ref qk, .ref qd, .int 0, .ref qa, .ref qm, .ref qs, .ref qp, .ref ql, .ref qt, .ref qz, .ref qf])), (qz, .inl (cS, 4, .inr (.inr (.inr (.inr (xSh s0 s1 s2 s3)))))), (s0, .inr (4, [.int 0, .int 0, .ref sn0])), (s2, .inr (4, [.int 0, .int 0, .ref sn2])), (s3, .inr (4, [.int 0, .int 0, .ref sn3])), (sn0, .inl (cJ, 40, .inr (.inl (fun _ => 0)))), (sn2, .inl (cJ, 40, .inr (.inl (fun _ => 0)))), (sn3, .inl (cJ, 40, .inr (.inl (fun _ => 0)))), (qf, .inl (cI, 7, .inl (fun _ => 0)))]) hF (c_X4_begin l D cI cJ cZ cS sa s.heap.size s1 sn1 8 p2 (fun _ => 0) ) kv_X8_289 ⟨rfl, rfl, Nat.le_of_ble_eq_true rfl, Nat.le_of_ble_eq_true rfl⟩ ⟨Nat.le_of_ble_eq_true rfl, Nat.le_of_ble_eq_true rfl⟩ hK hN hP hD hS hA [3, 7] [0, 1, 2, 4, 5, 6, 8, 9, 10] rfl rfl rfl rfl (by decide) 0 rfl rfl rfl rfl hl.1 rfl (Nat.le_of_ble_eq_true rfl) dX8_sheet_77 (fun u_r_25 H locs hw_r_25 hP hD hS => ?_)
              have hP : va_P D vwCl [(h0, .inr (8, [.ref qh, .ref qk, .ref qd, .int 0, .ref qa, .ref qm, .ref qs, .ref qp, .ref ql, .ref qt, .ref qz, .ref qf])), (qz, .inl (cS, 4, .inr (.inr (.inr (.inr (xSh s0 s1 s2 s3)))))), (s0, .inr (4, [.int 0, .int 0, .ref sn0])), (s2, .inr (4, [.int 0, .int 0, .ref sn2])), (s3, .inr (4, [.int 0, .int 0, .ref sn3])), (sn0, .inl (cJ, 40, .inr (.inl (fun _ => 0)))), (sn2, .inl (cJ, 40, .inr (.inl (fun _ => 0)))), (sn3, .inl (cJ, 40, .inr (.inl (fun _ => 0)))), (qf, .inl (cI, 7, .inl (fun _ => 0))), (s1, .inr (4, [.int 8, .int p2, .ref sn1]))] H := hP
              have hD : va_D A [(h0, .inr (8, [.ref qh, .ref qk, .ref qd, .int 0, .ref qa, .ref qm, .ref qs, .ref qp, .ref ql, .ref qt, .ref qz, .ref qf])), (qz, .inl (cS, 4, .inr (.inr (.inr (.inr (xSh s0 s1 s2 s3)))))), (s0, .inr (4, [.int 0, .int 0, .ref sn0])), (s2, .inr (4, [.int 0, .int 0, .ref sn2])), (s3, .inr (4, [.int 0, .int 0, .ref sn3])), (sn0, .inl (cJ, 40, .inr (.inl (fun _ => 0)))), (sn2, .inl (cJ, 40, .inr (.inl (fun _ => 0)))), (sn3, .inl (cJ, 40, .inr (.inl (fun _ => 0)))), (qf, .inl (cI, 7, .inl (fun _ => 0))), (s1, .inr (4, [.int 8, .int p2, .ref sn1]))] := hD
              refine lv_aload_n hx hb dX8_sheet_80 rfl (lv_at hl 0 rfl) ?_
              refine xg hF kf_X8_66 hK hP 0 rfl rfl dX8_sheet_81 ?_
              refine lv_iload_n hx hb dX8_sheet_84 rfl (lv_at hl 1 rfl) ?_
              refine va_aldq hx hb hK hP 1 3 rfl rfl (xin 1 4 (by decide) (by decide)) dX8_sheet_85 ?_
              refine xl_v (w := .ref s1) rfl ?_
              refine xg hF kf_X8_293 hK hP 9 rfl rfl dX8_sheet_86 ?_
              exact W.iret (v := p2) hx hb hr (fun t ht hW => ⟨⟨p2, (), rfl, (p_sheet6 (by decide) (by decide) (by decide) (fun h => absurd c_20 (Int32.not_le.mpr h)) (fun h => absurd c_21 (Int32.not_le.mpr h)) (by decide)), by rw [ht]; exact hP.sub [] rfl, hD.sub [] (by decide) rfl⟩, hS.F ht⟩) hS.2.2 dX8_sheet_89 hlk
            · skip
              refine lv_aload_n hx hb dX8_sheet_61 rfl (lv_at hl 0 rfl) ?_
              refine xg hF kf_X8_66 hK hP 0 rfl rfl dX8_sheet_62 ?_
              refine lv_iload_n hx hb dX8_sheet_65 rfl (lv_at hl 1 rfl) ?_
              refine va_aldq hx hb hK hP 1 3 rfl rfl (xin 2 4 (by decide) (by decide)) dX8_sheet_66 ?_
              refine xl_v (w := .ref s2) rfl ?_
              refine lv_iload_n hx hb dX8_sheet_67 rfl (lv_at hl 2 rfl) ?_
              refine lv_iload_n hx hb dX8_sheet_68 rfl (lv_at hl 2 rfl) ?_
              refine lv_if_ne (tgt := 76) hx hb dX8_sheet_69 (by decide) (fun c_26 => ?_) (fun c_26 => absurd c_26 (by decide))
              refine lv_iload_n hx hb dX8_sheet_76 rfl (lv_at hl 3 rfl) ?_
              refine xc_Vv (wr := [(h0, .inr (8, [.ref qh, .ref qk, .ref qd, .int 0, .ref qa, .ref qm, .ref qs, .ref qp, .ref ql, .ref qt, .ref qz, .ref qf])), (qz, .inl (cS, 4, .inr (.inr (.inr (.inr (xSh s0 s1 s2 s3)))))), (s0, .inr (4, [.int 0, .int 0, .ref sn0])), (s1, .inr (4, [.int 0, .int 0, .ref sn1])), (s3, .inr (4, [.int 0, .int 0, .ref sn3])), (sn0, .inl (cJ, 40, .inr (.inl (fun _ => 0)))), (sn1, .inl (cJ, 40, .inr (.inl (fun _ => 0)))), (sn3, .inl (cJ, 40, .inr (.inl (fun _ => 0)))), (qf, .inl (cI, 7, .inl (fun _ => 0)))]) hF (c_X4_begin l D cI cJ cZ cS sa s.heap.size s2 sn2 8 p2 (fun _ => 0) ) kv_X8_289 ⟨rfl, rfl, Nat.le_of_ble_eq_true rfl, Nat.le_of_ble_eq_true rfl⟩ ⟨Nat.le_of_ble_eq_true rfl, Nat.le_of_ble_eq_true rfl⟩ hK hN hP hD hS hA [4, 8] [0, 1, 2, 3, 5, 6, 7, 9, 10] rfl rfl rfl rfl (by decide) 0 rfl rfl rfl rfl hl.1 rfl (Nat.le_of_ble_eq_true rfl) dX8_sheet_77 (fun u_r_27 H locs hw_r_27 hP hD hS => ?_)
              have hP : va_P D vwCl [(h0, .inr (8, [.ref qh, .ref qk, .ref qd, .int 0, .ref qa, .ref qm, .ref qs, .ref qp, .ref ql, .ref qt, .ref qz, .ref qf])), (qz, .inl (cS, 4, .inr (.inr (.inr (.inr (xSh s0 s1 s2 s3)))))), (s0, .inr (4, [.int 0, .int 0, .ref sn0])), (s1, .inr (4, [.int 0, .int 0, .ref sn1])), (s3, .inr (4, [.int 0, .int 0, .ref sn3])), (sn0, .inl (cJ, 40, .inr (.inl (fun _ => 0)))), (sn1, .inl (cJ, 40, .inr (.inl (fun _ => 0)))), (sn3, .inl (cJ, 40, .inr (.inl (fun _ => 0)))), (qf, .inl (cI, 7, .inl (fun _ => 0))), (s2, .inr (4, [.int 8, .int p2, .ref sn2]))] H := hP
              have hD : va_D A [(h0, .inr (8, [.ref qh, .ref qk, .ref qd, .int 0, .ref qa, .ref qm, .ref qs, .ref qp, .ref ql, .ref qt, .ref qz, .ref qf])), (qz, .inl (cS, 4, .inr (.inr (.inr (.inr (xSh s0 s1 s2 s3)))))), (s0, .inr (4, [.int 0, .int 0, .ref sn0])), (s1, .inr (4, [.int 0, .int 0, .ref sn1])), (s3, .inr (4, [.int 0, .int 0, .ref sn3])), (sn0, .inl (cJ, 40, .inr (.inl (fun _ => 0)))), (sn1, .inl (cJ, 40, .inr (.inl (fun _ => 0)))), (sn3, .inl (cJ, 40, .inr (.inl (fun _ => 0)))), (qf, .inl (cI, 7, .inl (fun _ => 0))), (s2, .inr (4, [.int 8, .int p2, .ref sn2]))] := hD
              refine lv_aload_n hx hb dX8_sheet_80 rfl (lv_at hl 0 rfl) ?_
              refine xg hF kf_X8_66 hK hP 0 rfl rfl dX8_sheet_81 ?_
              refine lv_iload_n hx hb dX8_sheet_84 rfl (lv_at hl 1 rfl) ?_
              refine va_aldq hx hb hK hP 1 3 rfl rfl (xin 2 4 (by decide) (by decide)) dX8_sheet_85 ?_
              refine xl_v (w := .ref s2) rfl ?_
              refine xg hF kf_X8_293 hK hP 9 rfl rfl dX8_sheet_86 ?_
              exact W.iret (v := p2) hx hb hr (fun t ht hW => ⟨⟨p2, (), rfl, (p_sheet6 (by decide) (by decide) (by decide) (fun h => absurd c_20 (Int32.not_le.mpr h)) (fun h => absurd c_21 (Int32.not_le.mpr h)) (by decide)), by rw [ht]; exact hP.sub [] rfl, hD.sub [] (by decide) rfl⟩, hS.F ht⟩) hS.2.2 dX8_sheet_89 hlk
            · skip
              refine lv_aload_n hx hb dX8_sheet_61 rfl (lv_at hl 0 rfl) ?_
              refine xg hF kf_X8_66 hK hP 0 rfl rfl dX8_sheet_62 ?_
              refine lv_iload_n hx hb dX8_sheet_65 rfl (lv_at hl 1 rfl) ?_
              refine va_aldq hx hb hK hP 1 3 rfl rfl (xin 3 4 (by decide) (by decide)) dX8_sheet_66 ?_
              refine xl_v (w := .ref s3) rfl ?_
              refine lv_iload_n hx hb dX8_sheet_67 rfl (lv_at hl 2 rfl) ?_
              refine lv_iload_n hx hb dX8_sheet_68 rfl (lv_at hl 2 rfl) ?_
              refine lv_if_ne (tgt := 76) hx hb dX8_sheet_69 (by decide) (fun c_28 => ?_) (fun c_28 => absurd c_28 (by decide))
              refine lv_iload_n hx hb dX8_sheet_76 rfl (lv_at hl 3 rfl) ?_
              refine xc_Vv (wr := [(h0, .inr (8, [.ref qh, .ref qk, .ref qd, .int 0, .ref qa, .ref qm, .ref qs, .ref qp, .ref ql, .ref qt, .ref qz, .ref qf])), (qz, .inl (cS, 4, .inr (.inr (.inr (.inr (xSh s0 s1 s2 s3)))))), (s0, .inr (4, [.int 0, .int 0, .ref sn0])), (s1, .inr (4, [.int 0, .int 0, .ref sn1])), (s2, .inr (4, [.int 0, .int 0, .ref sn2])), (sn0, .inl (cJ, 40, .inr (.inl (fun _ => 0)))), (sn1, .inl (cJ, 40, .inr (.inl (fun _ => 0)))), (sn2, .inl (cJ, 40, .inr (.inl (fun _ => 0)))), (qf, .inl (cI, 7, .inl (fun _ => 0)))]) hF (c_X4_begin l D cI cJ cZ cS sa s.heap.size s3 sn3 8 p2 (fun _ => 0) ) kv_X8_289 ⟨rfl, rfl, Nat.le_of_ble_eq_true rfl, Nat.le_of_ble_eq_true rfl⟩ ⟨Nat.le_of_ble_eq_true rfl, Nat.le_of_ble_eq_true rfl⟩ hK hN hP hD hS hA [5, 9] [0, 1, 2, 3, 4, 6, 7, 8, 10] rfl rfl rfl rfl (by decide) 0 rfl rfl rfl rfl hl.1 rfl (Nat.le_of_ble_eq_true rfl) dX8_sheet_77 (fun u_r_29 H locs hw_r_29 hP hD hS => ?_)
              have hP : va_P D vwCl [(h0, .inr (8, [.ref qh, .ref qk, .ref qd, .int 0, .ref qa, .ref qm, .ref qs, .ref qp, .ref ql, .ref qt, .ref qz, .ref qf])), (qz, .inl (cS, 4, .inr (.inr (.inr (.inr (xSh s0 s1 s2 s3)))))), (s0, .inr (4, [.int 0, .int 0, .ref sn0])), (s1, .inr (4, [.int 0, .int 0, .ref sn1])), (s2, .inr (4, [.int 0, .int 0, .ref sn2])), (sn0, .inl (cJ, 40, .inr (.inl (fun _ => 0)))), (sn1, .inl (cJ, 40, .inr (.inl (fun _ => 0)))), (sn2, .inl (cJ, 40, .inr (.inl (fun _ => 0)))), (qf, .inl (cI, 7, .inl (fun _ => 0))), (s3, .inr (4, [.int 8, .int p2, .ref sn3]))] H := hP
              have hD : va_D A [(h0, .inr (8, [.ref qh, .ref qk, .ref qd, .int 0, .ref qa, .ref qm, .ref qs, .ref qp, .ref ql, .ref qt, .ref qz, .ref qf])), (qz, .inl (cS, 4, .inr (.inr (.inr (.inr (xSh s0 s1 s2 s3)))))), (s0, .inr (4, [.int 0, .int 0, .ref sn0])), (s1, .inr (4, [.int 0, .int 0, .ref sn1])), (s2, .inr (4, [.int 0, .int 0, .ref sn2])), (sn0, .inl (cJ, 40, .inr (.inl (fun _ => 0)))), (sn1, .inl (cJ, 40, .inr (.inl (fun _ => 0)))), (sn2, .inl (cJ, 40, .inr (.inl (fun _ => 0)))), (qf, .inl (cI, 7, .inl (fun _ => 0))), (s3, .inr (4, [.int 8, .int p2, .ref sn3]))] := hD
              refine lv_aload_n hx hb dX8_sheet_80 rfl (lv_at hl 0 rfl) ?_
              refine xg hF kf_X8_66 hK hP 0 rfl rfl dX8_sheet_81 ?_
              refine lv_iload_n hx hb dX8_sheet_84 rfl (lv_at hl 1 rfl) ?_
              refine va_aldq hx hb hK hP 1 3 rfl rfl (xin 3 4 (by decide) (by decide)) dX8_sheet_85 ?_
              refine xl_v (w := .ref s3) rfl ?_
              refine xg hF kf_X8_293 hK hP 9 rfl rfl dX8_sheet_86 ?_
              exact W.iret (v := p2) hx hb hr (fun t ht hW => ⟨⟨p2, (), rfl, (p_sheet6 (by decide) (by decide) (by decide) (fun h => absurd c_20 (Int32.not_le.mpr h)) (fun h => absurd c_21 (Int32.not_le.mpr h)) (by decide)), by rw [ht]; exact hP.sub [] rfl, hD.sub [] (by decide) rfl⟩, hS.F ht⟩) hS.2.2 dX8_sheet_89 hlk
          · skip
            refine lv_aload_n hx hb dX8_sheet_54 rfl (lv_at hl 0 rfl) ?_
            refine lv_ldc (v := (-1000000001)) hx hb hown (hu _ uw4) dX8_sheet_55 ?_
            refine xc_Vi (wr := [(qz, .inl (cS, 4, .inr (.inr (.inr (.inr (xSh s0 s1 s2 s3)))))), (s0, .inr (4, [.int 0, .int 0, .ref sn0])), (s1, .inr (4, [.int 0, .int 0, .ref sn1])), (s2, .inr (4, [.int 0, .int 0, .ref sn2])), (s3, .inr (4, [.int 0, .int 0, .ref sn3])), (sn0, .inl (cJ, 40, .inr (.inl (fun _ => 0)))), (sn1, .inl (cJ, 40, .inr (.inl (fun _ => 0)))), (sn2, .inl (cJ, 40, .inr (.inl (fun _ => 0)))), (sn3, .inl (cJ, 40, .inr (.inl (fun _ => 0))))]) hF (c_X8_finding_B l D cI cJ cZ cS sa s.heap.size h0 qh qk qd qa qm qs qp ql qt qz qf 0 (fun _ => 0) ) kv_X8_80 ⟨rfl, rfl, Nat.le_of_ble_eq_true rfl, Nat.le_of_ble_eq_true rfl⟩ ⟨Nat.le_of_ble_eq_true rfl, Nat.le_of_ble_eq_true rfl⟩ hK hN hP hD hS hA [0, 10] [1, 2, 3, 4, 5, 6, 7, 8, 9] rfl rfl rfl rfl (by decide) 0 rfl rfl rfl rfl hl.1 rfl (Nat.le_of_ble_eq_true rfl) dX8_sheet_57 (fun r_30 u_r_30 H locs hw_r_30 hP hD hS => ?_)
            have hP : va_P D vwCl [(qz, .inl (cS, 4, .inr (.inr (.inr (.inr (xSh s0 s1 s2 s3)))))), (s0, .inr (4, [.int 0, .int 0, .ref sn0])), (s1, .inr (4, [.int 0, .int 0, .ref sn1])), (s2, .inr (4, [.int 0, .int 0, .ref sn2])), (s3, .inr (4, [.int 0, .int 0, .ref sn3])), (sn0, .inl (cJ, 40, .inr (.inl (fun _ => 0)))), (sn1, .inl (cJ, 40, .inr (.inl (fun _ => 0)))), (sn2, .inl (cJ, 40, .inr (.inl (fun _ => 0)))), (sn3, .inl (cJ, 40, .inr (.inl (fun _ => 0))))] H := hP
            have hD : va_D A [(qz, .inl (cS, 4, .inr (.inr (.inr (.inr (xSh s0 s1 s2 s3)))))), (s0, .inr (4, [.int 0, .int 0, .ref sn0])), (s1, .inr (4, [.int 0, .int 0, .ref sn1])), (s2, .inr (4, [.int 0, .int 0, .ref sn2])), (s3, .inr (4, [.int 0, .int 0, .ref sn3])), (sn0, .inl (cJ, 40, .inr (.inl (fun _ => 0)))), (sn1, .inl (cJ, 40, .inr (.inl (fun _ => 0)))), (sn2, .inl (cJ, 40, .inr (.inl (fun _ => 0)))), (sn3, .inl (cJ, 40, .inr (.inl (fun _ => 0))))] := hD
            subst hw_r_30
            exact W.iret (v := (-1000000001)) hx hb hr (fun t ht hW => ⟨⟨(-1000000001), (), rfl, (p_sheet4 h_2 h_3 (by decide) (fun h => absurd c_20 (Int32.not_le.mpr h)) (xlt c_21)), by rw [ht]; exact hP.sub [] rfl, hD.sub [] (by decide) rfl⟩, hS.F ht⟩) hS.2.2 dX8_sheet_60 hlk
        · skip
          refine lv_aload_n hx hb dX8_sheet_40 rfl (lv_at hl 0 rfl) ?_
          refine lv_ldcw (v := (-1000000007)) hx hb hown (hu _ uw231) dX8_sheet_41 ?_
          refine xc_Vi (wr := [(qz, .inl (cS, 4, .inr (.inr (.inr (.inr (xSh s0 s1 s2 s3)))))), (s0, .inr (4, [.int 0, .int 0, .ref sn0])), (s1, .inr (4, [.int 0, .int 0, .ref sn1])), (s2, .inr (4, [.int 0, .int 0, .ref sn2])), (s3, .inr (4, [.int 0, .int 0, .ref sn3])), (sn0, .inl (cJ, 40, .inr (.inl (fun _ => 0)))), (sn1, .inl (cJ, 40, .inr (.inl (fun _ => 0)))), (sn2, .inl (cJ, 40, .inr (.inl (fun _ => 0)))), (sn3, .inl (cJ, 40, .inr (.inl (fun _ => 0))))]) hF (c_X8_finding_S l D cI cJ cZ cS sa s.heap.size h0 qh qk qd qa qm qs qp ql qt qz qf 0 (fun _ => 0) ) kv_X8_80 ⟨rfl, rfl, Nat.le_of_ble_eq_true rfl, Nat.le_of_ble_eq_true rfl⟩ ⟨Nat.le_of_ble_eq_true rfl, Nat.le_of_ble_eq_true rfl⟩ hK hN hP hD hS hA [0, 10] [1, 2, 3, 4, 5, 6, 7, 8, 9] rfl rfl rfl rfl (by decide) 0 rfl rfl rfl rfl hl.1 rfl (Nat.le_of_ble_eq_true rfl) dX8_sheet_44 (fun r_31 u_r_31 H locs hw_r_31 hP hD hS => ?_)
          have hP : va_P D vwCl [(qz, .inl (cS, 4, .inr (.inr (.inr (.inr (xSh s0 s1 s2 s3)))))), (s0, .inr (4, [.int 0, .int 0, .ref sn0])), (s1, .inr (4, [.int 0, .int 0, .ref sn1])), (s2, .inr (4, [.int 0, .int 0, .ref sn2])), (s3, .inr (4, [.int 0, .int 0, .ref sn3])), (sn0, .inl (cJ, 40, .inr (.inl (fun _ => 0)))), (sn1, .inl (cJ, 40, .inr (.inl (fun _ => 0)))), (sn2, .inl (cJ, 40, .inr (.inl (fun _ => 0)))), (sn3, .inl (cJ, 40, .inr (.inl (fun _ => 0))))] H := hP
          have hD : va_D A [(qz, .inl (cS, 4, .inr (.inr (.inr (.inr (xSh s0 s1 s2 s3)))))), (s0, .inr (4, [.int 0, .int 0, .ref sn0])), (s1, .inr (4, [.int 0, .int 0, .ref sn1])), (s2, .inr (4, [.int 0, .int 0, .ref sn2])), (s3, .inr (4, [.int 0, .int 0, .ref sn3])), (sn0, .inl (cJ, 40, .inr (.inl (fun _ => 0)))), (sn1, .inl (cJ, 40, .inr (.inl (fun _ => 0)))), (sn2, .inl (cJ, 40, .inr (.inl (fun _ => 0)))), (sn3, .inl (cJ, 40, .inr (.inl (fun _ => 0))))] := hD
          subst hw_r_31
          exact W.iret (v := (-1000000007)) hx hb hr (fun t ht hW => ⟨⟨(-1000000007), (), rfl, (p_sheet3 h_2 h_3 (by decide) (xlt c_20)), by rw [ht]; exact hP.sub [] rfl, hD.sub [] (by decide) rfl⟩, hS.F ht⟩) hS.2.2 dX8_sheet_47 hlk
      · skip
        refine lv_iload_n hx hb dX8_sheet_17 rfl (lv_at hl 2 rfl) ?_
        refine lv_bipush (v := 16) hx hb dX8_sheet_18 (by decide) ?_
        refine lv_icmp_eq (tgt := 36) hx hb dX8_sheet_20 (by decide) (fun c_32 => ?_) (fun c_32 => ?_)
        · skip
          subst c_32
          refine lv_iload_n hx hb dX8_sheet_36 rfl (lv_at hl 3 rfl) ?_
          refine lv_if_ge (tgt := 48) hx hb dX8_sheet_37 (by decide) (fun c_33 => ?_) (fun c_33 => ?_)
          · skip
            refine lv_iload_n hx hb dX8_sheet_48 rfl (lv_at hl 3 rfl) ?_
            refine lv_bipush (v := 40) hx hb dX8_sheet_49 (by decide) ?_
            refine lv_icmp_le (tgt := 61) hx hb dX8_sheet_51 (by decide) (fun c_34 => ?_) (fun c_34 => ?_)
            · skip
              rcases x_i4 h_2 h_3 with rfl | rfl | rfl | rfl
              · skip
                refine lv_aload_n hx hb dX8_sheet_61 rfl (lv_at hl 0 rfl) ?_
                refine xg hF kf_X8_66 hK hP 0 rfl rfl dX8_sheet_62 ?_
                refine lv_iload_n hx hb dX8_sheet_65 rfl (lv_at hl 1 rfl) ?_
                refine va_aldq hx hb hK hP 1 3 rfl rfl (xin 0 4 (by decide) (by decide)) dX8_sheet_66 ?_
                refine xl_v (w := .ref s0) rfl ?_
                refine lv_iload_n hx hb dX8_sheet_67 rfl (lv_at hl 2 rfl) ?_
                refine lv_iload_n hx hb dX8_sheet_68 rfl (lv_at hl 2 rfl) ?_
                refine lv_if_ne (tgt := 76) hx hb dX8_sheet_69 (by decide) (fun c_35 => ?_) (fun c_35 => absurd c_35 (by decide))
                refine lv_iload_n hx hb dX8_sheet_76 rfl (lv_at hl 3 rfl) ?_
                refine xc_Vv (wr := [(h0, .inr (8, [.ref qh, .ref qk, .ref qd, .int 0, .ref qa, .ref qm, .ref qs, .ref qp, .ref ql, .ref qt, .ref qz, .ref qf])), (qz, .inl (cS, 4, .inr (.inr (.inr (.inr (xSh s0 s1 s2 s3)))))), (s1, .inr (4, [.int 0, .int 0, .ref sn1])), (s2, .inr (4, [.int 0, .int 0, .ref sn2])), (s3, .inr (4, [.int 0, .int 0, .ref sn3])), (sn1, .inl (cJ, 40, .inr (.inl (fun _ => 0)))), (sn2, .inl (cJ, 40, .inr (.inl (fun _ => 0)))), (sn3, .inl (cJ, 40, .inr (.inl (fun _ => 0)))), (qf, .inl (cI, 7, .inl (fun _ => 0)))]) hF (c_X4_begin l D cI cJ cZ cS sa s.heap.size s0 sn0 16 p2 (fun _ => 0) ) kv_X8_289 ⟨rfl, rfl, Nat.le_of_ble_eq_true rfl, Nat.le_of_ble_eq_true rfl⟩ ⟨Nat.le_of_ble_eq_true rfl, Nat.le_of_ble_eq_true rfl⟩ hK hN hP hD hS hA [2, 6] [0, 1, 3, 4, 5, 7, 8, 9, 10] rfl rfl rfl rfl (by decide) 0 rfl rfl rfl rfl hl.1 rfl (Nat.le_of_ble_eq_true rfl) dX8_sheet_77 (fun u_r_36 H locs hw_r_36 hP hD hS => ?_)
                have hP : va_P D vwCl [(h0, .inr (8, [.ref qh, .ref qk, .ref qd, .int 0, .ref qa, .ref qm, .ref qs, .ref qp, .ref ql, .ref qt, .ref qz, .ref qf])), (qz, .inl (cS, 4, .inr (.inr (.inr (.inr (xSh s0 s1 s2 s3)))))), (s1, .inr (4, [.int 0, .int 0, .ref sn1])), (s2, .inr (4, [.int 0, .int 0, .ref sn2])), (s3, .inr (4, [.int 0, .int 0, .ref sn3])), (sn1, .inl (cJ, 40, .inr (.inl (fun _ => 0)))), (sn2, .inl (cJ, 40, .inr (.inl (fun _ => 0)))), (sn3, .inl (cJ, 40, .inr (.inl (fun _ => 0)))), (qf, .inl (cI, 7, .inl (fun _ => 0))), (s0, .inr (4, [.int 16, .int p2, .ref sn0]))] H := hP
                have hD : va_D A [(h0, .inr (8, [.ref qh, .ref qk, .ref qd, .int 0, .ref qa, .ref qm, .ref qs, .ref qp, .ref ql, .ref qt, .ref qz, .ref qf])), (qz, .inl (cS, 4, .inr (.inr (.inr (.inr (xSh s0 s1 s2 s3)))))), (s1, .inr (4, [.int 0, .int 0, .ref sn1])), (s2, .inr (4, [.int 0, .int 0, .ref sn2])), (s3, .inr (4, [.int 0, .int 0, .ref sn3])), (sn1, .inl (cJ, 40, .inr (.inl (fun _ => 0)))), (sn2, .inl (cJ, 40, .inr (.inl (fun _ => 0)))), (sn3, .inl (cJ, 40, .inr (.inl (fun _ => 0)))), (qf, .inl (cI, 7, .inl (fun _ => 0))), (s0, .inr (4, [.int 16, .int p2, .ref sn0]))] := hD
                refine lv_aload_n hx hb dX8_sheet_80 rfl (lv_at hl 0 rfl) ?_
                refine xg hF kf_X8_66 hK hP 0 rfl rfl dX8_sheet_81 ?_
                refine lv_iload_n hx hb dX8_sheet_84 rfl (lv_at hl 1 rfl) ?_
                refine va_aldq hx hb hK hP 1 3 rfl rfl (xin 0 4 (by decide) (by decide)) dX8_sheet_85 ?_
                refine xl_v (w := .ref s0) rfl ?_
                refine xg hF kf_X8_293 hK hP 9 rfl rfl dX8_sheet_86 ?_
                exact W.iret (v := p2) hx hb hr (fun t ht hW => ⟨⟨p2, (), rfl, (p_sheet6 (by decide) (by decide) (by decide) (fun h => absurd c_33 (Int32.not_le.mpr h)) (fun h => absurd c_34 (Int32.not_le.mpr h)) (by decide)), by rw [ht]; exact hP.sub [] rfl, hD.sub [] (by decide) rfl⟩, hS.F ht⟩) hS.2.2 dX8_sheet_89 hlk
              · skip
                refine lv_aload_n hx hb dX8_sheet_61 rfl (lv_at hl 0 rfl) ?_
                refine xg hF kf_X8_66 hK hP 0 rfl rfl dX8_sheet_62 ?_
                refine lv_iload_n hx hb dX8_sheet_65 rfl (lv_at hl 1 rfl) ?_
                refine va_aldq hx hb hK hP 1 3 rfl rfl (xin 1 4 (by decide) (by decide)) dX8_sheet_66 ?_
                refine xl_v (w := .ref s1) rfl ?_
                refine lv_iload_n hx hb dX8_sheet_67 rfl (lv_at hl 2 rfl) ?_
                refine lv_iload_n hx hb dX8_sheet_68 rfl (lv_at hl 2 rfl) ?_
                refine lv_if_ne (tgt := 76) hx hb dX8_sheet_69 (by decide) (fun c_37 => ?_) (fun c_37 => absurd c_37 (by decide))
                refine lv_iload_n hx hb dX8_sheet_76 rfl (lv_at hl 3 rfl) ?_
                refine xc_Vv (wr := [(h0, .inr (8, [.ref qh, .ref qk, .ref qd, .int 0, .ref qa, .ref qm, .ref qs, .ref qp, .ref ql, .ref qt, .ref qz, .ref qf])), (qz, .inl (cS, 4, .inr (.inr (.inr (.inr (xSh s0 s1 s2 s3)))))), (s0, .inr (4, [.int 0, .int 0, .ref sn0])), (s2, .inr (4, [.int 0, .int 0, .ref sn2])), (s3, .inr (4, [.int 0, .int 0, .ref sn3])), (sn0, .inl (cJ, 40, .inr (.inl (fun _ => 0)))), (sn2, .inl (cJ, 40, .inr (.inl (fun _ => 0)))), (sn3, .inl (cJ, 40, .inr (.inl (fun _ => 0)))), (qf, .inl (cI, 7, .inl (fun _ => 0)))]) hF (c_X4_begin l D cI cJ cZ cS sa s.heap.size s1 sn1 16 p2 (fun _ => 0) ) kv_X8_289 ⟨rfl, rfl, Nat.le_of_ble_eq_true rfl, Nat.le_of_ble_eq_true rfl⟩ ⟨Nat.le_of_ble_eq_true rfl, Nat.le_of_ble_eq_true rfl⟩ hK hN hP hD hS hA [3, 7] [0, 1, 2, 4, 5, 6, 8, 9, 10] rfl rfl rfl rfl (by decide) 0 rfl rfl rfl rfl hl.1 rfl (Nat.le_of_ble_eq_true rfl) dX8_sheet_77 (fun u_r_38 H locs hw_r_38 hP hD hS => ?_)
                have hP : va_P D vwCl [(h0, .inr (8, [.ref qh, .ref qk, .ref qd, .int 0, .ref qa, .ref qm, .ref qs, .ref qp, .ref ql, .ref qt, .ref qz, .ref qf])), (qz, .inl (cS, 4, .inr (.inr (.inr (.inr (xSh s0 s1 s2 s3)))))), (s0, .inr (4, [.int 0, .int 0, .ref sn0])), (s2, .inr (4, [.int 0, .int 0, .ref sn2])), (s3, .inr (4, [.int 0, .int 0, .ref sn3])), (sn0, .inl (cJ, 40, .inr (.inl (fun _ => 0)))), (sn2, .inl (cJ, 40, .inr (.inl (fun _ => 0)))), (sn3, .inl (cJ, 40, .inr (.inl (fun _ => 0)))), (qf, .inl (cI, 7, .inl (fun _ => 0))), (s1, .inr (4, [.int 16, .int p2, .ref sn1]))] H := hP
                have hD : va_D A [(h0, .inr (8, [.ref qh, .ref qk, .ref qd, .int 0, .ref qa, .ref qm, .ref qs, .ref qp, .ref ql, .ref qt, .ref qz, .ref qf])), (qz, .inl (cS, 4, .inr (.inr (.inr (.inr (xSh s0 s1 s2 s3)))))), (s0, .inr (4, [.int 0, .int 0, .ref sn0])), (s2, .inr (4, [.int 0, .int 0, .ref sn2])), (s3, .inr (4, [.int 0, .int 0, .ref sn3])), (sn0, .inl (cJ, 40, .inr (.inl (fun _ => 0)))), (sn2, .inl (cJ, 40, .inr (.inl (fun _ => 0)))), (sn3, .inl (cJ, 40, .inr (.inl (fun _ => 0)))), (qf, .inl (cI, 7, .inl (fun _ => 0))), (s1, .inr (4, [.int 16, .int p2, .ref sn1]))] := hD
                refine lv_aload_n hx hb dX8_sheet_80 rfl (lv_at hl 0 rfl) ?_
                refine xg hF kf_X8_66 hK hP 0 rfl rfl dX8_sheet_81 ?_
                refine lv_iload_n hx hb dX8_sheet_84 rfl (lv_at hl 1 rfl) ?_
                refine va_aldq hx hb hK hP 1 3 rfl rfl (xin 1 4 (by decide) (by decide)) dX8_sheet_85 ?_
                refine xl_v (w := .ref s1) rfl ?_
                refine xg hF kf_X8_293 hK hP 9 rfl rfl dX8_sheet_86 ?_
                exact W.iret (v := p2) hx hb hr (fun t ht hW => ⟨⟨p2, (), rfl, (p_sheet6 (by decide) (by decide) (by decide) (fun h => absurd c_33 (Int32.not_le.mpr h)) (fun h => absurd c_34 (Int32.not_le.mpr h)) (by decide)), by rw [ht]; exact hP.sub [] rfl, hD.sub [] (by decide) rfl⟩, hS.F ht⟩) hS.2.2 dX8_sheet_89 hlk
              · skip
                refine lv_aload_n hx hb dX8_sheet_61 rfl (lv_at hl 0 rfl) ?_
                refine xg hF kf_X8_66 hK hP 0 rfl rfl dX8_sheet_62 ?_
                refine lv_iload_n hx hb dX8_sheet_65 rfl (lv_at hl 1 rfl) ?_
                refine va_aldq hx hb hK hP 1 3 rfl rfl (xin 2 4 (by decide) (by decide)) dX8_sheet_66 ?_
                refine xl_v (w := .ref s2) rfl ?_
                refine lv_iload_n hx hb dX8_sheet_67 rfl (lv_at hl 2 rfl) ?_
                refine lv_iload_n hx hb dX8_sheet_68 rfl (lv_at hl 2 rfl) ?_
                refine lv_if_ne (tgt := 76) hx hb dX8_sheet_69 (by decide) (fun c_39 => ?_) (fun c_39 => absurd c_39 (by decide))
                refine lv_iload_n hx hb dX8_sheet_76 rfl (lv_at hl 3 rfl) ?_
                refine xc_Vv (wr := [(h0, .inr (8, [.ref qh, .ref qk, .ref qd, .int 0, .ref qa, .ref qm, .ref qs, .ref qp, .ref ql, .ref qt, .ref qz, .ref qf])), (qz, .inl (cS, 4, .inr (.inr (.inr (.inr (xSh s0 s1 s2 s3)))))), (s0, .inr (4, [.int 0, .int 0, .ref sn0])), (s1, .inr (4, [.int 0, .int 0, .ref sn1])), (s3, .inr (4, [.int 0, .int 0, .ref sn3])), (sn0, .inl (cJ, 40, .inr (.inl (fun _ => 0)))), (sn1, .inl (cJ, 40, .inr (.inl (fun _ => 0)))), (sn3, .inl (cJ, 40, .inr (.inl (fun _ => 0)))), (qf, .inl (cI, 7, .inl (fun _ => 0)))]) hF (c_X4_begin l D cI cJ cZ cS sa s.heap.size s2 sn2 16 p2 (fun _ => 0) ) kv_X8_289 ⟨rfl, rfl, Nat.le_of_ble_eq_true rfl, Nat.le_of_ble_eq_true rfl⟩ ⟨Nat.le_of_ble_eq_true rfl, Nat.le_of_ble_eq_true rfl⟩ hK hN hP hD hS hA [4, 8] [0, 1, 2, 3, 5, 6, 7, 9, 10] rfl rfl rfl rfl (by decide) 0 rfl rfl rfl rfl hl.1 rfl (Nat.le_of_ble_eq_true rfl) dX8_sheet_77 (fun u_r_40 H locs hw_r_40 hP hD hS => ?_)
                have hP : va_P D vwCl [(h0, .inr (8, [.ref qh, .ref qk, .ref qd, .int 0, .ref qa, .ref qm, .ref qs, .ref qp, .ref ql, .ref qt, .ref qz, .ref qf])), (qz, .inl (cS, 4, .inr (.inr (.inr (.inr (xSh s0 s1 s2 s3)))))), (s0, .inr (4, [.int 0, .int 0, .ref sn0])), (s1, .inr (4, [.int 0, .int 0, .ref sn1])), (s3, .inr (4, [.int 0, .int 0, .ref sn3])), (sn0, .inl (cJ, 40, .inr (.inl (fun _ => 0)))), (sn1, .inl (cJ, 40, .inr (.inl (fun _ => 0)))), (sn3, .inl (cJ, 40, .inr (.inl (fun _ => 0)))), (qf, .inl (cI, 7, .inl (fun _ => 0))), (s2, .inr (4, [.int 16, .int p2, .ref sn2]))] H := hP
                have hD : va_D A [(h0, .inr (8, [.ref qh, .ref qk, .ref qd, .int 0, .ref qa, .ref qm, .ref qs, .ref qp, .ref ql, .ref qt, .ref qz, .ref qf])), (qz, .inl (cS, 4, .inr (.inr (.inr (.inr (xSh s0 s1 s2 s3)))))), (s0, .inr (4, [.int 0, .int 0, .ref sn0])), (s1, .inr (4, [.int 0, .int 0, .ref sn1])), (s3, .inr (4, [.int 0, .int 0, .ref sn3])), (sn0, .inl (cJ, 40, .inr (.inl (fun _ => 0)))), (sn1, .inl (cJ, 40, .inr (.inl (fun _ => 0)))), (sn3, .inl (cJ, 40, .inr (.inl (fun _ => 0)))), (qf, .inl (cI, 7, .inl (fun _ => 0))), (s2, .inr (4, [.int 16, .int p2, .ref sn2]))] := hD
                refine lv_aload_n hx hb dX8_sheet_80 rfl (lv_at hl 0 rfl) ?_
                refine xg hF kf_X8_66 hK hP 0 rfl rfl dX8_sheet_81 ?_
                refine lv_iload_n hx hb dX8_sheet_84 rfl (lv_at hl 1 rfl) ?_
                refine va_aldq hx hb hK hP 1 3 rfl rfl (xin 2 4 (by decide) (by decide)) dX8_sheet_85 ?_
                refine xl_v (w := .ref s2) rfl ?_
                refine xg hF kf_X8_293 hK hP 9 rfl rfl dX8_sheet_86 ?_
                exact W.iret (v := p2) hx hb hr (fun t ht hW => ⟨⟨p2, (), rfl, (p_sheet6 (by decide) (by decide) (by decide) (fun h => absurd c_33 (Int32.not_le.mpr h)) (fun h => absurd c_34 (Int32.not_le.mpr h)) (by decide)), by rw [ht]; exact hP.sub [] rfl, hD.sub [] (by decide) rfl⟩, hS.F ht⟩) hS.2.2 dX8_sheet_89 hlk
              · skip
                refine lv_aload_n hx hb dX8_sheet_61 rfl (lv_at hl 0 rfl) ?_
                refine xg hF kf_X8_66 hK hP 0 rfl rfl dX8_sheet_62 ?_
                refine lv_iload_n hx hb dX8_sheet_65 rfl (lv_at hl 1 rfl) ?_
                refine va_aldq hx hb hK hP 1 3 rfl rfl (xin 3 4 (by decide) (by decide)) dX8_sheet_66 ?_
                refine xl_v (w := .ref s3) rfl ?_
                refine lv_iload_n hx hb dX8_sheet_67 rfl (lv_at hl 2 rfl) ?_
                refine lv_iload_n hx hb dX8_sheet_68 rfl (lv_at hl 2 rfl) ?_
                refine lv_if_ne (tgt := 76) hx hb dX8_sheet_69 (by decide) (fun c_41 => ?_) (fun c_41 => absurd c_41 (by decide))
                refine lv_iload_n hx hb dX8_sheet_76 rfl (lv_at hl 3 rfl) ?_
                refine xc_Vv (wr := [(h0, .inr (8, [.ref qh, .ref qk, .ref qd, .int 0, .ref qa, .ref qm, .ref qs, .ref qp, .ref ql, .ref qt, .ref qz, .ref qf])), (qz, .inl (cS, 4, .inr (.inr (.inr (.inr (xSh s0 s1 s2 s3)))))), (s0, .inr (4, [.int 0, .int 0, .ref sn0])), (s1, .inr (4, [.int 0, .int 0, .ref sn1])), (s2, .inr (4, [.int 0, .int 0, .ref sn2])), (sn0, .inl (cJ, 40, .inr (.inl (fun _ => 0)))), (sn1, .inl (cJ, 40, .inr (.inl (fun _ => 0)))), (sn2, .inl (cJ, 40, .inr (.inl (fun _ => 0)))), (qf, .inl (cI, 7, .inl (fun _ => 0)))]) hF (c_X4_begin l D cI cJ cZ cS sa s.heap.size s3 sn3 16 p2 (fun _ => 0) ) kv_X8_289 ⟨rfl, rfl, Nat.le_of_ble_eq_true rfl, Nat.le_of_ble_eq_true rfl⟩ ⟨Nat.le_of_ble_eq_true rfl, Nat.le_of_ble_eq_true rfl⟩ hK hN hP hD hS hA [5, 9] [0, 1, 2, 3, 4, 6, 7, 8, 10] rfl rfl rfl rfl (by decide) 0 rfl rfl rfl rfl hl.1 rfl (Nat.le_of_ble_eq_true rfl) dX8_sheet_77 (fun u_r_42 H locs hw_r_42 hP hD hS => ?_)
                have hP : va_P D vwCl [(h0, .inr (8, [.ref qh, .ref qk, .ref qd, .int 0, .ref qa, .ref qm, .ref qs, .ref qp, .ref ql, .ref qt, .ref qz, .ref qf])), (qz, .inl (cS, 4, .inr (.inr (.inr (.inr (xSh s0 s1 s2 s3)))))), (s0, .inr (4, [.int 0, .int 0, .ref sn0])), (s1, .inr (4, [.int 0, .int 0, .ref sn1])), (s2, .inr (4, [.int 0, .int 0, .ref sn2])), (sn0, .inl (cJ, 40, .inr (.inl (fun _ => 0)))), (sn1, .inl (cJ, 40, .inr (.inl (fun _ => 0)))), (sn2, .inl (cJ, 40, .inr (.inl (fun _ => 0)))), (qf, .inl (cI, 7, .inl (fun _ => 0))), (s3, .inr (4, [.int 16, .int p2, .ref sn3]))] H := hP
                have hD : va_D A [(h0, .inr (8, [.ref qh, .ref qk, .ref qd, .int 0, .ref qa, .ref qm, .ref qs, .ref qp, .ref ql, .ref qt, .ref qz, .ref qf])), (qz, .inl (cS, 4, .inr (.inr (.inr (.inr (xSh s0 s1 s2 s3)))))), (s0, .inr (4, [.int 0, .int 0, .ref sn0])), (s1, .inr (4, [.int 0, .int 0, .ref sn1])), (s2, .inr (4, [.int 0, .int 0, .ref sn2])), (sn0, .inl (cJ, 40, .inr (.inl (fun _ => 0)))), (sn1, .inl (cJ, 40, .inr (.inl (fun _ => 0)))), (sn2, .inl (cJ, 40, .inr (.inl (fun _ => 0)))), (qf, .inl (cI, 7, .inl (fun _ => 0))), (s3, .inr (4, [.int 16, .int p2, .ref sn3]))] := hD
                refine lv_aload_n hx hb dX8_sheet_80 rfl (lv_at hl 0 rfl) ?_
                refine xg hF kf_X8_66 hK hP 0 rfl rfl dX8_sheet_81 ?_
                refine lv_iload_n hx hb dX8_sheet_84 rfl (lv_at hl 1 rfl) ?_
                refine va_aldq hx hb hK hP 1 3 rfl rfl (xin 3 4 (by decide) (by decide)) dX8_sheet_85 ?_
                refine xl_v (w := .ref s3) rfl ?_
                refine xg hF kf_X8_293 hK hP 9 rfl rfl dX8_sheet_86 ?_
                exact W.iret (v := p2) hx hb hr (fun t ht hW => ⟨⟨p2, (), rfl, (p_sheet6 (by decide) (by decide) (by decide) (fun h => absurd c_33 (Int32.not_le.mpr h)) (fun h => absurd c_34 (Int32.not_le.mpr h)) (by decide)), by rw [ht]; exact hP.sub [] rfl, hD.sub [] (by decide) rfl⟩, hS.F ht⟩) hS.2.2 dX8_sheet_89 hlk
            · skip
              refine lv_aload_n hx hb dX8_sheet_54 rfl (lv_at hl 0 rfl) ?_
              refine lv_ldc (v := (-1000000001)) hx hb hown (hu _ uw4) dX8_sheet_55 ?_
              refine xc_Vi (wr := [(qz, .inl (cS, 4, .inr (.inr (.inr (.inr (xSh s0 s1 s2 s3)))))), (s0, .inr (4, [.int 0, .int 0, .ref sn0])), (s1, .inr (4, [.int 0, .int 0, .ref sn1])), (s2, .inr (4, [.int 0, .int 0, .ref sn2])), (s3, .inr (4, [.int 0, .int 0, .ref sn3])), (sn0, .inl (cJ, 40, .inr (.inl (fun _ => 0)))), (sn1, .inl (cJ, 40, .inr (.inl (fun _ => 0)))), (sn2, .inl (cJ, 40, .inr (.inl (fun _ => 0)))), (sn3, .inl (cJ, 40, .inr (.inl (fun _ => 0))))]) hF (c_X8_finding_B l D cI cJ cZ cS sa s.heap.size h0 qh qk qd qa qm qs qp ql qt qz qf 0 (fun _ => 0) ) kv_X8_80 ⟨rfl, rfl, Nat.le_of_ble_eq_true rfl, Nat.le_of_ble_eq_true rfl⟩ ⟨Nat.le_of_ble_eq_true rfl, Nat.le_of_ble_eq_true rfl⟩ hK hN hP hD hS hA [0, 10] [1, 2, 3, 4, 5, 6, 7, 8, 9] rfl rfl rfl rfl (by decide) 0 rfl rfl rfl rfl hl.1 rfl (Nat.le_of_ble_eq_true rfl) dX8_sheet_57 (fun r_43 u_r_43 H locs hw_r_43 hP hD hS => ?_)
              have hP : va_P D vwCl [(qz, .inl (cS, 4, .inr (.inr (.inr (.inr (xSh s0 s1 s2 s3)))))), (s0, .inr (4, [.int 0, .int 0, .ref sn0])), (s1, .inr (4, [.int 0, .int 0, .ref sn1])), (s2, .inr (4, [.int 0, .int 0, .ref sn2])), (s3, .inr (4, [.int 0, .int 0, .ref sn3])), (sn0, .inl (cJ, 40, .inr (.inl (fun _ => 0)))), (sn1, .inl (cJ, 40, .inr (.inl (fun _ => 0)))), (sn2, .inl (cJ, 40, .inr (.inl (fun _ => 0)))), (sn3, .inl (cJ, 40, .inr (.inl (fun _ => 0))))] H := hP
              have hD : va_D A [(qz, .inl (cS, 4, .inr (.inr (.inr (.inr (xSh s0 s1 s2 s3)))))), (s0, .inr (4, [.int 0, .int 0, .ref sn0])), (s1, .inr (4, [.int 0, .int 0, .ref sn1])), (s2, .inr (4, [.int 0, .int 0, .ref sn2])), (s3, .inr (4, [.int 0, .int 0, .ref sn3])), (sn0, .inl (cJ, 40, .inr (.inl (fun _ => 0)))), (sn1, .inl (cJ, 40, .inr (.inl (fun _ => 0)))), (sn2, .inl (cJ, 40, .inr (.inl (fun _ => 0)))), (sn3, .inl (cJ, 40, .inr (.inl (fun _ => 0))))] := hD
              subst hw_r_43
              exact W.iret (v := (-1000000001)) hx hb hr (fun t ht hW => ⟨⟨(-1000000001), (), rfl, (p_sheet4 h_2 h_3 (by decide) (fun h => absurd c_33 (Int32.not_le.mpr h)) (xlt c_34)), by rw [ht]; exact hP.sub [] rfl, hD.sub [] (by decide) rfl⟩, hS.F ht⟩) hS.2.2 dX8_sheet_60 hlk
          · skip
            refine lv_aload_n hx hb dX8_sheet_40 rfl (lv_at hl 0 rfl) ?_
            refine lv_ldcw (v := (-1000000007)) hx hb hown (hu _ uw231) dX8_sheet_41 ?_
            refine xc_Vi (wr := [(qz, .inl (cS, 4, .inr (.inr (.inr (.inr (xSh s0 s1 s2 s3)))))), (s0, .inr (4, [.int 0, .int 0, .ref sn0])), (s1, .inr (4, [.int 0, .int 0, .ref sn1])), (s2, .inr (4, [.int 0, .int 0, .ref sn2])), (s3, .inr (4, [.int 0, .int 0, .ref sn3])), (sn0, .inl (cJ, 40, .inr (.inl (fun _ => 0)))), (sn1, .inl (cJ, 40, .inr (.inl (fun _ => 0)))), (sn2, .inl (cJ, 40, .inr (.inl (fun _ => 0)))), (sn3, .inl (cJ, 40, .inr (.inl (fun _ => 0))))]) hF (c_X8_finding_S l D cI cJ cZ cS sa s.heap.size h0 qh qk qd qa qm qs qp ql qt qz qf 0 (fun _ => 0) ) kv_X8_80 ⟨rfl, rfl, Nat.le_of_ble_eq_true rfl, Nat.le_of_ble_eq_true rfl⟩ ⟨Nat.le_of_ble_eq_true rfl, Nat.le_of_ble_eq_true rfl⟩ hK hN hP hD hS hA [0, 10] [1, 2, 3, 4, 5, 6, 7, 8, 9] rfl rfl rfl rfl (by decide) 0 rfl rfl rfl rfl hl.1 rfl (Nat.le_of_ble_eq_true rfl) dX8_sheet_44 (fun r_44 u_r_44 H locs hw_r_44 hP hD hS => ?_)
            have hP : va_P D vwCl [(qz, .inl (cS, 4, .inr (.inr (.inr (.inr (xSh s0 s1 s2 s3)))))), (s0, .inr (4, [.int 0, .int 0, .ref sn0])), (s1, .inr (4, [.int 0, .int 0, .ref sn1])), (s2, .inr (4, [.int 0, .int 0, .ref sn2])), (s3, .inr (4, [.int 0, .int 0, .ref sn3])), (sn0, .inl (cJ, 40, .inr (.inl (fun _ => 0)))), (sn1, .inl (cJ, 40, .inr (.inl (fun _ => 0)))), (sn2, .inl (cJ, 40, .inr (.inl (fun _ => 0)))), (sn3, .inl (cJ, 40, .inr (.inl (fun _ => 0))))] H := hP
            have hD : va_D A [(qz, .inl (cS, 4, .inr (.inr (.inr (.inr (xSh s0 s1 s2 s3)))))), (s0, .inr (4, [.int 0, .int 0, .ref sn0])), (s1, .inr (4, [.int 0, .int 0, .ref sn1])), (s2, .inr (4, [.int 0, .int 0, .ref sn2])), (s3, .inr (4, [.int 0, .int 0, .ref sn3])), (sn0, .inl (cJ, 40, .inr (.inl (fun _ => 0)))), (sn1, .inl (cJ, 40, .inr (.inl (fun _ => 0)))), (sn2, .inl (cJ, 40, .inr (.inl (fun _ => 0)))), (sn3, .inl (cJ, 40, .inr (.inl (fun _ => 0))))] := hD
            subst hw_r_44
            exact W.iret (v := (-1000000007)) hx hb hr (fun t ht hW => ⟨⟨(-1000000007), (), rfl, (p_sheet3 h_2 h_3 (by decide) (xlt c_33)), by rw [ht]; exact hP.sub [] rfl, hD.sub [] (by decide) rfl⟩, hS.F ht⟩) hS.2.2 dX8_sheet_47 hlk
        · skip
          refine lv_iload_n hx hb dX8_sheet_23 rfl (lv_at hl 2 rfl) ?_
          refine lv_bipush (v := 64) hx hb dX8_sheet_24 (by decide) ?_
          refine lv_icmp_eq (tgt := 36) hx hb dX8_sheet_26 (by decide) (fun c_45 => ?_) (fun c_45 => ?_)
          · skip
            subst c_45
            refine lv_iload_n hx hb dX8_sheet_36 rfl (lv_at hl 3 rfl) ?_
            refine lv_if_ge (tgt := 48) hx hb dX8_sheet_37 (by decide) (fun c_46 => ?_) (fun c_46 => ?_)
            · skip
              refine lv_iload_n hx hb dX8_sheet_48 rfl (lv_at hl 3 rfl) ?_
              refine lv_bipush (v := 40) hx hb dX8_sheet_49 (by decide) ?_
              refine lv_icmp_le (tgt := 61) hx hb dX8_sheet_51 (by decide) (fun c_47 => ?_) (fun c_47 => ?_)
              · skip
                rcases x_i4 h_2 h_3 with rfl | rfl | rfl | rfl
                · skip
                  refine lv_aload_n hx hb dX8_sheet_61 rfl (lv_at hl 0 rfl) ?_
                  refine xg hF kf_X8_66 hK hP 0 rfl rfl dX8_sheet_62 ?_
                  refine lv_iload_n hx hb dX8_sheet_65 rfl (lv_at hl 1 rfl) ?_
                  refine va_aldq hx hb hK hP 1 3 rfl rfl (xin 0 4 (by decide) (by decide)) dX8_sheet_66 ?_
                  refine xl_v (w := .ref s0) rfl ?_
                  refine lv_iload_n hx hb dX8_sheet_67 rfl (lv_at hl 2 rfl) ?_
                  refine lv_iload_n hx hb dX8_sheet_68 rfl (lv_at hl 2 rfl) ?_
                  refine lv_if_ne (tgt := 76) hx hb dX8_sheet_69 (by decide) (fun c_48 => ?_) (fun c_48 => absurd c_48 (by decide))
                  refine lv_iload_n hx hb dX8_sheet_76 rfl (lv_at hl 3 rfl) ?_
                  refine xc_Vv (wr := [(h0, .inr (8, [.ref qh, .ref qk, .ref qd, .int 0, .ref qa, .ref qm, .ref qs, .ref qp, .ref ql, .ref qt, .ref qz, .ref qf])), (qz, .inl (cS, 4, .inr (.inr (.inr (.inr (xSh s0 s1 s2 s3)))))), (s1, .inr (4, [.int 0, .int 0, .ref sn1])), (s2, .inr (4, [.int 0, .int 0, .ref sn2])), (s3, .inr (4, [.int 0, .int 0, .ref sn3])), (sn1, .inl (cJ, 40, .inr (.inl (fun _ => 0)))), (sn2, .inl (cJ, 40, .inr (.inl (fun _ => 0)))), (sn3, .inl (cJ, 40, .inr (.inl (fun _ => 0)))), (qf, .inl (cI, 7, .inl (fun _ => 0)))]) hF (c_X4_begin l D cI cJ cZ cS sa s.heap.size s0 sn0 64 p2 (fun _ => 0) ) kv_X8_289 ⟨rfl, rfl, Nat.le_of_ble_eq_true rfl, Nat.le_of_ble_eq_true rfl⟩ ⟨Nat.le_of_ble_eq_true rfl, Nat.le_of_ble_eq_true rfl⟩ hK hN hP hD hS hA [2, 6] [0, 1, 3, 4, 5, 7, 8, 9, 10] rfl rfl rfl rfl (by decide) 0 rfl rfl rfl rfl hl.1 rfl (Nat.le_of_ble_eq_true rfl) dX8_sheet_77 (fun u_r_49 H locs hw_r_49 hP hD hS => ?_)
                  have hP : va_P D vwCl [(h0, .inr (8, [.ref qh, .ref qk, .ref qd, .int 0, .ref qa, .ref qm, .ref qs, .ref qp, .ref ql, .ref qt, .ref qz, .ref qf])), (qz, .inl (cS, 4, .inr (.inr (.inr (.inr (xSh s0 s1 s2 s3)))))), (s1, .inr (4, [.int 0, .int 0, .ref sn1])), (s2, .inr (4, [.int 0, .int 0, .ref sn2])), (s3, .inr (4, [.int 0, .int 0, .ref sn3])), (sn1, .inl (cJ, 40, .inr (.inl (fun _ => 0)))), (sn2, .inl (cJ, 40, .inr (.inl (fun _ => 0)))), (sn3, .inl (cJ, 40, .inr (.inl (fun _ => 0)))), (qf, .inl (cI, 7, .inl (fun _ => 0))), (s0, .inr (4, [.int 64, .int p2, .ref sn0]))] H := hP
                  have hD : va_D A [(h0, .inr (8, [.ref qh, .ref qk, .ref qd, .int 0, .ref qa, .ref qm, .ref qs, .ref qp, .ref ql, .ref qt, .ref qz, .ref qf])), (qz, .inl (cS, 4, .inr (.inr (.inr (.inr (xSh s0 s1 s2 s3)))))), (s1, .inr (4, [.int 0, .int 0, .ref sn1])), (s2, .inr (4, [.int 0, .int 0, .ref sn2])), (s3, .inr (4, [.int 0, .int 0, .ref sn3])), (sn1, .inl (cJ, 40, .inr (.inl (fun _ => 0)))), (sn2, .inl (cJ, 40, .inr (.inl (fun _ => 0)))), (sn3, .inl (cJ, 40, .inr (.inl (fun _ => 0)))), (qf, .inl (cI, 7, .inl (fun _ => 0))), (s0, .inr (4, [.int 64, .int p2, .ref sn0]))] := hD
                  refine lv_aload_n hx hb dX8_sheet_80 rfl (lv_at hl 0 rfl) ?_
                  refine xg hF kf_X8_66 hK hP 0 rfl rfl dX8_sheet_81 ?_
                  refine lv_iload_n hx hb dX8_sheet_84 rfl (lv_at hl 1 rfl) ?_
                  refine va_aldq hx hb hK hP 1 3 rfl rfl (xin 0 4 (by decide) (by decide)) dX8_sheet_85 ?_
                  refine xl_v (w := .ref s0) rfl ?_
                  refine xg hF kf_X8_293 hK hP 9 rfl rfl dX8_sheet_86 ?_
                  exact W.iret (v := p2) hx hb hr (fun t ht hW => ⟨⟨p2, (), rfl, (p_sheet6 (by decide) (by decide) (by decide) (fun h => absurd c_46 (Int32.not_le.mpr h)) (fun h => absurd c_47 (Int32.not_le.mpr h)) (by decide)), by rw [ht]; exact hP.sub [] rfl, hD.sub [] (by decide) rfl⟩, hS.F ht⟩) hS.2.2 dX8_sheet_89 hlk
                · skip
                  refine lv_aload_n hx hb dX8_sheet_61 rfl (lv_at hl 0 rfl) ?_
                  refine xg hF kf_X8_66 hK hP 0 rfl rfl dX8_sheet_62 ?_
                  refine lv_iload_n hx hb dX8_sheet_65 rfl (lv_at hl 1 rfl) ?_
                  refine va_aldq hx hb hK hP 1 3 rfl rfl (xin 1 4 (by decide) (by decide)) dX8_sheet_66 ?_
                  refine xl_v (w := .ref s1) rfl ?_
                  refine lv_iload_n hx hb dX8_sheet_67 rfl (lv_at hl 2 rfl) ?_
                  refine lv_iload_n hx hb dX8_sheet_68 rfl (lv_at hl 2 rfl) ?_
                  refine lv_if_ne (tgt := 76) hx hb dX8_sheet_69 (by decide) (fun c_50 => ?_) (fun c_50 => absurd c_50 (by decide))
                  refine lv_iload_n hx hb dX8_sheet_76 rfl (lv_at hl 3 rfl) ?_
                  refine xc_Vv (wr := [(h0, .inr (8, [.ref qh, .ref qk, .ref qd, .int 0, .ref qa, .ref qm, .ref qs, .ref qp, .ref ql, .ref qt, .ref qz, .ref qf])), (qz, .inl (cS, 4, .inr (.inr (.inr (.inr (xSh s0 s1 s2 s3)))))), (s0, .inr (4, [.int 0, .int 0, .ref sn0])), (s2, .inr (4, [.int 0, .int 0, .ref sn2])), (s3, .inr (4, [.int 0, .int 0, .ref sn3])), (sn0, .inl (cJ, 40, .inr (.inl (fun _ => 0)))), (sn2, .inl (cJ, 40, .inr (.inl (fun _ => 0)))), (sn3, .inl (cJ, 40, .inr (.inl (fun _ => 0)))), (qf, .inl (cI, 7, .inl (fun _ => 0)))]) hF (c_X4_begin l D cI cJ cZ cS sa s.heap.size s1 sn1 64 p2 (fun _ => 0) ) kv_X8_289 ⟨rfl, rfl, Nat.le_of_ble_eq_true rfl, Nat.le_of_ble_eq_true rfl⟩ ⟨Nat.le_of_ble_eq_true rfl, Nat.le_of_ble_eq_true rfl⟩ hK hN hP hD hS hA [3, 7] [0, 1, 2, 4, 5, 6, 8, 9, 10] rfl rfl rfl rfl (by decide) 0 rfl rfl rfl rfl hl.1 rfl (Nat.le_of_ble_eq_true rfl) dX8_sheet_77 (fun u_r_51 H locs hw_r_51 hP hD hS => ?_)
                  have hP : va_P D vwCl [(h0, .inr (8, [.ref qh, .ref qk, .ref qd, .int 0, .ref qa, .ref qm, .ref qs, .ref qp, .ref ql, .ref qt, .ref qz, .ref qf])), (qz, .inl (cS, 4, .inr (.inr (.inr (.inr (xSh s0 s1 s2 s3)))))), (s0, .inr (4, [.int 0, .int 0, .ref sn0])), (s2, .inr (4, [.int 0, .int 0, .ref sn2])), (s3, .inr (4, [.int 0, .int 0, .ref sn3])), (sn0, .inl (cJ, 40, .inr (.inl (fun _ => 0)))), (sn2, .inl (cJ, 40, .inr (.inl (fun _ => 0)))), (sn3, .inl (cJ, 40, .inr (.inl (fun _ => 0)))), (qf, .inl (cI, 7, .inl (fun _ => 0))), (s1, .inr (4, [.int 64, .int p2, .ref sn1]))] H := hP
                  have hD : va_D A [(h0, .inr (8, [.ref qh, .ref qk, .ref qd, .int 0, .ref qa, .ref qm, .ref qs, .ref qp, .ref ql, .ref qt, .ref qz, .ref qf])), (qz, .inl (cS, 4, .inr (.inr (.inr (.inr (xSh s0 s1 s2 s3)))))), (s0, .inr (4, [.int 0, .int 0, .ref sn0])), (s2, .inr (4, [.int 0, .int 0, .ref sn2])), (s3, .inr (4, [.int 0, .int 0, .ref sn3])), (sn0, .inl (cJ, 40, .inr (.inl (fun _ => 0)))), (sn2, .inl (cJ, 40, .inr (.inl (fun _ => 0)))), (sn3, .inl (cJ, 40, .inr (.inl (fun _ => 0)))), (qf, .inl (cI, 7, .inl (fun _ => 0))), (s1, .inr (4, [.int 64, .int p2, .ref sn1]))] := hD
                  refine lv_aload_n hx hb dX8_sheet_80 rfl (lv_at hl 0 rfl) ?_
                  refine xg hF kf_X8_66 hK hP 0 rfl rfl dX8_sheet_81 ?_
                  refine lv_iload_n hx hb dX8_sheet_84 rfl (lv_at hl 1 rfl) ?_
                  refine va_aldq hx hb hK hP 1 3 rfl rfl (xin 1 4 (by decide) (by decide)) dX8_sheet_85 ?_
                  refine xl_v (w := .ref s1) rfl ?_
                  refine xg hF kf_X8_293 hK hP 9 rfl rfl dX8_sheet_86 ?_
                  exact W.iret (v := p2) hx hb hr (fun t ht hW => ⟨⟨p2, (), rfl, (p_sheet6 (by decide) (by decide) (by decide) (fun h => absurd c_46 (Int32.not_le.mpr h)) (fun h => absurd c_47 (Int32.not_le.mpr h)) (by decide)), by rw [ht]; exact hP.sub [] rfl, hD.sub [] (by decide) rfl⟩, hS.F ht⟩) hS.2.2 dX8_sheet_89 hlk
                · skip
                  refine lv_aload_n hx hb dX8_sheet_61 rfl (lv_at hl 0 rfl) ?_
                  refine xg hF kf_X8_66 hK hP 0 rfl rfl dX8_sheet_62 ?_
                  refine lv_iload_n hx hb dX8_sheet_65 rfl (lv_at hl 1 rfl) ?_
                  refine va_aldq hx hb hK hP 1 3 rfl rfl (xin 2 4 (by decide) (by decide)) dX8_sheet_66 ?_
                  refine xl_v (w := .ref s2) rfl ?_
                  refine lv_iload_n hx hb dX8_sheet_67 rfl (lv_at hl 2 rfl) ?_
                  refine lv_iload_n hx hb dX8_sheet_68 rfl (lv_at hl 2 rfl) ?_
                  refine lv_if_ne (tgt := 76) hx hb dX8_sheet_69 (by decide) (fun c_52 => ?_) (fun c_52 => absurd c_52 (by decide))
                  refine lv_iload_n hx hb dX8_sheet_76 rfl (lv_at hl 3 rfl) ?_
                  refine xc_Vv (wr := [(h0, .inr (8, [.ref qh, .ref qk, .ref qd, .int 0, .ref qa, .ref qm, .ref qs, .ref qp, .ref ql, .ref qt, .ref qz, .ref qf])), (qz, .inl (cS, 4, .inr (.inr (.inr (.inr (xSh s0 s1 s2 s3)))))), (s0, .inr (4, [.int 0, .int 0, .ref sn0])), (s1, .inr (4, [.int 0, .int 0, .ref sn1])), (s3, .inr (4, [.int 0, .int 0, .ref sn3])), (sn0, .inl (cJ, 40, .inr (.inl (fun _ => 0)))), (sn1, .inl (cJ, 40, .inr (.inl (fun _ => 0)))), (sn3, .inl (cJ, 40, .inr (.inl (fun _ => 0)))), (qf, .inl (cI, 7, .inl (fun _ => 0)))]) hF (c_X4_begin l D cI cJ cZ cS sa s.heap.size s2 sn2 64 p2 (fun _ => 0) ) kv_X8_289 ⟨rfl, rfl, Nat.le_of_ble_eq_true rfl, Nat.le_of_ble_eq_true rfl⟩ ⟨Nat.le_of_ble_eq_true rfl, Nat.le_of_ble_eq_true rfl⟩ hK hN hP hD hS hA [4, 8] [0, 1, 2, 3, 5, 6, 7, 9, 10] rfl rfl rfl rfl (by decide) 0 rfl rfl rfl rfl hl.1 rfl (Nat.le_of_ble_eq_true rfl) dX8_sheet_77 (fun u_r_53 H locs hw_r_53 hP hD hS => ?_)
                  have hP : va_P D vwCl [(h0, .inr (8, [.ref qh, .ref qk, .ref qd, .int 0, .ref qa, .ref qm, .ref qs, .ref qp, .ref ql, .ref qt, .ref qz, .ref qf])), (qz, .inl (cS, 4, .inr (.inr (.inr (.inr (xSh s0 s1 s2 s3)))))), (s0, .inr (4, [.int 0, .int 0, .ref sn0])), (s1, .inr (4, [.int 0, .int 0, .ref sn1])), (s3, .inr (4, [.int 0, .int 0, .ref sn3])), (sn0, .inl (cJ, 40, .inr (.inl (fun _ => 0)))), (sn1, .inl (cJ, 40, .inr (.inl (fun _ => 0)))), (sn3, .inl (cJ, 40, .inr (.inl (fun _ => 0)))), (qf, .inl (cI, 7, .inl (fun _ => 0))), (s2, .inr (4, [.int 64, .int p2, .ref sn2]))] H := hP
                  have hD : va_D A [(h0, .inr (8, [.ref qh, .ref qk, .ref qd, .int 0, .ref qa, .ref qm, .ref qs, .ref qp, .ref ql, .ref qt, .ref qz, .ref qf])), (qz, .inl (cS, 4, .inr (.inr (.inr (.inr (xSh s0 s1 s2 s3)))))), (s0, .inr (4, [.int 0, .int 0, .ref sn0])), (s1, .inr (4, [.int 0, .int 0, .ref sn1])), (s3, .inr (4, [.int 0, .int 0, .ref sn3])), (sn0, .inl (cJ, 40, .inr (.inl (fun _ => 0)))), (sn1, .inl (cJ, 40, .inr (.inl (fun _ => 0)))), (sn3, .inl (cJ, 40, .inr (.inl (fun _ => 0)))), (qf, .inl (cI, 7, .inl (fun _ => 0))), (s2, .inr (4, [.int 64, .int p2, .ref sn2]))] := hD
                  refine lv_aload_n hx hb dX8_sheet_80 rfl (lv_at hl 0 rfl) ?_
                  refine xg hF kf_X8_66 hK hP 0 rfl rfl dX8_sheet_81 ?_
                  refine lv_iload_n hx hb dX8_sheet_84 rfl (lv_at hl 1 rfl) ?_
                  refine va_aldq hx hb hK hP 1 3 rfl rfl (xin 2 4 (by decide) (by decide)) dX8_sheet_85 ?_
                  refine xl_v (w := .ref s2) rfl ?_
                  refine xg hF kf_X8_293 hK hP 9 rfl rfl dX8_sheet_86 ?_
                  exact W.iret (v := p2) hx hb hr (fun t ht hW => ⟨⟨p2, (), rfl, (p_sheet6 (by decide) (by decide) (by decide) (fun h => absurd c_46 (Int32.not_le.mpr h)) (fun h => absurd c_47 (Int32.not_le.mpr h)) (by decide)), by rw [ht]; exact hP.sub [] rfl, hD.sub [] (by decide) rfl⟩, hS.F ht⟩) hS.2.2 dX8_sheet_89 hlk
                · skip
                  refine lv_aload_n hx hb dX8_sheet_61 rfl (lv_at hl 0 rfl) ?_
                  refine xg hF kf_X8_66 hK hP 0 rfl rfl dX8_sheet_62 ?_
                  refine lv_iload_n hx hb dX8_sheet_65 rfl (lv_at hl 1 rfl) ?_
                  refine va_aldq hx hb hK hP 1 3 rfl rfl (xin 3 4 (by decide) (by decide)) dX8_sheet_66 ?_
                  refine xl_v (w := .ref s3) rfl ?_
                  refine lv_iload_n hx hb dX8_sheet_67 rfl (lv_at hl 2 rfl) ?_
                  refine lv_iload_n hx hb dX8_sheet_68 rfl (lv_at hl 2 rfl) ?_
                  refine lv_if_ne (tgt := 76) hx hb dX8_sheet_69 (by decide) (fun c_54 => ?_) (fun c_54 => absurd c_54 (by decide))
                  refine lv_iload_n hx hb dX8_sheet_76 rfl (lv_at hl 3 rfl) ?_
                  refine xc_Vv (wr := [(h0, .inr (8, [.ref qh, .ref qk, .ref qd, .int 0, .ref qa, .ref qm, .ref qs, .ref qp, .ref ql, .ref qt, .ref qz, .ref qf])), (qz, .inl (cS, 4, .inr (.inr (.inr (.inr (xSh s0 s1 s2 s3)))))), (s0, .inr (4, [.int 0, .int 0, .ref sn0])), (s1, .inr (4, [.int 0, .int 0, .ref sn1])), (s2, .inr (4, [.int 0, .int 0, .ref sn2])), (sn0, .inl (cJ, 40, .inr (.inl (fun _ => 0)))), (sn1, .inl (cJ, 40, .inr (.inl (fun _ => 0)))), (sn2, .inl (cJ, 40, .inr (.inl (fun _ => 0)))), (qf, .inl (cI, 7, .inl (fun _ => 0)))]) hF (c_X4_begin l D cI cJ cZ cS sa s.heap.size s3 sn3 64 p2 (fun _ => 0) ) kv_X8_289 ⟨rfl, rfl, Nat.le_of_ble_eq_true rfl, Nat.le_of_ble_eq_true rfl⟩ ⟨Nat.le_of_ble_eq_true rfl, Nat.le_of_ble_eq_true rfl⟩ hK hN hP hD hS hA [5, 9] [0, 1, 2, 3, 4, 6, 7, 8, 10] rfl rfl rfl rfl (by decide) 0 rfl rfl rfl rfl hl.1 rfl (Nat.le_of_ble_eq_true rfl) dX8_sheet_77 (fun u_r_55 H locs hw_r_55 hP hD hS => ?_)
                  have hP : va_P D vwCl [(h0, .inr (8, [.ref qh, .ref qk, .ref qd, .int 0, .ref qa, .ref qm, .ref qs, .ref qp, .ref ql, .ref qt, .ref qz, .ref qf])), (qz, .inl (cS, 4, .inr (.inr (.inr (.inr (xSh s0 s1 s2 s3)))))), (s0, .inr (4, [.int 0, .int 0, .ref sn0])), (s1, .inr (4, [.int 0, .int 0, .ref sn1])), (s2, .inr (4, [.int 0, .int 0, .ref sn2])), (sn0, .inl (cJ, 40, .inr (.inl (fun _ => 0)))), (sn1, .inl (cJ, 40, .inr (.inl (fun _ => 0)))), (sn2, .inl (cJ, 40, .inr (.inl (fun _ => 0)))), (qf, .inl (cI, 7, .inl (fun _ => 0))), (s3, .inr (4, [.int 64, .int p2, .ref sn3]))] H := hP
                  have hD : va_D A [(h0, .inr (8, [.ref qh, .ref qk, .ref qd, .int 0, .ref qa, .ref qm, .ref qs, .ref qp, .ref ql, .ref qt, .ref qz, .ref qf])), (qz, .inl (cS, 4, .inr (.inr (.inr (.inr (xSh s0 s1 s2 s3)))))), (s0, .inr (4, [.int 0, .int 0, .ref sn0])), (s1, .inr (4, [.int 0, .int 0, .ref sn1])), (s2, .inr (4, [.int 0, .int 0, .ref sn2])), (sn0, .inl (cJ, 40, .inr (.inl (fun _ => 0)))), (sn1, .inl (cJ, 40, .inr (.inl (fun _ => 0)))), (sn2, .inl (cJ, 40, .inr (.inl (fun _ => 0)))), (qf, .inl (cI, 7, .inl (fun _ => 0))), (s3, .inr (4, [.int 64, .int p2, .ref sn3]))] := hD
                  refine lv_aload_n hx hb dX8_sheet_80 rfl (lv_at hl 0 rfl) ?_
                  refine xg hF kf_X8_66 hK hP 0 rfl rfl dX8_sheet_81 ?_
                  refine lv_iload_n hx hb dX8_sheet_84 rfl (lv_at hl 1 rfl) ?_
                  refine va_aldq hx hb hK hP 1 3 rfl rfl (xin 3 4 (by decide) (by decide)) dX8_sheet_85 ?_
                  refine xl_v (w := .ref s3) rfl ?_
                  refine xg hF kf_X8_293 hK hP 9 rfl rfl dX8_sheet_86 ?_
                  exact W.iret (v := p2) hx hb hr (fun t ht hW => ⟨⟨p2, (), rfl, (p_sheet6 (by decide) (by decide) (by decide) (fun h => absurd c_46 (Int32.not_le.mpr h)) (fun h => absurd c_47 (Int32.not_le.mpr h)) (by decide)), by rw [ht]; exact hP.sub [] rfl, hD.sub [] (by decide) rfl⟩, hS.F ht⟩) hS.2.2 dX8_sheet_89 hlk
              · skip
                refine lv_aload_n hx hb dX8_sheet_54 rfl (lv_at hl 0 rfl) ?_
                refine lv_ldc (v := (-1000000001)) hx hb hown (hu _ uw4) dX8_sheet_55 ?_
                refine xc_Vi (wr := [(qz, .inl (cS, 4, .inr (.inr (.inr (.inr (xSh s0 s1 s2 s3)))))), (s0, .inr (4, [.int 0, .int 0, .ref sn0])), (s1, .inr (4, [.int 0, .int 0, .ref sn1])), (s2, .inr (4, [.int 0, .int 0, .ref sn2])), (s3, .inr (4, [.int 0, .int 0, .ref sn3])), (sn0, .inl (cJ, 40, .inr (.inl (fun _ => 0)))), (sn1, .inl (cJ, 40, .inr (.inl (fun _ => 0)))), (sn2, .inl (cJ, 40, .inr (.inl (fun _ => 0)))), (sn3, .inl (cJ, 40, .inr (.inl (fun _ => 0))))]) hF (c_X8_finding_B l D cI cJ cZ cS sa s.heap.size h0 qh qk qd qa qm qs qp ql qt qz qf 0 (fun _ => 0) ) kv_X8_80 ⟨rfl, rfl, Nat.le_of_ble_eq_true rfl, Nat.le_of_ble_eq_true rfl⟩ ⟨Nat.le_of_ble_eq_true rfl, Nat.le_of_ble_eq_true rfl⟩ hK hN hP hD hS hA [0, 10] [1, 2, 3, 4, 5, 6, 7, 8, 9] rfl rfl rfl rfl (by decide) 0 rfl rfl rfl rfl hl.1 rfl (Nat.le_of_ble_eq_true rfl) dX8_sheet_57 (fun r_56 u_r_56 H locs hw_r_56 hP hD hS => ?_)
                have hP : va_P D vwCl [(qz, .inl (cS, 4, .inr (.inr (.inr (.inr (xSh s0 s1 s2 s3)))))), (s0, .inr (4, [.int 0, .int 0, .ref sn0])), (s1, .inr (4, [.int 0, .int 0, .ref sn1])), (s2, .inr (4, [.int 0, .int 0, .ref sn2])), (s3, .inr (4, [.int 0, .int 0, .ref sn3])), (sn0, .inl (cJ, 40, .inr (.inl (fun _ => 0)))), (sn1, .inl (cJ, 40, .inr (.inl (fun _ => 0)))), (sn2, .inl (cJ, 40, .inr (.inl (fun _ => 0)))), (sn3, .inl (cJ, 40, .inr (.inl (fun _ => 0))))] H := hP
                have hD : va_D A [(qz, .inl (cS, 4, .inr (.inr (.inr (.inr (xSh s0 s1 s2 s3)))))), (s0, .inr (4, [.int 0, .int 0, .ref sn0])), (s1, .inr (4, [.int 0, .int 0, .ref sn1])), (s2, .inr (4, [.int 0, .int 0, .ref sn2])), (s3, .inr (4, [.int 0, .int 0, .ref sn3])), (sn0, .inl (cJ, 40, .inr (.inl (fun _ => 0)))), (sn1, .inl (cJ, 40, .inr (.inl (fun _ => 0)))), (sn2, .inl (cJ, 40, .inr (.inl (fun _ => 0)))), (sn3, .inl (cJ, 40, .inr (.inl (fun _ => 0))))] := hD
                subst hw_r_56
                exact W.iret (v := (-1000000001)) hx hb hr (fun t ht hW => ⟨⟨(-1000000001), (), rfl, (p_sheet4 h_2 h_3 (by decide) (fun h => absurd c_46 (Int32.not_le.mpr h)) (xlt c_47)), by rw [ht]; exact hP.sub [] rfl, hD.sub [] (by decide) rfl⟩, hS.F ht⟩) hS.2.2 dX8_sheet_60 hlk
            · skip
              refine lv_aload_n hx hb dX8_sheet_40 rfl (lv_at hl 0 rfl) ?_
              refine lv_ldcw (v := (-1000000007)) hx hb hown (hu _ uw231) dX8_sheet_41 ?_
              refine xc_Vi (wr := [(qz, .inl (cS, 4, .inr (.inr (.inr (.inr (xSh s0 s1 s2 s3)))))), (s0, .inr (4, [.int 0, .int 0, .ref sn0])), (s1, .inr (4, [.int 0, .int 0, .ref sn1])), (s2, .inr (4, [.int 0, .int 0, .ref sn2])), (s3, .inr (4, [.int 0, .int 0, .ref sn3])), (sn0, .inl (cJ, 40, .inr (.inl (fun _ => 0)))), (sn1, .inl (cJ, 40, .inr (.inl (fun _ => 0)))), (sn2, .inl (cJ, 40, .inr (.inl (fun _ => 0)))), (sn3, .inl (cJ, 40, .inr (.inl (fun _ => 0))))]) hF (c_X8_finding_S l D cI cJ cZ cS sa s.heap.size h0 qh qk qd qa qm qs qp ql qt qz qf 0 (fun _ => 0) ) kv_X8_80 ⟨rfl, rfl, Nat.le_of_ble_eq_true rfl, Nat.le_of_ble_eq_true rfl⟩ ⟨Nat.le_of_ble_eq_true rfl, Nat.le_of_ble_eq_true rfl⟩ hK hN hP hD hS hA [0, 10] [1, 2, 3, 4, 5, 6, 7, 8, 9] rfl rfl rfl rfl (by decide) 0 rfl rfl rfl rfl hl.1 rfl (Nat.le_of_ble_eq_true rfl) dX8_sheet_44 (fun r_57 u_r_57 H locs hw_r_57 hP hD hS => ?_)
              have hP : va_P D vwCl [(qz, .inl (cS, 4, .inr (.inr (.inr (.inr (xSh s0 s1 s2 s3)))))), (s0, .inr (4, [.int 0, .int 0, .ref sn0])), (s1, .inr (4, [.int 0, .int 0, .ref sn1])), (s2, .inr (4, [.int 0, .int 0, .ref sn2])), (s3, .inr (4, [.int 0, .int 0, .ref sn3])), (sn0, .inl (cJ, 40, .inr (.inl (fun _ => 0)))), (sn1, .inl (cJ, 40, .inr (.inl (fun _ => 0)))), (sn2, .inl (cJ, 40, .inr (.inl (fun _ => 0)))), (sn3, .inl (cJ, 40, .inr (.inl (fun _ => 0))))] H := hP
              have hD : va_D A [(qz, .inl (cS, 4, .inr (.inr (.inr (.inr (xSh s0 s1 s2 s3)))))), (s0, .inr (4, [.int 0, .int 0, .ref sn0])), (s1, .inr (4, [.int 0, .int 0, .ref sn1])), (s2, .inr (4, [.int 0, .int 0, .ref sn2])), (s3, .inr (4, [.int 0, .int 0, .ref sn3])), (sn0, .inl (cJ, 40, .inr (.inl (fun _ => 0)))), (sn1, .inl (cJ, 40, .inr (.inl (fun _ => 0)))), (sn2, .inl (cJ, 40, .inr (.inl (fun _ => 0)))), (sn3, .inl (cJ, 40, .inr (.inl (fun _ => 0))))] := hD
              subst hw_r_57
              exact W.iret (v := (-1000000007)) hx hb hr (fun t ht hW => ⟨⟨(-1000000007), (), rfl, (p_sheet3 h_2 h_3 (by decide) (xlt c_46)), by rw [ht]; exact hP.sub [] rfl, hD.sub [] (by decide) rfl⟩, hS.F ht⟩) hS.2.2 dX8_sheet_47 hlk
          · skip
            refine lv_aload_n hx hb dX8_sheet_29 rfl (lv_at hl 0 rfl) ?_
            refine lv_ldc (v := (-1000000001)) hx hb hown (hu _ uw4) dX8_sheet_30 ?_
            refine xc_Vi (wr := [(qz, .inl (cS, 4, .inr (.inr (.inr (.inr (xSh s0 s1 s2 s3)))))), (s0, .inr (4, [.int 0, .int 0, .ref sn0])), (s1, .inr (4, [.int 0, .int 0, .ref sn1])), (s2, .inr (4, [.int 0, .int 0, .ref sn2])), (s3, .inr (4, [.int 0, .int 0, .ref sn3])), (sn0, .inl (cJ, 40, .inr (.inl (fun _ => 0)))), (sn1, .inl (cJ, 40, .inr (.inl (fun _ => 0)))), (sn2, .inl (cJ, 40, .inr (.inl (fun _ => 0)))), (sn3, .inl (cJ, 40, .inr (.inl (fun _ => 0))))]) hF (c_X8_finding_B l D cI cJ cZ cS sa s.heap.size h0 qh qk qd qa qm qs qp ql qt qz qf 0 (fun _ => 0) ) kv_X8_80 ⟨rfl, rfl, Nat.le_of_ble_eq_true rfl, Nat.le_of_ble_eq_true rfl⟩ ⟨Nat.le_of_ble_eq_true rfl, Nat.le_of_ble_eq_true rfl⟩ hK hN hP hD hS hA [0, 10] [1, 2, 3, 4, 5, 6, 7, 8, 9] rfl rfl rfl rfl (by decide) 0 rfl rfl rfl rfl hl.1 rfl (Nat.le_of_ble_eq_true rfl) dX8_sheet_32 (fun r_58 u_r_58 H locs hw_r_58 hP hD hS => ?_)
            have hP : va_P D vwCl [(qz, .inl (cS, 4, .inr (.inr (.inr (.inr (xSh s0 s1 s2 s3)))))), (s0, .inr (4, [.int 0, .int 0, .ref sn0])), (s1, .inr (4, [.int 0, .int 0, .ref sn1])), (s2, .inr (4, [.int 0, .int 0, .ref sn2])), (s3, .inr (4, [.int 0, .int 0, .ref sn3])), (sn0, .inl (cJ, 40, .inr (.inl (fun _ => 0)))), (sn1, .inl (cJ, 40, .inr (.inl (fun _ => 0)))), (sn2, .inl (cJ, 40, .inr (.inl (fun _ => 0)))), (sn3, .inl (cJ, 40, .inr (.inl (fun _ => 0))))] H := hP
            have hD : va_D A [(qz, .inl (cS, 4, .inr (.inr (.inr (.inr (xSh s0 s1 s2 s3)))))), (s0, .inr (4, [.int 0, .int 0, .ref sn0])), (s1, .inr (4, [.int 0, .int 0, .ref sn1])), (s2, .inr (4, [.int 0, .int 0, .ref sn2])), (s3, .inr (4, [.int 0, .int 0, .ref sn3])), (sn0, .inl (cJ, 40, .inr (.inl (fun _ => 0)))), (sn1, .inl (cJ, 40, .inr (.inl (fun _ => 0)))), (sn2, .inl (cJ, 40, .inr (.inl (fun _ => 0)))), (sn3, .inl (cJ, 40, .inr (.inl (fun _ => 0))))] := hD
            subst hw_r_58
            exact W.iret (v := (-1000000001)) hx hb hr (fun t ht hW => ⟨⟨(-1000000001), (), rfl, (p_sheet2 h_2 h_3 c_6 c_19 c_32 c_45), by rw [ht]; exact hP.sub [] rfl, hD.sub [] (by decide) rfl⟩, hS.F ht⟩) hS.2.2 dX8_sheet_35 hlk
  · skip
    refine lv_if_eq (tgt := 29) hx hb dX8_sheet_4 (by decide) (fun c_59 => ?_) (fun c_59 => absurd (by decide) c_59)
    refine lv_aload_n hx hb dX8_sheet_29 rfl (lv_at hl 0 rfl) ?_
    refine lv_ldc (v := (-1000000001)) hx hb hown (hu _ uw4) dX8_sheet_30 ?_
    refine xc_Vi (wr := [(qz, .inl (cS, 4, .inr (.inr (.inr (.inr (xSh s0 s1 s2 s3)))))), (s0, .inr (4, [.int 0, .int 0, .ref sn0])), (s1, .inr (4, [.int 0, .int 0, .ref sn1])), (s2, .inr (4, [.int 0, .int 0, .ref sn2])), (s3, .inr (4, [.int 0, .int 0, .ref sn3])), (sn0, .inl (cJ, 40, .inr (.inl (fun _ => 0)))), (sn1, .inl (cJ, 40, .inr (.inl (fun _ => 0)))), (sn2, .inl (cJ, 40, .inr (.inl (fun _ => 0)))), (sn3, .inl (cJ, 40, .inr (.inl (fun _ => 0))))]) hF (c_X8_finding_B l D cI cJ cZ cS sa s.heap.size h0 qh qk qd qa qm qs qp ql qt qz qf 0 (fun _ => 0) ) kv_X8_80 ⟨rfl, rfl, Nat.le_of_ble_eq_true rfl, Nat.le_of_ble_eq_true rfl⟩ ⟨Nat.le_of_ble_eq_true rfl, Nat.le_of_ble_eq_true rfl⟩ hK hN hP hD hS hA [0, 10] [1, 2, 3, 4, 5, 6, 7, 8, 9] rfl rfl rfl rfl (by decide) 0 rfl rfl rfl rfl hl.1 rfl (Nat.le_of_ble_eq_true rfl) dX8_sheet_32 (fun r_60 u_r_60 H locs hw_r_60 hP hD hS => ?_)
    have hP : va_P D vwCl [(qz, .inl (cS, 4, .inr (.inr (.inr (.inr (xSh s0 s1 s2 s3)))))), (s0, .inr (4, [.int 0, .int 0, .ref sn0])), (s1, .inr (4, [.int 0, .int 0, .ref sn1])), (s2, .inr (4, [.int 0, .int 0, .ref sn2])), (s3, .inr (4, [.int 0, .int 0, .ref sn3])), (sn0, .inl (cJ, 40, .inr (.inl (fun _ => 0)))), (sn1, .inl (cJ, 40, .inr (.inl (fun _ => 0)))), (sn2, .inl (cJ, 40, .inr (.inl (fun _ => 0)))), (sn3, .inl (cJ, 40, .inr (.inl (fun _ => 0))))] H := hP
    have hD : va_D A [(qz, .inl (cS, 4, .inr (.inr (.inr (.inr (xSh s0 s1 s2 s3)))))), (s0, .inr (4, [.int 0, .int 0, .ref sn0])), (s1, .inr (4, [.int 0, .int 0, .ref sn1])), (s2, .inr (4, [.int 0, .int 0, .ref sn2])), (s3, .inr (4, [.int 0, .int 0, .ref sn3])), (sn0, .inl (cJ, 40, .inr (.inl (fun _ => 0)))), (sn1, .inl (cJ, 40, .inr (.inl (fun _ => 0)))), (sn2, .inl (cJ, 40, .inr (.inl (fun _ => 0)))), (sn3, .inl (cJ, 40, .inr (.inl (fun _ => 0))))] := hD
    subst hw_r_60
    exact W.iret (v := (-1000000001)) hx hb hr (fun t ht hW => ⟨⟨(-1000000001), (), rfl, (p_sheet1 h_4), by rw [ht]; exact hP.sub [] rfl, hD.sub [] (by decide) rfl⟩, hS.F ht⟩) hS.2.2 dX8_sheet_35 hlk
set_option maxHeartbeats 4000000 in
set_option maxRecDepth 100000 in
theorem c_X8_lays (l : Launch) (D : va_G) (cI cJ cZ cS : ClassId) (sa : Nat → Nat) (sz : Nat) (h0 : Nat) (qh : Nat) (qk : Nat) (qd : Nat) (qa : Nat) (qm : Nat) (qs : Nat) (qp : Nat) (ql : Nat) (qt : Nat) (qz : Nat) (qf : Nat) (s0 : Nat) (s1 : Nat) (s2 : Nat) (s3 : Nat) (sn0 : Nat) (sn1 : Nat) (sn2 : Nat) (sn3 : Nat) (p0 : Int32) (p1 : Int32) : Met l yX8_lays (Cond.code yX8_lays cX8_lays 3 (some .int) :: wsU) ({ frames := 2, cells := 0, slots := 0, locals := 42 }) (va_Pc [.ref h0, .int p0, .int p1] (XW D (xT cI cJ cZ cS) sa [(h0, .inr (8, [.ref qh, .ref qk, .ref qd, .int 0, .ref qa, .ref qm, .ref qs, .ref qp, .ref ql, .ref qt, .ref qz, .ref qf])), (qz, .inl (cS, 4, .inr (.inr (.inr (.inr (xSh s0 s1 s2 s3)))))), (s0, .inr (4, [.int 0, .int 0, .ref sn0])), (s1, .inr (4, [.int 0, .int 0, .ref sn1])), (s2, .inr (4, [.int 0, .int 0, .ref sn2])), (s3, .inr (4, [.int 0, .int 0, .ref sn3])), (qf, .inl (cI, 7, .inl (fun _ => 0)))] sz)) (XQi (fun (r : Int32) (_ : Unit) => r = a_sh p0) D (fun _ : Unit => []) (va_A [(h0, .inr (8, [.ref qh, .ref qk, .ref qd, .int 0, .ref qa, .ref qm, .ref qs, .ref qp, .ref ql, .ref qt, .ref qz, .ref qf])), (qz, .inl (cS, 4, .inr (.inr (.inr (.inr (xSh s0 s1 s2 s3)))))), (s0, .inr (4, [.int 0, .int 0, .ref sn0])), (s1, .inr (4, [.int 0, .int 0, .ref sn1])), (s2, .inr (4, [.int 0, .int 0, .ref sn2])), (s3, .inr (4, [.int 0, .int 0, .ref sn3])), (qf, .inl (cI, 7, .inl (fun _ => 0)))] sz)) 0 0 (va_A [(h0, .inr (8, [.ref qh, .ref qk, .ref qd, .int 0, .ref qa, .ref qm, .ref qs, .ref qp, .ref ql, .ref qt, .ref qz, .ref qf])), (qz, .inl (cS, 4, .inr (.inr (.inr (.inr (xSh s0 s1 s2 s3)))))), (s0, .inr (4, [.int 0, .int 0, .ref sn0])), (s1, .inr (4, [.int 0, .int 0, .ref sn1])), (s2, .inr (4, [.int 0, .int 0, .ref sn2])), (s3, .inr (4, [.int 0, .int 0, .ref sn3])), (qf, .inl (cI, 7, .inl (fun _ => 0)))] sz) := by
  refine xhw (QA := fun A => XQi (fun (r : Int32) (_ : Unit) => r = a_sh p0) D (fun _ : Unit => []) A) (by decide) (Nat.le_of_ble_eq_true rfl) ?_
  intro p e s m below meth c ls A hF hr hlk hin hsz hP hK hD hN hA hS hl
  have hF : CallFix p m c cX8_lays 3 s _ _ RX8 := hF
  have hx := hF.1
  have hb := hF.2.1
  have hml := hF.2.2.1
  have hown := hF.2.2.2.1
  have hu : ∀ w ∈ wsU, w.before _ s = true := fun w h => hF.2.2.2.2 w (List.mem_cons_of_mem _ h)
  have hl : lv_has ls 3 [(0, .ref h0), (1, .int p0), (2, .int p1)] := hl
  refine lv_iload_n hx hb dX8_lays_0 rfl (lv_at hl 1 rfl) ?_
  refine xc_Sr hF (c_X8_isSheet l D cI cJ cZ cS sa s.heap.size p0 ) ks_X8_285 ⟨rfl, rfl, Nat.le_of_ble_eq_true rfl, Nat.le_of_ble_eq_true rfl⟩ ⟨Nat.le_of_ble_eq_true rfl, Nat.le_of_ble_eq_true rfl⟩ hK hN hP hD [] rfl rfl rfl hl.1 rfl (Nat.le_of_ble_eq_true rfl) dX8_lays_1 (fun r_1 hw_r_1 => ?_)
  rcases hw_r_1 with ⟨rfl, h_2, h_3⟩ | ⟨rfl, h_4⟩
  · skip
    refine lv_if_ne (tgt := 14) hx hb dX8_lays_4 (by decide) (fun c_5 => ?_) (fun c_5 => absurd c_5 (by decide))
    rcases x_i4 h_2 h_3 with rfl | rfl | rfl | rfl
    · skip
      refine lv_aload_n hx hb dX8_lays_14 rfl (lv_at hl 0 rfl) ?_
      refine xg hF kf_X8_66 hK hP 0 rfl rfl dX8_lays_15 ?_
      refine lv_iload_n hx hb dX8_lays_18 rfl (lv_at hl 1 rfl) ?_
      refine va_aldq hx hb hK hP 1 3 rfl rfl (xin 0 4 (by decide) (by decide)) dX8_lays_19 ?_
      refine xl_v (w := .ref s0) rfl ?_
      refine xc_Vr hF (c_X4_isMissing l D cI cJ cZ cS sa s.heap.size s0 sn0 ) kv_X8_294 ⟨rfl, rfl, Nat.le_of_ble_eq_true rfl, Nat.le_of_ble_eq_true rfl⟩ ⟨Nat.le_of_ble_eq_true rfl, Nat.le_of_ble_eq_true rfl⟩ hK hN hP hD [2] rfl rfl 0 rfl rfl rfl rfl hl.1 rfl (Nat.le_of_ble_eq_true rfl) dX8_lays_20 (fun r_6 hw_r_6 => ?_)
      subst hw_r_6
      refine lv_if_eq (tgt := 34) hx hb dX8_lays_23 (by decide) (fun c_7 => absurd c_7 (by decide)) (fun c_7 => ?_)
      refine lv_aload_n hx hb dX8_lays_26 rfl (lv_at hl 0 rfl) ?_
      refine lv_ldcw (v := (-1000000006)) hx hb hown (hu _ uw236) dX8_lays_27 ?_
      refine xc_Vi (wr := [(qz, .inl (cS, 4, .inr (.inr (.inr (.inr (xSh s0 s1 s2 s3)))))), (s0, .inr (4, [.int 0, .int 0, .ref sn0])), (s1, .inr (4, [.int 0, .int 0, .ref sn1])), (s2, .inr (4, [.int 0, .int 0, .ref sn2])), (s3, .inr (4, [.int 0, .int 0, .ref sn3]))]) hF (c_X8_finding_M l D cI cJ cZ cS sa s.heap.size h0 qh qk qd qa qm qs qp ql qt qz qf 0 (fun _ => 0) ) kv_X8_80 ⟨rfl, rfl, Nat.le_of_ble_eq_true rfl, Nat.le_of_ble_eq_true rfl⟩ ⟨Nat.le_of_ble_eq_true rfl, Nat.le_of_ble_eq_true rfl⟩ hK hN hP hD hS hA [0, 6] [1, 2, 3, 4, 5] rfl rfl rfl rfl (by decide) 0 rfl rfl rfl rfl hl.1 rfl (Nat.le_of_ble_eq_true rfl) dX8_lays_30 (fun r_8 u_r_8 H locs hw_r_8 hP hD hS => ?_)
      have hP : va_P D vwCl [(qz, .inl (cS, 4, .inr (.inr (.inr (.inr (xSh s0 s1 s2 s3)))))), (s0, .inr (4, [.int 0, .int 0, .ref sn0])), (s1, .inr (4, [.int 0, .int 0, .ref sn1])), (s2, .inr (4, [.int 0, .int 0, .ref sn2])), (s3, .inr (4, [.int 0, .int 0, .ref sn3]))] H := hP
      have hD : va_D A [(qz, .inl (cS, 4, .inr (.inr (.inr (.inr (xSh s0 s1 s2 s3)))))), (s0, .inr (4, [.int 0, .int 0, .ref sn0])), (s1, .inr (4, [.int 0, .int 0, .ref sn1])), (s2, .inr (4, [.int 0, .int 0, .ref sn2])), (s3, .inr (4, [.int 0, .int 0, .ref sn3]))] := hD
      subst hw_r_8
      exact W.iret (v := (-1000000006)) hx hb hr (fun t ht hW => ⟨⟨(-1000000006), (), rfl, (by first | rfl | decide | simp), by rw [ht]; exact hP.sub [] rfl, hD.sub [] (by decide) rfl⟩, hS.F ht⟩) hS.2.2 dX8_lays_33 hlk
    · skip
      refine lv_aload_n hx hb dX8_lays_14 rfl (lv_at hl 0 rfl) ?_
      refine xg hF kf_X8_66 hK hP 0 rfl rfl dX8_lays_15 ?_
      refine lv_iload_n hx hb dX8_lays_18 rfl (lv_at hl 1 rfl) ?_
      refine va_aldq hx hb hK hP 1 3 rfl rfl (xin 1 4 (by decide) (by decide)) dX8_lays_19 ?_
      refine xl_v (w := .ref s1) rfl ?_
      refine xc_Vr hF (c_X4_isMissing l D cI cJ cZ cS sa s.heap.size s1 sn1 ) kv_X8_294 ⟨rfl, rfl, Nat.le_of_ble_eq_true rfl, Nat.le_of_ble_eq_true rfl⟩ ⟨Nat.le_of_ble_eq_true rfl, Nat.le_of_ble_eq_true rfl⟩ hK hN hP hD [3] rfl rfl 0 rfl rfl rfl rfl hl.1 rfl (Nat.le_of_ble_eq_true rfl) dX8_lays_20 (fun r_9 hw_r_9 => ?_)
      subst hw_r_9
      refine lv_if_eq (tgt := 34) hx hb dX8_lays_23 (by decide) (fun c_10 => absurd c_10 (by decide)) (fun c_10 => ?_)
      refine lv_aload_n hx hb dX8_lays_26 rfl (lv_at hl 0 rfl) ?_
      refine lv_ldcw (v := (-1000000006)) hx hb hown (hu _ uw236) dX8_lays_27 ?_
      refine xc_Vi (wr := [(qz, .inl (cS, 4, .inr (.inr (.inr (.inr (xSh s0 s1 s2 s3)))))), (s0, .inr (4, [.int 0, .int 0, .ref sn0])), (s1, .inr (4, [.int 0, .int 0, .ref sn1])), (s2, .inr (4, [.int 0, .int 0, .ref sn2])), (s3, .inr (4, [.int 0, .int 0, .ref sn3]))]) hF (c_X8_finding_M l D cI cJ cZ cS sa s.heap.size h0 qh qk qd qa qm qs qp ql qt qz qf 0 (fun _ => 0) ) kv_X8_80 ⟨rfl, rfl, Nat.le_of_ble_eq_true rfl, Nat.le_of_ble_eq_true rfl⟩ ⟨Nat.le_of_ble_eq_true rfl, Nat.le_of_ble_eq_true rfl⟩ hK hN hP hD hS hA [0, 6] [1, 2, 3, 4, 5] rfl rfl rfl rfl (by decide) 0 rfl rfl rfl rfl hl.1 rfl (Nat.le_of_ble_eq_true rfl) dX8_lays_30 (fun r_11 u_r_11 H locs hw_r_11 hP hD hS => ?_)
      have hP : va_P D vwCl [(qz, .inl (cS, 4, .inr (.inr (.inr (.inr (xSh s0 s1 s2 s3)))))), (s0, .inr (4, [.int 0, .int 0, .ref sn0])), (s1, .inr (4, [.int 0, .int 0, .ref sn1])), (s2, .inr (4, [.int 0, .int 0, .ref sn2])), (s3, .inr (4, [.int 0, .int 0, .ref sn3]))] H := hP
      have hD : va_D A [(qz, .inl (cS, 4, .inr (.inr (.inr (.inr (xSh s0 s1 s2 s3)))))), (s0, .inr (4, [.int 0, .int 0, .ref sn0])), (s1, .inr (4, [.int 0, .int 0, .ref sn1])), (s2, .inr (4, [.int 0, .int 0, .ref sn2])), (s3, .inr (4, [.int 0, .int 0, .ref sn3]))] := hD
      subst hw_r_11
      exact W.iret (v := (-1000000006)) hx hb hr (fun t ht hW => ⟨⟨(-1000000006), (), rfl, (by first | rfl | decide | simp), by rw [ht]; exact hP.sub [] rfl, hD.sub [] (by decide) rfl⟩, hS.F ht⟩) hS.2.2 dX8_lays_33 hlk
    · skip
      refine lv_aload_n hx hb dX8_lays_14 rfl (lv_at hl 0 rfl) ?_
      refine xg hF kf_X8_66 hK hP 0 rfl rfl dX8_lays_15 ?_
      refine lv_iload_n hx hb dX8_lays_18 rfl (lv_at hl 1 rfl) ?_
      refine va_aldq hx hb hK hP 1 3 rfl rfl (xin 2 4 (by decide) (by decide)) dX8_lays_19 ?_
      refine xl_v (w := .ref s2) rfl ?_
      refine xc_Vr hF (c_X4_isMissing l D cI cJ cZ cS sa s.heap.size s2 sn2 ) kv_X8_294 ⟨rfl, rfl, Nat.le_of_ble_eq_true rfl, Nat.le_of_ble_eq_true rfl⟩ ⟨Nat.le_of_ble_eq_true rfl, Nat.le_of_ble_eq_true rfl⟩ hK hN hP hD [4] rfl rfl 0 rfl rfl rfl rfl hl.1 rfl (Nat.le_of_ble_eq_true rfl) dX8_lays_20 (fun r_12 hw_r_12 => ?_)
      subst hw_r_12
      refine lv_if_eq (tgt := 34) hx hb dX8_lays_23 (by decide) (fun c_13 => absurd c_13 (by decide)) (fun c_13 => ?_)
      refine lv_aload_n hx hb dX8_lays_26 rfl (lv_at hl 0 rfl) ?_
      refine lv_ldcw (v := (-1000000006)) hx hb hown (hu _ uw236) dX8_lays_27 ?_
      refine xc_Vi (wr := [(qz, .inl (cS, 4, .inr (.inr (.inr (.inr (xSh s0 s1 s2 s3)))))), (s0, .inr (4, [.int 0, .int 0, .ref sn0])), (s1, .inr (4, [.int 0, .int 0, .ref sn1])), (s2, .inr (4, [.int 0, .int 0, .ref sn2])), (s3, .inr (4, [.int 0, .int 0, .ref sn3]))]) hF (c_X8_finding_M l D cI cJ cZ cS sa s.heap.size h0 qh qk qd qa qm qs qp ql qt qz qf 0 (fun _ => 0) ) kv_X8_80 ⟨rfl, rfl, Nat.le_of_ble_eq_true rfl, Nat.le_of_ble_eq_true rfl⟩ ⟨Nat.le_of_ble_eq_true rfl, Nat.le_of_ble_eq_true rfl⟩ hK hN hP hD hS hA [0, 6] [1, 2, 3, 4, 5] rfl rfl rfl rfl (by decide) 0 rfl rfl rfl rfl hl.1 rfl (Nat.le_of_ble_eq_true rfl) dX8_lays_30 (fun r_14 u_r_14 H locs hw_r_14 hP hD hS => ?_)
      have hP : va_P D vwCl [(qz, .inl (cS, 4, .inr (.inr (.inr (.inr (xSh s0 s1 s2 s3)))))), (s0, .inr (4, [.int 0, .int 0, .ref sn0])), (s1, .inr (4, [.int 0, .int 0, .ref sn1])), (s2, .inr (4, [.int 0, .int 0, .ref sn2])), (s3, .inr (4, [.int 0, .int 0, .ref sn3]))] H := hP
      have hD : va_D A [(qz, .inl (cS, 4, .inr (.inr (.inr (.inr (xSh s0 s1 s2 s3)))))), (s0, .inr (4, [.int 0, .int 0, .ref sn0])), (s1, .inr (4, [.int 0, .int 0, .ref sn1])), (s2, .inr (4, [.int 0, .int 0, .ref sn2])), (s3, .inr (4, [.int 0, .int 0, .ref sn3]))] := hD
      subst hw_r_14
      exact W.iret (v := (-1000000006)) hx hb hr (fun t ht hW => ⟨⟨(-1000000006), (), rfl, (by first | rfl | decide | simp), by rw [ht]; exact hP.sub [] rfl, hD.sub [] (by decide) rfl⟩, hS.F ht⟩) hS.2.2 dX8_lays_33 hlk
    · skip
      refine lv_aload_n hx hb dX8_lays_14 rfl (lv_at hl 0 rfl) ?_
      refine xg hF kf_X8_66 hK hP 0 rfl rfl dX8_lays_15 ?_
      refine lv_iload_n hx hb dX8_lays_18 rfl (lv_at hl 1 rfl) ?_
      refine va_aldq hx hb hK hP 1 3 rfl rfl (xin 3 4 (by decide) (by decide)) dX8_lays_19 ?_
      refine xl_v (w := .ref s3) rfl ?_
      refine xc_Vr hF (c_X4_isMissing l D cI cJ cZ cS sa s.heap.size s3 sn3 ) kv_X8_294 ⟨rfl, rfl, Nat.le_of_ble_eq_true rfl, Nat.le_of_ble_eq_true rfl⟩ ⟨Nat.le_of_ble_eq_true rfl, Nat.le_of_ble_eq_true rfl⟩ hK hN hP hD [5] rfl rfl 0 rfl rfl rfl rfl hl.1 rfl (Nat.le_of_ble_eq_true rfl) dX8_lays_20 (fun r_15 hw_r_15 => ?_)
      subst hw_r_15
      refine lv_if_eq (tgt := 34) hx hb dX8_lays_23 (by decide) (fun c_16 => absurd c_16 (by decide)) (fun c_16 => ?_)
      refine lv_aload_n hx hb dX8_lays_26 rfl (lv_at hl 0 rfl) ?_
      refine lv_ldcw (v := (-1000000006)) hx hb hown (hu _ uw236) dX8_lays_27 ?_
      refine xc_Vi (wr := [(qz, .inl (cS, 4, .inr (.inr (.inr (.inr (xSh s0 s1 s2 s3)))))), (s0, .inr (4, [.int 0, .int 0, .ref sn0])), (s1, .inr (4, [.int 0, .int 0, .ref sn1])), (s2, .inr (4, [.int 0, .int 0, .ref sn2])), (s3, .inr (4, [.int 0, .int 0, .ref sn3]))]) hF (c_X8_finding_M l D cI cJ cZ cS sa s.heap.size h0 qh qk qd qa qm qs qp ql qt qz qf 0 (fun _ => 0) ) kv_X8_80 ⟨rfl, rfl, Nat.le_of_ble_eq_true rfl, Nat.le_of_ble_eq_true rfl⟩ ⟨Nat.le_of_ble_eq_true rfl, Nat.le_of_ble_eq_true rfl⟩ hK hN hP hD hS hA [0, 6] [1, 2, 3, 4, 5] rfl rfl rfl rfl (by decide) 0 rfl rfl rfl rfl hl.1 rfl (Nat.le_of_ble_eq_true rfl) dX8_lays_30 (fun r_17 u_r_17 H locs hw_r_17 hP hD hS => ?_)
      have hP : va_P D vwCl [(qz, .inl (cS, 4, .inr (.inr (.inr (.inr (xSh s0 s1 s2 s3)))))), (s0, .inr (4, [.int 0, .int 0, .ref sn0])), (s1, .inr (4, [.int 0, .int 0, .ref sn1])), (s2, .inr (4, [.int 0, .int 0, .ref sn2])), (s3, .inr (4, [.int 0, .int 0, .ref sn3]))] H := hP
      have hD : va_D A [(qz, .inl (cS, 4, .inr (.inr (.inr (.inr (xSh s0 s1 s2 s3)))))), (s0, .inr (4, [.int 0, .int 0, .ref sn0])), (s1, .inr (4, [.int 0, .int 0, .ref sn1])), (s2, .inr (4, [.int 0, .int 0, .ref sn2])), (s3, .inr (4, [.int 0, .int 0, .ref sn3]))] := hD
      subst hw_r_17
      exact W.iret (v := (-1000000006)) hx hb hr (fun t ht hW => ⟨⟨(-1000000006), (), rfl, (by first | rfl | decide | simp), by rw [ht]; exact hP.sub [] rfl, hD.sub [] (by decide) rfl⟩, hS.F ht⟩) hS.2.2 dX8_lays_33 hlk
  · skip
    refine lv_if_ne (tgt := 14) hx hb dX8_lays_4 (by decide) (fun c_18 => absurd (by decide) c_18) (fun c_18 => ?_)
    refine lv_aload_n hx hb dX8_lays_7 rfl (lv_at hl 0 rfl) ?_
    refine lv_ldc (v := (-1000000001)) hx hb hown (hu _ uw4) dX8_lays_8 ?_
    refine xc_Vi (wr := [(qz, .inl (cS, 4, .inr (.inr (.inr (.inr (xSh s0 s1 s2 s3)))))), (s0, .inr (4, [.int 0, .int 0, .ref sn0])), (s1, .inr (4, [.int 0, .int 0, .ref sn1])), (s2, .inr (4, [.int 0, .int 0, .ref sn2])), (s3, .inr (4, [.int 0, .int 0, .ref sn3]))]) hF (c_X8_finding_B l D cI cJ cZ cS sa s.heap.size h0 qh qk qd qa qm qs qp ql qt qz qf 0 (fun _ => 0) ) kv_X8_80 ⟨rfl, rfl, Nat.le_of_ble_eq_true rfl, Nat.le_of_ble_eq_true rfl⟩ ⟨Nat.le_of_ble_eq_true rfl, Nat.le_of_ble_eq_true rfl⟩ hK hN hP hD hS hA [0, 6] [1, 2, 3, 4, 5] rfl rfl rfl rfl (by decide) 0 rfl rfl rfl rfl hl.1 rfl (Nat.le_of_ble_eq_true rfl) dX8_lays_10 (fun r_19 u_r_19 H locs hw_r_19 hP hD hS => ?_)
    have hP : va_P D vwCl [(qz, .inl (cS, 4, .inr (.inr (.inr (.inr (xSh s0 s1 s2 s3)))))), (s0, .inr (4, [.int 0, .int 0, .ref sn0])), (s1, .inr (4, [.int 0, .int 0, .ref sn1])), (s2, .inr (4, [.int 0, .int 0, .ref sn2])), (s3, .inr (4, [.int 0, .int 0, .ref sn3]))] H := hP
    have hD : va_D A [(qz, .inl (cS, 4, .inr (.inr (.inr (.inr (xSh s0 s1 s2 s3)))))), (s0, .inr (4, [.int 0, .int 0, .ref sn0])), (s1, .inr (4, [.int 0, .int 0, .ref sn1])), (s2, .inr (4, [.int 0, .int 0, .ref sn2])), (s3, .inr (4, [.int 0, .int 0, .ref sn3]))] := hD
    subst hw_r_19
    exact W.iret (v := (-1000000001)) hx hb hr (fun t ht hW => ⟨⟨(-1000000001), (), rfl, (if_pos h_4).symm, by rw [ht]; exact hP.sub [] rfl, hD.sub [] (by decide) rfl⟩, hS.F ht⟩) hS.2.2 dX8_lays_13 hlk
set_option maxHeartbeats 4000000 in
set_option maxRecDepth 100000 in
theorem c_X8_read (l : Launch) (D : va_G) (cI cJ cZ cS : ClassId) (sa : Nat → Nat) (sz : Nat) (h0 : Nat) (qh : Nat) (qk : Nat) (qd : Nat) (qa : Nat) (qm : Nat) (qs : Nat) (qp : Nat) (ql : Nat) (qt : Nat) (qz : Nat) (qf : Nat) (s0 : Nat) (s1 : Nat) (s2 : Nat) (s3 : Nat) (sn0 : Nat) (sn1 : Nat) (sn2 : Nat) (sn3 : Nat) (p0 : Int32) : Met l yX8_read (Cond.code yX8_read cX8_read 2 (some .int) :: wsU) ({ frames := 2, cells := 0, slots := 0, locals := 42 }) (va_Pc [.ref h0, .int p0] (XW D (xT cI cJ cZ cS) sa [(h0, .inr (8, [.ref qh, .ref qk, .ref qd, .int 0, .ref qa, .ref qm, .ref qs, .ref qp, .ref ql, .ref qt, .ref qz, .ref qf])), (qz, .inl (cS, 4, .inr (.inr (.inr (.inr (xSh s0 s1 s2 s3)))))), (s0, .inr (4, [.int 0, .int 0, .ref sn0])), (s1, .inr (4, [.int 0, .int 0, .ref sn1])), (s2, .inr (4, [.int 0, .int 0, .ref sn2])), (s3, .inr (4, [.int 0, .int 0, .ref sn3])), (qf, .inl (cI, 7, .inl (fun _ => 0)))] sz)) (XQi (fun (r : Int32) (_ : Unit) => r = a_sh p0) D (fun _ : Unit => []) (va_A [(h0, .inr (8, [.ref qh, .ref qk, .ref qd, .int 0, .ref qa, .ref qm, .ref qs, .ref qp, .ref ql, .ref qt, .ref qz, .ref qf])), (qz, .inl (cS, 4, .inr (.inr (.inr (.inr (xSh s0 s1 s2 s3)))))), (s0, .inr (4, [.int 0, .int 0, .ref sn0])), (s1, .inr (4, [.int 0, .int 0, .ref sn1])), (s2, .inr (4, [.int 0, .int 0, .ref sn2])), (s3, .inr (4, [.int 0, .int 0, .ref sn3])), (qf, .inl (cI, 7, .inl (fun _ => 0)))] sz)) 0 0 (va_A [(h0, .inr (8, [.ref qh, .ref qk, .ref qd, .int 0, .ref qa, .ref qm, .ref qs, .ref qp, .ref ql, .ref qt, .ref qz, .ref qf])), (qz, .inl (cS, 4, .inr (.inr (.inr (.inr (xSh s0 s1 s2 s3)))))), (s0, .inr (4, [.int 0, .int 0, .ref sn0])), (s1, .inr (4, [.int 0, .int 0, .ref sn1])), (s2, .inr (4, [.int 0, .int 0, .ref sn2])), (s3, .inr (4, [.int 0, .int 0, .ref sn3])), (qf, .inl (cI, 7, .inl (fun _ => 0)))] sz) := by
  refine xhw (QA := fun A => XQi (fun (r : Int32) (_ : Unit) => r = a_sh p0) D (fun _ : Unit => []) A) (by decide) (Nat.le_of_ble_eq_true rfl) ?_
  intro p e s m below meth c ls A hF hr hlk hin hsz hP hK hD hN hA hS hl
  have hF : CallFix p m c cX8_read 2 s _ _ RX8 := hF
  have hx := hF.1
  have hb := hF.2.1
  have hml := hF.2.2.1
  have hown := hF.2.2.2.1
  have hu : ∀ w ∈ wsU, w.before _ s = true := fun w h => hF.2.2.2.2 w (List.mem_cons_of_mem _ h)
  have hl : lv_has ls 2 [(0, .ref h0), (1, .int p0)] := hl
  refine lv_iload_n hx hb dX8_read_0 rfl (lv_at hl 1 rfl) ?_
  refine xc_Sr hF (c_X8_isSheet l D cI cJ cZ cS sa s.heap.size p0 ) ks_X8_285 ⟨rfl, rfl, Nat.le_of_ble_eq_true rfl, Nat.le_of_ble_eq_true rfl⟩ ⟨Nat.le_of_ble_eq_true rfl, Nat.le_of_ble_eq_true rfl⟩ hK hN hP hD [] rfl rfl rfl hl.1 rfl (Nat.le_of_ble_eq_true rfl) dX8_read_1 (fun r_1 hw_r_1 => ?_)
  rcases hw_r_1 with ⟨rfl, h_2, h_3⟩ | ⟨rfl, h_4⟩
  · skip
    refine lv_if_ne (tgt := 14) hx hb dX8_read_4 (by decide) (fun c_5 => ?_) (fun c_5 => absurd c_5 (by decide))
    rcases x_i4 h_2 h_3 with rfl | rfl | rfl | rfl
    · skip
      refine lv_aload_n hx hb dX8_read_14 rfl (lv_at hl 0 rfl) ?_
      refine xg hF kf_X8_66 hK hP 0 rfl rfl dX8_read_15 ?_
      refine lv_iload_n hx hb dX8_read_18 rfl (lv_at hl 1 rfl) ?_
      refine va_aldq hx hb hK hP 1 3 rfl rfl (xin 0 4 (by decide) (by decide)) dX8_read_19 ?_
      refine xl_v (w := .ref s0) rfl ?_
      refine xc_Vr hF (c_X4_isMissing l D cI cJ cZ cS sa s.heap.size s0 sn0 ) kv_X8_294 ⟨rfl, rfl, Nat.le_of_ble_eq_true rfl, Nat.le_of_ble_eq_true rfl⟩ ⟨Nat.le_of_ble_eq_true rfl, Nat.le_of_ble_eq_true rfl⟩ hK hN hP hD [2] rfl rfl 0 rfl rfl rfl rfl hl.1 rfl (Nat.le_of_ble_eq_true rfl) dX8_read_20 (fun r_6 hw_r_6 => ?_)
      subst hw_r_6
      refine lv_if_eq (tgt := 34) hx hb dX8_read_23 (by decide) (fun c_7 => absurd c_7 (by decide)) (fun c_7 => ?_)
      refine lv_aload_n hx hb dX8_read_26 rfl (lv_at hl 0 rfl) ?_
      refine lv_ldcw (v := (-1000000006)) hx hb hown (hu _ uw236) dX8_read_27 ?_
      refine xc_Vi (wr := [(qz, .inl (cS, 4, .inr (.inr (.inr (.inr (xSh s0 s1 s2 s3)))))), (s0, .inr (4, [.int 0, .int 0, .ref sn0])), (s1, .inr (4, [.int 0, .int 0, .ref sn1])), (s2, .inr (4, [.int 0, .int 0, .ref sn2])), (s3, .inr (4, [.int 0, .int 0, .ref sn3]))]) hF (c_X8_finding_M l D cI cJ cZ cS sa s.heap.size h0 qh qk qd qa qm qs qp ql qt qz qf 0 (fun _ => 0) ) kv_X8_80 ⟨rfl, rfl, Nat.le_of_ble_eq_true rfl, Nat.le_of_ble_eq_true rfl⟩ ⟨Nat.le_of_ble_eq_true rfl, Nat.le_of_ble_eq_true rfl⟩ hK hN hP hD hS hA [0, 6] [1, 2, 3, 4, 5] rfl rfl rfl rfl (by decide) 0 rfl rfl rfl rfl hl.1 rfl (Nat.le_of_ble_eq_true rfl) dX8_read_30 (fun r_8 u_r_8 H locs hw_r_8 hP hD hS => ?_)
      have hP : va_P D vwCl [(qz, .inl (cS, 4, .inr (.inr (.inr (.inr (xSh s0 s1 s2 s3)))))), (s0, .inr (4, [.int 0, .int 0, .ref sn0])), (s1, .inr (4, [.int 0, .int 0, .ref sn1])), (s2, .inr (4, [.int 0, .int 0, .ref sn2])), (s3, .inr (4, [.int 0, .int 0, .ref sn3]))] H := hP
      have hD : va_D A [(qz, .inl (cS, 4, .inr (.inr (.inr (.inr (xSh s0 s1 s2 s3)))))), (s0, .inr (4, [.int 0, .int 0, .ref sn0])), (s1, .inr (4, [.int 0, .int 0, .ref sn1])), (s2, .inr (4, [.int 0, .int 0, .ref sn2])), (s3, .inr (4, [.int 0, .int 0, .ref sn3]))] := hD
      subst hw_r_8
      exact W.iret (v := (-1000000006)) hx hb hr (fun t ht hW => ⟨⟨(-1000000006), (), rfl, (by first | rfl | decide | simp), by rw [ht]; exact hP.sub [] rfl, hD.sub [] (by decide) rfl⟩, hS.F ht⟩) hS.2.2 dX8_read_33 hlk
    · skip
      refine lv_aload_n hx hb dX8_read_14 rfl (lv_at hl 0 rfl) ?_
      refine xg hF kf_X8_66 hK hP 0 rfl rfl dX8_read_15 ?_
      refine lv_iload_n hx hb dX8_read_18 rfl (lv_at hl 1 rfl) ?_
      refine va_aldq hx hb hK hP 1 3 rfl rfl (xin 1 4 (by decide) (by decide)) dX8_read_19 ?_
      refine xl_v (w := .ref s1) rfl ?_
      refine xc_Vr hF (c_X4_isMissing l D cI cJ cZ cS sa s.heap.size s1 sn1 ) kv_X8_294 ⟨rfl, rfl, Nat.le_of_ble_eq_true rfl, Nat.le_of_ble_eq_true rfl⟩ ⟨Nat.le_of_ble_eq_true rfl, Nat.le_of_ble_eq_true rfl⟩ hK hN hP hD [3] rfl rfl 0 rfl rfl rfl rfl hl.1 rfl (Nat.le_of_ble_eq_true rfl) dX8_read_20 (fun r_9 hw_r_9 => ?_)
      subst hw_r_9
      refine lv_if_eq (tgt := 34) hx hb dX8_read_23 (by decide) (fun c_10 => absurd c_10 (by decide)) (fun c_10 => ?_)
      refine lv_aload_n hx hb dX8_read_26 rfl (lv_at hl 0 rfl) ?_
      refine lv_ldcw (v := (-1000000006)) hx hb hown (hu _ uw236) dX8_read_27 ?_
      refine xc_Vi (wr := [(qz, .inl (cS, 4, .inr (.inr (.inr (.inr (xSh s0 s1 s2 s3)))))), (s0, .inr (4, [.int 0, .int 0, .ref sn0])), (s1, .inr (4, [.int 0, .int 0, .ref sn1])), (s2, .inr (4, [.int 0, .int 0, .ref sn2])), (s3, .inr (4, [.int 0, .int 0, .ref sn3]))]) hF (c_X8_finding_M l D cI cJ cZ cS sa s.heap.size h0 qh qk qd qa qm qs qp ql qt qz qf 0 (fun _ => 0) ) kv_X8_80 ⟨rfl, rfl, Nat.le_of_ble_eq_true rfl, Nat.le_of_ble_eq_true rfl⟩ ⟨Nat.le_of_ble_eq_true rfl, Nat.le_of_ble_eq_true rfl⟩ hK hN hP hD hS hA [0, 6] [1, 2, 3, 4, 5] rfl rfl rfl rfl (by decide) 0 rfl rfl rfl rfl hl.1 rfl (Nat.le_of_ble_eq_true rfl) dX8_read_30 (fun r_11 u_r_11 H locs hw_r_11 hP hD hS => ?_)
      have hP : va_P D vwCl [(qz, .inl (cS, 4, .inr (.inr (.inr (.inr (xSh s0 s1 s2 s3)))))), (s0, .inr (4, [.int 0, .int 0, .ref sn0])), (s1, .inr (4, [.int 0, .int 0, .ref sn1])), (s2, .inr (4, [.int 0, .int 0, .ref sn2])), (s3, .inr (4, [.int 0, .int 0, .ref sn3]))] H := hP
      have hD : va_D A [(qz, .inl (cS, 4, .inr (.inr (.inr (.inr (xSh s0 s1 s2 s3)))))), (s0, .inr (4, [.int 0, .int 0, .ref sn0])), (s1, .inr (4, [.int 0, .int 0, .ref sn1])), (s2, .inr (4, [.int 0, .int 0, .ref sn2])), (s3, .inr (4, [.int 0, .int 0, .ref sn3]))] := hD
      subst hw_r_11
      exact W.iret (v := (-1000000006)) hx hb hr (fun t ht hW => ⟨⟨(-1000000006), (), rfl, (by first | rfl | decide | simp), by rw [ht]; exact hP.sub [] rfl, hD.sub [] (by decide) rfl⟩, hS.F ht⟩) hS.2.2 dX8_read_33 hlk
    · skip
      refine lv_aload_n hx hb dX8_read_14 rfl (lv_at hl 0 rfl) ?_
      refine xg hF kf_X8_66 hK hP 0 rfl rfl dX8_read_15 ?_
      refine lv_iload_n hx hb dX8_read_18 rfl (lv_at hl 1 rfl) ?_
      refine va_aldq hx hb hK hP 1 3 rfl rfl (xin 2 4 (by decide) (by decide)) dX8_read_19 ?_
      refine xl_v (w := .ref s2) rfl ?_
      refine xc_Vr hF (c_X4_isMissing l D cI cJ cZ cS sa s.heap.size s2 sn2 ) kv_X8_294 ⟨rfl, rfl, Nat.le_of_ble_eq_true rfl, Nat.le_of_ble_eq_true rfl⟩ ⟨Nat.le_of_ble_eq_true rfl, Nat.le_of_ble_eq_true rfl⟩ hK hN hP hD [4] rfl rfl 0 rfl rfl rfl rfl hl.1 rfl (Nat.le_of_ble_eq_true rfl) dX8_read_20 (fun r_12 hw_r_12 => ?_)
      subst hw_r_12
      refine lv_if_eq (tgt := 34) hx hb dX8_read_23 (by decide) (fun c_13 => absurd c_13 (by decide)) (fun c_13 => ?_)
      refine lv_aload_n hx hb dX8_read_26 rfl (lv_at hl 0 rfl) ?_
      refine lv_ldcw (v := (-1000000006)) hx hb hown (hu _ uw236) dX8_read_27 ?_
      refine xc_Vi (wr := [(qz, .inl (cS, 4, .inr (.inr (.inr (.inr (xSh s0 s1 s2 s3)))))), (s0, .inr (4, [.int 0, .int 0, .ref sn0])), (s1, .inr (4, [.int 0, .int 0, .ref sn1])), (s2, .inr (4, [.int 0, .int 0, .ref sn2])), (s3, .inr (4, [.int 0, .int 0, .ref sn3]))]) hF (c_X8_finding_M l D cI cJ cZ cS sa s.heap.size h0 qh qk qd qa qm qs qp ql qt qz qf 0 (fun _ => 0) ) kv_X8_80 ⟨rfl, rfl, Nat.le_of_ble_eq_true rfl, Nat.le_of_ble_eq_true rfl⟩ ⟨Nat.le_of_ble_eq_true rfl, Nat.le_of_ble_eq_true rfl⟩ hK hN hP hD hS hA [0, 6] [1, 2, 3, 4, 5] rfl rfl rfl rfl (by decide) 0 rfl rfl rfl rfl hl.1 rfl (Nat.le_of_ble_eq_true rfl) dX8_read_30 (fun r_14 u_r_14 H locs hw_r_14 hP hD hS => ?_)
      have hP : va_P D vwCl [(qz, .inl (cS, 4, .inr (.inr (.inr (.inr (xSh s0 s1 s2 s3)))))), (s0, .inr (4, [.int 0, .int 0, .ref sn0])), (s1, .inr (4, [.int 0, .int 0, .ref sn1])), (s2, .inr (4, [.int 0, .int 0, .ref sn2])), (s3, .inr (4, [.int 0, .int 0, .ref sn3]))] H := hP
      have hD : va_D A [(qz, .inl (cS, 4, .inr (.inr (.inr (.inr (xSh s0 s1 s2 s3)))))), (s0, .inr (4, [.int 0, .int 0, .ref sn0])), (s1, .inr (4, [.int 0, .int 0, .ref sn1])), (s2, .inr (4, [.int 0, .int 0, .ref sn2])), (s3, .inr (4, [.int 0, .int 0, .ref sn3]))] := hD
      subst hw_r_14
      exact W.iret (v := (-1000000006)) hx hb hr (fun t ht hW => ⟨⟨(-1000000006), (), rfl, (by first | rfl | decide | simp), by rw [ht]; exact hP.sub [] rfl, hD.sub [] (by decide) rfl⟩, hS.F ht⟩) hS.2.2 dX8_read_33 hlk
    · skip
      refine lv_aload_n hx hb dX8_read_14 rfl (lv_at hl 0 rfl) ?_
      refine xg hF kf_X8_66 hK hP 0 rfl rfl dX8_read_15 ?_
      refine lv_iload_n hx hb dX8_read_18 rfl (lv_at hl 1 rfl) ?_
      refine va_aldq hx hb hK hP 1 3 rfl rfl (xin 3 4 (by decide) (by decide)) dX8_read_19 ?_
      refine xl_v (w := .ref s3) rfl ?_
      refine xc_Vr hF (c_X4_isMissing l D cI cJ cZ cS sa s.heap.size s3 sn3 ) kv_X8_294 ⟨rfl, rfl, Nat.le_of_ble_eq_true rfl, Nat.le_of_ble_eq_true rfl⟩ ⟨Nat.le_of_ble_eq_true rfl, Nat.le_of_ble_eq_true rfl⟩ hK hN hP hD [5] rfl rfl 0 rfl rfl rfl rfl hl.1 rfl (Nat.le_of_ble_eq_true rfl) dX8_read_20 (fun r_15 hw_r_15 => ?_)
      subst hw_r_15
      refine lv_if_eq (tgt := 34) hx hb dX8_read_23 (by decide) (fun c_16 => absurd c_16 (by decide)) (fun c_16 => ?_)
      refine lv_aload_n hx hb dX8_read_26 rfl (lv_at hl 0 rfl) ?_
      refine lv_ldcw (v := (-1000000006)) hx hb hown (hu _ uw236) dX8_read_27 ?_
      refine xc_Vi (wr := [(qz, .inl (cS, 4, .inr (.inr (.inr (.inr (xSh s0 s1 s2 s3)))))), (s0, .inr (4, [.int 0, .int 0, .ref sn0])), (s1, .inr (4, [.int 0, .int 0, .ref sn1])), (s2, .inr (4, [.int 0, .int 0, .ref sn2])), (s3, .inr (4, [.int 0, .int 0, .ref sn3]))]) hF (c_X8_finding_M l D cI cJ cZ cS sa s.heap.size h0 qh qk qd qa qm qs qp ql qt qz qf 0 (fun _ => 0) ) kv_X8_80 ⟨rfl, rfl, Nat.le_of_ble_eq_true rfl, Nat.le_of_ble_eq_true rfl⟩ ⟨Nat.le_of_ble_eq_true rfl, Nat.le_of_ble_eq_true rfl⟩ hK hN hP hD hS hA [0, 6] [1, 2, 3, 4, 5] rfl rfl rfl rfl (by decide) 0 rfl rfl rfl rfl hl.1 rfl (Nat.le_of_ble_eq_true rfl) dX8_read_30 (fun r_17 u_r_17 H locs hw_r_17 hP hD hS => ?_)
      have hP : va_P D vwCl [(qz, .inl (cS, 4, .inr (.inr (.inr (.inr (xSh s0 s1 s2 s3)))))), (s0, .inr (4, [.int 0, .int 0, .ref sn0])), (s1, .inr (4, [.int 0, .int 0, .ref sn1])), (s2, .inr (4, [.int 0, .int 0, .ref sn2])), (s3, .inr (4, [.int 0, .int 0, .ref sn3]))] H := hP
      have hD : va_D A [(qz, .inl (cS, 4, .inr (.inr (.inr (.inr (xSh s0 s1 s2 s3)))))), (s0, .inr (4, [.int 0, .int 0, .ref sn0])), (s1, .inr (4, [.int 0, .int 0, .ref sn1])), (s2, .inr (4, [.int 0, .int 0, .ref sn2])), (s3, .inr (4, [.int 0, .int 0, .ref sn3]))] := hD
      subst hw_r_17
      exact W.iret (v := (-1000000006)) hx hb hr (fun t ht hW => ⟨⟨(-1000000006), (), rfl, (by first | rfl | decide | simp), by rw [ht]; exact hP.sub [] rfl, hD.sub [] (by decide) rfl⟩, hS.F ht⟩) hS.2.2 dX8_read_33 hlk
  · skip
    refine lv_if_ne (tgt := 14) hx hb dX8_read_4 (by decide) (fun c_18 => absurd (by decide) c_18) (fun c_18 => ?_)
    refine lv_aload_n hx hb dX8_read_7 rfl (lv_at hl 0 rfl) ?_
    refine lv_ldc (v := (-1000000001)) hx hb hown (hu _ uw4) dX8_read_8 ?_
    refine xc_Vi (wr := [(qz, .inl (cS, 4, .inr (.inr (.inr (.inr (xSh s0 s1 s2 s3)))))), (s0, .inr (4, [.int 0, .int 0, .ref sn0])), (s1, .inr (4, [.int 0, .int 0, .ref sn1])), (s2, .inr (4, [.int 0, .int 0, .ref sn2])), (s3, .inr (4, [.int 0, .int 0, .ref sn3]))]) hF (c_X8_finding_B l D cI cJ cZ cS sa s.heap.size h0 qh qk qd qa qm qs qp ql qt qz qf 0 (fun _ => 0) ) kv_X8_80 ⟨rfl, rfl, Nat.le_of_ble_eq_true rfl, Nat.le_of_ble_eq_true rfl⟩ ⟨Nat.le_of_ble_eq_true rfl, Nat.le_of_ble_eq_true rfl⟩ hK hN hP hD hS hA [0, 6] [1, 2, 3, 4, 5] rfl rfl rfl rfl (by decide) 0 rfl rfl rfl rfl hl.1 rfl (Nat.le_of_ble_eq_true rfl) dX8_read_10 (fun r_19 u_r_19 H locs hw_r_19 hP hD hS => ?_)
    have hP : va_P D vwCl [(qz, .inl (cS, 4, .inr (.inr (.inr (.inr (xSh s0 s1 s2 s3)))))), (s0, .inr (4, [.int 0, .int 0, .ref sn0])), (s1, .inr (4, [.int 0, .int 0, .ref sn1])), (s2, .inr (4, [.int 0, .int 0, .ref sn2])), (s3, .inr (4, [.int 0, .int 0, .ref sn3]))] H := hP
    have hD : va_D A [(qz, .inl (cS, 4, .inr (.inr (.inr (.inr (xSh s0 s1 s2 s3)))))), (s0, .inr (4, [.int 0, .int 0, .ref sn0])), (s1, .inr (4, [.int 0, .int 0, .ref sn1])), (s2, .inr (4, [.int 0, .int 0, .ref sn2])), (s3, .inr (4, [.int 0, .int 0, .ref sn3]))] := hD
    subst hw_r_19
    exact W.iret (v := (-1000000001)) hx hb hr (fun t ht hW => ⟨⟨(-1000000001), (), rfl, (if_pos h_4).symm, by rw [ht]; exact hP.sub [] rfl, hD.sub [] (by decide) rfl⟩, hS.F ht⟩) hS.2.2 dX8_read_13 hlk
set_option maxHeartbeats 4000000 in
set_option maxRecDepth 100000 in
theorem c_X8_write (l : Launch) (D : va_G) (cI cJ cZ cS : ClassId) (sa : Nat → Nat) (sz : Nat) (h0 : Nat) (qh : Nat) (qk : Nat) (qd : Nat) (qa : Nat) (qm : Nat) (qs : Nat) (qp : Nat) (ql : Nat) (qt : Nat) (qz : Nat) (qf : Nat) (s0 : Nat) (s1 : Nat) (s2 : Nat) (s3 : Nat) (sn0 : Nat) (sn1 : Nat) (sn2 : Nat) (sn3 : Nat) (p0 : Int32) (p1 : Int32) (p2 : Int64) : Met l yX8_write (Cond.code yX8_write cX8_write 8 (some .long) :: wsU) ({ frames := 2, cells := 0, slots := 0, locals := 42 }) (va_Pc [.ref h0, .int p0, .int p1, .long p2] (XW D (xT cI cJ cZ cS) sa [(h0, .inr (8, [.ref qh, .ref qk, .ref qd, .int 0, .ref qa, .ref qm, .ref qs, .ref qp, .ref ql, .ref qt, .ref qz, .ref qf])), (qz, .inl (cS, 4, .inr (.inr (.inr (.inr (xSh s0 s1 s2 s3)))))), (s0, .inr (4, [.int 0, .int 0, .ref sn0])), (s1, .inr (4, [.int 0, .int 0, .ref sn1])), (s2, .inr (4, [.int 0, .int 0, .ref sn2])), (s3, .inr (4, [.int 0, .int 0, .ref sn3])), (qf, .inl (cI, 7, .inl (fun _ => 0)))] sz)) (XQl (fun (r : Int64) (_ : Unit) => r = a_wr p0) D (fun _ : Unit => []) (va_A [(h0, .inr (8, [.ref qh, .ref qk, .ref qd, .int 0, .ref qa, .ref qm, .ref qs, .ref qp, .ref ql, .ref qt, .ref qz, .ref qf])), (qz, .inl (cS, 4, .inr (.inr (.inr (.inr (xSh s0 s1 s2 s3)))))), (s0, .inr (4, [.int 0, .int 0, .ref sn0])), (s1, .inr (4, [.int 0, .int 0, .ref sn1])), (s2, .inr (4, [.int 0, .int 0, .ref sn2])), (s3, .inr (4, [.int 0, .int 0, .ref sn3])), (qf, .inl (cI, 7, .inl (fun _ => 0)))] sz)) 0 0 (va_A [(h0, .inr (8, [.ref qh, .ref qk, .ref qd, .int 0, .ref qa, .ref qm, .ref qs, .ref qp, .ref ql, .ref qt, .ref qz, .ref qf])), (qz, .inl (cS, 4, .inr (.inr (.inr (.inr (xSh s0 s1 s2 s3)))))), (s0, .inr (4, [.int 0, .int 0, .ref sn0])), (s1, .inr (4, [.int 0, .int 0, .ref sn1])), (s2, .inr (4, [.int 0, .int 0, .ref sn2])), (s3, .inr (4, [.int 0, .int 0, .ref sn3])), (qf, .inl (cI, 7, .inl (fun _ => 0)))] sz) := by
  refine xhw (QA := fun A => XQl (fun (r : Int64) (_ : Unit) => r = a_wr p0) D (fun _ : Unit => []) A) (by decide) (Nat.le_of_ble_eq_true rfl) ?_
  intro p e s m below meth c ls A hF hr hlk hin hsz hP hK hD hN hA hS hl
  have hF : CallFix p m c cX8_write 8 s _ _ RX8 := hF
  have hx := hF.1
  have hb := hF.2.1
  have hml := hF.2.2.1
  have hown := hF.2.2.2.1
  have hu : ∀ w ∈ wsU, w.before _ s = true := fun w h => hF.2.2.2.2 w (List.mem_cons_of_mem _ h)
  have hl : lv_has ls 8 [(0, .ref h0), (1, .int p0), (2, .int p1), (3, .long p2)] := hl
  refine lv_iload_n hx hb dX8_write_0 rfl (lv_at hl 1 rfl) ?_
  refine xc_Sr hF (c_X8_isSheet l D cI cJ cZ cS sa s.heap.size p0 ) ks_X8_285 ⟨rfl, rfl, Nat.le_of_ble_eq_true rfl, Nat.le_of_ble_eq_true rfl⟩ ⟨Nat.le_of_ble_eq_true rfl, Nat.le_of_ble_eq_true rfl⟩ hK hN hP hD [] rfl rfl rfl hl.1 rfl (Nat.le_of_ble_eq_true rfl) dX8_write_1 (fun r_1 hw_r_1 => ?_)
  rcases hw_r_1 with ⟨rfl, h_2, h_3⟩ | ⟨rfl, h_4⟩
  · skip
    refine lv_if_ne (tgt := 15) hx hb dX8_write_4 (by decide) (fun c_5 => ?_) (fun c_5 => absurd c_5 (by decide))
    rcases x_i4 h_2 h_3 with rfl | rfl | rfl | rfl
    · skip
      refine lv_aload_n hx hb dX8_write_15 rfl (lv_at hl 0 rfl) ?_
      refine xg hF kf_X8_66 hK hP 0 rfl rfl dX8_write_16 ?_
      refine lv_iload_n hx hb dX8_write_19 rfl (lv_at hl 1 rfl) ?_
      refine va_aldq hx hb hK hP 1 3 rfl rfl (xin 0 4 (by decide) (by decide)) dX8_write_20 ?_
      refine xl_v (w := .ref s0) rfl ?_
      refine lv_astore (lv' := [(5, .ref s0), (0, .ref h0), (1, .int 0), (2, .int p1), (3, .long p2)]) hx hb dX8_write_21 hl (by decide) rfl (fun ls hl => ?_)
      refine lv_aload hx hb dX8_write_23 (lv_at hl 0 rfl) ?_
      refine xc_Vr hF (c_X4_isMissing l D cI cJ cZ cS sa s.heap.size s0 sn0 ) kv_X8_294 ⟨rfl, rfl, Nat.le_of_ble_eq_true rfl, Nat.le_of_ble_eq_true rfl⟩ ⟨Nat.le_of_ble_eq_true rfl, Nat.le_of_ble_eq_true rfl⟩ hK hN hP hD [2] rfl rfl 0 rfl rfl rfl rfl hl.1 rfl (Nat.le_of_ble_eq_true rfl) dX8_write_25 (fun r_6 hw_r_6 => ?_)
      subst hw_r_6
      refine lv_if_eq (tgt := 40) hx hb dX8_write_28 (by decide) (fun c_7 => absurd c_7 (by decide)) (fun c_7 => ?_)
      refine lv_aload_n hx hb dX8_write_31 rfl (lv_at hl 1 rfl) ?_
      refine lv_ldcw (v := (-1000000006)) hx hb hown (hu _ uw236) dX8_write_32 ?_
      refine xc_Vi (wr := [(qz, .inl (cS, 4, .inr (.inr (.inr (.inr (xSh s0 s1 s2 s3)))))), (s0, .inr (4, [.int 0, .int 0, .ref sn0])), (s1, .inr (4, [.int 0, .int 0, .ref sn1])), (s2, .inr (4, [.int 0, .int 0, .ref sn2])), (s3, .inr (4, [.int 0, .int 0, .ref sn3]))]) hF (c_X8_finding_M l D cI cJ cZ cS sa s.heap.size h0 qh qk qd qa qm qs qp ql qt qz qf 0 (fun _ => 0) ) kv_X8_80 ⟨rfl, rfl, Nat.le_of_ble_eq_true rfl, Nat.le_of_ble_eq_true rfl⟩ ⟨Nat.le_of_ble_eq_true rfl, Nat.le_of_ble_eq_true rfl⟩ hK hN hP hD hS hA [0, 6] [1, 2, 3, 4, 5] rfl rfl rfl rfl (by decide) 0 rfl rfl rfl rfl hl.1 rfl (Nat.le_of_ble_eq_true rfl) dX8_write_35 (fun r_8 u_r_8 H locs hw_r_8 hP hD hS => ?_)
      have hP : va_P D vwCl [(qz, .inl (cS, 4, .inr (.inr (.inr (.inr (xSh s0 s1 s2 s3)))))), (s0, .inr (4, [.int 0, .int 0, .ref sn0])), (s1, .inr (4, [.int 0, .int 0, .ref sn1])), (s2, .inr (4, [.int 0, .int 0, .ref sn2])), (s3, .inr (4, [.int 0, .int 0, .ref sn3]))] H := hP
      have hD : va_D A [(qz, .inl (cS, 4, .inr (.inr (.inr (.inr (xSh s0 s1 s2 s3)))))), (s0, .inr (4, [.int 0, .int 0, .ref sn0])), (s1, .inr (4, [.int 0, .int 0, .ref sn1])), (s2, .inr (4, [.int 0, .int 0, .ref sn2])), (s3, .inr (4, [.int 0, .int 0, .ref sn3]))] := hD
      subst hw_r_8
      refine lv_i2l (v := (-1000000006)) hx hb dX8_write_38 (by decide) ?_
      exact W.lret (v := (-1000000006)) hx hb hr (fun t ht hW => ⟨⟨(-1000000006), (), rfl, (by first | rfl | decide | simp), by rw [ht]; exact hP.sub [] rfl, hD.sub [] (by decide) rfl⟩, hS.F ht⟩) hS.2.2 dX8_write_39 hlk
    · skip
      refine lv_aload_n hx hb dX8_write_15 rfl (lv_at hl 0 rfl) ?_
      refine xg hF kf_X8_66 hK hP 0 rfl rfl dX8_write_16 ?_
      refine lv_iload_n hx hb dX8_write_19 rfl (lv_at hl 1 rfl) ?_
      refine va_aldq hx hb hK hP 1 3 rfl rfl (xin 1 4 (by decide) (by decide)) dX8_write_20 ?_
      refine xl_v (w := .ref s1) rfl ?_
      refine lv_astore (lv' := [(5, .ref s1), (0, .ref h0), (1, .int 1), (2, .int p1), (3, .long p2)]) hx hb dX8_write_21 hl (by decide) rfl (fun ls hl => ?_)
      refine lv_aload hx hb dX8_write_23 (lv_at hl 0 rfl) ?_
      refine xc_Vr hF (c_X4_isMissing l D cI cJ cZ cS sa s.heap.size s1 sn1 ) kv_X8_294 ⟨rfl, rfl, Nat.le_of_ble_eq_true rfl, Nat.le_of_ble_eq_true rfl⟩ ⟨Nat.le_of_ble_eq_true rfl, Nat.le_of_ble_eq_true rfl⟩ hK hN hP hD [3] rfl rfl 0 rfl rfl rfl rfl hl.1 rfl (Nat.le_of_ble_eq_true rfl) dX8_write_25 (fun r_9 hw_r_9 => ?_)
      subst hw_r_9
      refine lv_if_eq (tgt := 40) hx hb dX8_write_28 (by decide) (fun c_10 => absurd c_10 (by decide)) (fun c_10 => ?_)
      refine lv_aload_n hx hb dX8_write_31 rfl (lv_at hl 1 rfl) ?_
      refine lv_ldcw (v := (-1000000006)) hx hb hown (hu _ uw236) dX8_write_32 ?_
      refine xc_Vi (wr := [(qz, .inl (cS, 4, .inr (.inr (.inr (.inr (xSh s0 s1 s2 s3)))))), (s0, .inr (4, [.int 0, .int 0, .ref sn0])), (s1, .inr (4, [.int 0, .int 0, .ref sn1])), (s2, .inr (4, [.int 0, .int 0, .ref sn2])), (s3, .inr (4, [.int 0, .int 0, .ref sn3]))]) hF (c_X8_finding_M l D cI cJ cZ cS sa s.heap.size h0 qh qk qd qa qm qs qp ql qt qz qf 0 (fun _ => 0) ) kv_X8_80 ⟨rfl, rfl, Nat.le_of_ble_eq_true rfl, Nat.le_of_ble_eq_true rfl⟩ ⟨Nat.le_of_ble_eq_true rfl, Nat.le_of_ble_eq_true rfl⟩ hK hN hP hD hS hA [0, 6] [1, 2, 3, 4, 5] rfl rfl rfl rfl (by decide) 0 rfl rfl rfl rfl hl.1 rfl (Nat.le_of_ble_eq_true rfl) dX8_write_35 (fun r_11 u_r_11 H locs hw_r_11 hP hD hS => ?_)
      have hP : va_P D vwCl [(qz, .inl (cS, 4, .inr (.inr (.inr (.inr (xSh s0 s1 s2 s3)))))), (s0, .inr (4, [.int 0, .int 0, .ref sn0])), (s1, .inr (4, [.int 0, .int 0, .ref sn1])), (s2, .inr (4, [.int 0, .int 0, .ref sn2])), (s3, .inr (4, [.int 0, .int 0, .ref sn3]))] H := hP
      have hD : va_D A [(qz, .inl (cS, 4, .inr (.inr (.inr (.inr (xSh s0 s1 s2 s3)))))), (s0, .inr (4, [.int 0, .int 0, .ref sn0])), (s1, .inr (4, [.int 0, .int 0, .ref sn1])), (s2, .inr (4, [.int 0, .int 0, .ref sn2])), (s3, .inr (4, [.int 0, .int 0, .ref sn3]))] := hD
      subst hw_r_11
      refine lv_i2l (v := (-1000000006)) hx hb dX8_write_38 (by decide) ?_
      exact W.lret (v := (-1000000006)) hx hb hr (fun t ht hW => ⟨⟨(-1000000006), (), rfl, (by first | rfl | decide | simp), by rw [ht]; exact hP.sub [] rfl, hD.sub [] (by decide) rfl⟩, hS.F ht⟩) hS.2.2 dX8_write_39 hlk
    · skip
      refine lv_aload_n hx hb dX8_write_15 rfl (lv_at hl 0 rfl) ?_
      refine xg hF kf_X8_66 hK hP 0 rfl rfl dX8_write_16 ?_
      refine lv_iload_n hx hb dX8_write_19 rfl (lv_at hl 1 rfl) ?_
      refine va_aldq hx hb hK hP 1 3 rfl rfl (xin 2 4 (by decide) (by decide)) dX8_write_20 ?_
      refine xl_v (w := .ref s2) rfl ?_
      refine lv_astore (lv' := [(5, .ref s2), (0, .ref h0), (1, .int 2), (2, .int p1), (3, .long p2)]) hx hb dX8_write_21 hl (by decide) rfl (fun ls hl => ?_)
      refine lv_aload hx hb dX8_write_23 (lv_at hl 0 rfl) ?_
      refine xc_Vr hF (c_X4_isMissing l D cI cJ cZ cS sa s.heap.size s2 sn2 ) kv_X8_294 ⟨rfl, rfl, Nat.le_of_ble_eq_true rfl, Nat.le_of_ble_eq_true rfl⟩ ⟨Nat.le_of_ble_eq_true rfl, Nat.le_of_ble_eq_true rfl⟩ hK hN hP hD [4] rfl rfl 0 rfl rfl rfl rfl hl.1 rfl (Nat.le_of_ble_eq_true rfl) dX8_write_25 (fun r_12 hw_r_12 => ?_)
      subst hw_r_12
      refine lv_if_eq (tgt := 40) hx hb dX8_write_28 (by decide) (fun c_13 => absurd c_13 (by decide)) (fun c_13 => ?_)
      refine lv_aload_n hx hb dX8_write_31 rfl (lv_at hl 1 rfl) ?_
      refine lv_ldcw (v := (-1000000006)) hx hb hown (hu _ uw236) dX8_write_32 ?_
      refine xc_Vi (wr := [(qz, .inl (cS, 4, .inr (.inr (.inr (.inr (xSh s0 s1 s2 s3)))))), (s0, .inr (4, [.int 0, .int 0, .ref sn0])), (s1, .inr (4, [.int 0, .int 0, .ref sn1])), (s2, .inr (4, [.int 0, .int 0, .ref sn2])), (s3, .inr (4, [.int 0, .int 0, .ref sn3]))]) hF (c_X8_finding_M l D cI cJ cZ cS sa s.heap.size h0 qh qk qd qa qm qs qp ql qt qz qf 0 (fun _ => 0) ) kv_X8_80 ⟨rfl, rfl, Nat.le_of_ble_eq_true rfl, Nat.le_of_ble_eq_true rfl⟩ ⟨Nat.le_of_ble_eq_true rfl, Nat.le_of_ble_eq_true rfl⟩ hK hN hP hD hS hA [0, 6] [1, 2, 3, 4, 5] rfl rfl rfl rfl (by decide) 0 rfl rfl rfl rfl hl.1 rfl (Nat.le_of_ble_eq_true rfl) dX8_write_35 (fun r_14 u_r_14 H locs hw_r_14 hP hD hS => ?_)
      have hP : va_P D vwCl [(qz, .inl (cS, 4, .inr (.inr (.inr (.inr (xSh s0 s1 s2 s3)))))), (s0, .inr (4, [.int 0, .int 0, .ref sn0])), (s1, .inr (4, [.int 0, .int 0, .ref sn1])), (s2, .inr (4, [.int 0, .int 0, .ref sn2])), (s3, .inr (4, [.int 0, .int 0, .ref sn3]))] H := hP
      have hD : va_D A [(qz, .inl (cS, 4, .inr (.inr (.inr (.inr (xSh s0 s1 s2 s3)))))), (s0, .inr (4, [.int 0, .int 0, .ref sn0])), (s1, .inr (4, [.int 0, .int 0, .ref sn1])), (s2, .inr (4, [.int 0, .int 0, .ref sn2])), (s3, .inr (4, [.int 0, .int 0, .ref sn3]))] := hD
      subst hw_r_14
      refine lv_i2l (v := (-1000000006)) hx hb dX8_write_38 (by decide) ?_
      exact W.lret (v := (-1000000006)) hx hb hr (fun t ht hW => ⟨⟨(-1000000006), (), rfl, (by first | rfl | decide | simp), by rw [ht]; exact hP.sub [] rfl, hD.sub [] (by decide) rfl⟩, hS.F ht⟩) hS.2.2 dX8_write_39 hlk
    · skip
      refine lv_aload_n hx hb dX8_write_15 rfl (lv_at hl 0 rfl) ?_
      refine xg hF kf_X8_66 hK hP 0 rfl rfl dX8_write_16 ?_
      refine lv_iload_n hx hb dX8_write_19 rfl (lv_at hl 1 rfl) ?_
      refine va_aldq hx hb hK hP 1 3 rfl rfl (xin 3 4 (by decide) (by decide)) dX8_write_20 ?_
      refine xl_v (w := .ref s3) rfl ?_
      refine lv_astore (lv' := [(5, .ref s3), (0, .ref h0), (1, .int 3), (2, .int p1), (3, .long p2)]) hx hb dX8_write_21 hl (by decide) rfl (fun ls hl => ?_)
      refine lv_aload hx hb dX8_write_23 (lv_at hl 0 rfl) ?_
      refine xc_Vr hF (c_X4_isMissing l D cI cJ cZ cS sa s.heap.size s3 sn3 ) kv_X8_294 ⟨rfl, rfl, Nat.le_of_ble_eq_true rfl, Nat.le_of_ble_eq_true rfl⟩ ⟨Nat.le_of_ble_eq_true rfl, Nat.le_of_ble_eq_true rfl⟩ hK hN hP hD [5] rfl rfl 0 rfl rfl rfl rfl hl.1 rfl (Nat.le_of_ble_eq_true rfl) dX8_write_25 (fun r_15 hw_r_15 => ?_)
      subst hw_r_15
      refine lv_if_eq (tgt := 40) hx hb dX8_write_28 (by decide) (fun c_16 => absurd c_16 (by decide)) (fun c_16 => ?_)
      refine lv_aload_n hx hb dX8_write_31 rfl (lv_at hl 1 rfl) ?_
      refine lv_ldcw (v := (-1000000006)) hx hb hown (hu _ uw236) dX8_write_32 ?_
      refine xc_Vi (wr := [(qz, .inl (cS, 4, .inr (.inr (.inr (.inr (xSh s0 s1 s2 s3)))))), (s0, .inr (4, [.int 0, .int 0, .ref sn0])), (s1, .inr (4, [.int 0, .int 0, .ref sn1])), (s2, .inr (4, [.int 0, .int 0, .ref sn2])), (s3, .inr (4, [.int 0, .int 0, .ref sn3]))]) hF (c_X8_finding_M l D cI cJ cZ cS sa s.heap.size h0 qh qk qd qa qm qs qp ql qt qz qf 0 (fun _ => 0) ) kv_X8_80 ⟨rfl, rfl, Nat.le_of_ble_eq_true rfl, Nat.le_of_ble_eq_true rfl⟩ ⟨Nat.le_of_ble_eq_true rfl, Nat.le_of_ble_eq_true rfl⟩ hK hN hP hD hS hA [0, 6] [1, 2, 3, 4, 5] rfl rfl rfl rfl (by decide) 0 rfl rfl rfl rfl hl.1 rfl (Nat.le_of_ble_eq_true rfl) dX8_write_35 (fun r_17 u_r_17 H locs hw_r_17 hP hD hS => ?_)
      have hP : va_P D vwCl [(qz, .inl (cS, 4, .inr (.inr (.inr (.inr (xSh s0 s1 s2 s3)))))), (s0, .inr (4, [.int 0, .int 0, .ref sn0])), (s1, .inr (4, [.int 0, .int 0, .ref sn1])), (s2, .inr (4, [.int 0, .int 0, .ref sn2])), (s3, .inr (4, [.int 0, .int 0, .ref sn3]))] H := hP
      have hD : va_D A [(qz, .inl (cS, 4, .inr (.inr (.inr (.inr (xSh s0 s1 s2 s3)))))), (s0, .inr (4, [.int 0, .int 0, .ref sn0])), (s1, .inr (4, [.int 0, .int 0, .ref sn1])), (s2, .inr (4, [.int 0, .int 0, .ref sn2])), (s3, .inr (4, [.int 0, .int 0, .ref sn3]))] := hD
      subst hw_r_17
      refine lv_i2l (v := (-1000000006)) hx hb dX8_write_38 (by decide) ?_
      exact W.lret (v := (-1000000006)) hx hb hr (fun t ht hW => ⟨⟨(-1000000006), (), rfl, (by first | rfl | decide | simp), by rw [ht]; exact hP.sub [] rfl, hD.sub [] (by decide) rfl⟩, hS.F ht⟩) hS.2.2 dX8_write_39 hlk
  · skip
    refine lv_if_ne (tgt := 15) hx hb dX8_write_4 (by decide) (fun c_18 => absurd (by decide) c_18) (fun c_18 => ?_)
    refine lv_aload_n hx hb dX8_write_7 rfl (lv_at hl 0 rfl) ?_
    refine lv_ldc (v := (-1000000001)) hx hb hown (hu _ uw4) dX8_write_8 ?_
    refine xc_Vi (wr := [(qz, .inl (cS, 4, .inr (.inr (.inr (.inr (xSh s0 s1 s2 s3)))))), (s0, .inr (4, [.int 0, .int 0, .ref sn0])), (s1, .inr (4, [.int 0, .int 0, .ref sn1])), (s2, .inr (4, [.int 0, .int 0, .ref sn2])), (s3, .inr (4, [.int 0, .int 0, .ref sn3]))]) hF (c_X8_finding_B l D cI cJ cZ cS sa s.heap.size h0 qh qk qd qa qm qs qp ql qt qz qf 0 (fun _ => 0) ) kv_X8_80 ⟨rfl, rfl, Nat.le_of_ble_eq_true rfl, Nat.le_of_ble_eq_true rfl⟩ ⟨Nat.le_of_ble_eq_true rfl, Nat.le_of_ble_eq_true rfl⟩ hK hN hP hD hS hA [0, 6] [1, 2, 3, 4, 5] rfl rfl rfl rfl (by decide) 0 rfl rfl rfl rfl hl.1 rfl (Nat.le_of_ble_eq_true rfl) dX8_write_10 (fun r_19 u_r_19 H locs hw_r_19 hP hD hS => ?_)
    have hP : va_P D vwCl [(qz, .inl (cS, 4, .inr (.inr (.inr (.inr (xSh s0 s1 s2 s3)))))), (s0, .inr (4, [.int 0, .int 0, .ref sn0])), (s1, .inr (4, [.int 0, .int 0, .ref sn1])), (s2, .inr (4, [.int 0, .int 0, .ref sn2])), (s3, .inr (4, [.int 0, .int 0, .ref sn3]))] H := hP
    have hD : va_D A [(qz, .inl (cS, 4, .inr (.inr (.inr (.inr (xSh s0 s1 s2 s3)))))), (s0, .inr (4, [.int 0, .int 0, .ref sn0])), (s1, .inr (4, [.int 0, .int 0, .ref sn1])), (s2, .inr (4, [.int 0, .int 0, .ref sn2])), (s3, .inr (4, [.int 0, .int 0, .ref sn3]))] := hD
    subst hw_r_19
    refine lv_i2l (v := (-1000000001)) hx hb dX8_write_13 (by decide) ?_
    exact W.lret (v := (-1000000001)) hx hb hr (fun t ht hW => ⟨⟨(-1000000001), (), rfl, (if_pos h_4).symm, by rw [ht]; exact hP.sub [] rfl, hD.sub [] (by decide) rfl⟩, hS.F ht⟩) hS.2.2 dX8_write_14 hlk
set_option maxHeartbeats 4000000 in
set_option maxRecDepth 100000 in
theorem c_X8_copy (l : Launch) (D : va_G) (cI cJ cZ cS : ClassId) (sa : Nat → Nat) (sz : Nat) (h0 : Nat) (qh : Nat) (qk : Nat) (qd : Nat) (qa : Nat) (qm : Nat) (qs : Nat) (qp : Nat) (ql : Nat) (qt : Nat) (qz : Nat) (qf : Nat) (s0 : Nat) (s1 : Nat) (s2 : Nat) (s3 : Nat) (sn0 : Nat) (sn1 : Nat) (sn2 : Nat) (sn3 : Nat) (p0 : Int32) (p1 : Int32) (p2 : Int32) (p3 : Int32) (p4 : Int32) : Met l yX8_copy (Cond.code yX8_copy cX8_copy 8 (some .int) :: wsU) ({ frames := 2, cells := 0, slots := 0, locals := 42 }) (va_Pc [.ref h0, .int p0, .int p1, .int p2, .int p3, .int p4] (XW D (xT cI cJ cZ cS) sa [(h0, .inr (8, [.ref qh, .ref qk, .ref qd, .int 0, .ref qa, .ref qm, .ref qs, .ref qp, .ref ql, .ref qt, .ref qz, .ref qf])), (qz, .inl (cS, 4, .inr (.inr (.inr (.inr (xSh s0 s1 s2 s3)))))), (s0, .inr (4, [.int 0, .int 0, .ref sn0])), (s1, .inr (4, [.int 0, .int 0, .ref sn1])), (s2, .inr (4, [.int 0, .int 0, .ref sn2])), (s3, .inr (4, [.int 0, .int 0, .ref sn3])), (qf, .inl (cI, 7, .inl (fun _ => 0)))] sz)) (XQi (fun (r : Int32) (_ : Unit) => r = a_copy p0 p2) D (fun _ : Unit => []) (va_A [(h0, .inr (8, [.ref qh, .ref qk, .ref qd, .int 0, .ref qa, .ref qm, .ref qs, .ref qp, .ref ql, .ref qt, .ref qz, .ref qf])), (qz, .inl (cS, 4, .inr (.inr (.inr (.inr (xSh s0 s1 s2 s3)))))), (s0, .inr (4, [.int 0, .int 0, .ref sn0])), (s1, .inr (4, [.int 0, .int 0, .ref sn1])), (s2, .inr (4, [.int 0, .int 0, .ref sn2])), (s3, .inr (4, [.int 0, .int 0, .ref sn3])), (qf, .inl (cI, 7, .inl (fun _ => 0)))] sz)) 0 0 (va_A [(h0, .inr (8, [.ref qh, .ref qk, .ref qd, .int 0, .ref qa, .ref qm, .ref qs, .ref qp, .ref ql, .ref qt, .ref qz, .ref qf])), (qz, .inl (cS, 4, .inr (.inr (.inr (.inr (xSh s0 s1 s2 s3)))))), (s0, .inr (4, [.int 0, .int 0, .ref sn0])), (s1, .inr (4, [.int 0, .int 0, .ref sn1])), (s2, .inr (4, [.int 0, .int 0, .ref sn2])), (s3, .inr (4, [.int 0, .int 0, .ref sn3])), (qf, .inl (cI, 7, .inl (fun _ => 0)))] sz) := by
  refine xhw (QA := fun A => XQi (fun (r : Int32) (_ : Unit) => r = a_copy p0 p2) D (fun _ : Unit => []) A) (by decide) (Nat.le_of_ble_eq_true rfl) ?_
  intro p e s m below meth c ls A hF hr hlk hin hsz hP hK hD hN hA hS hl
  have hF : CallFix p m c cX8_copy 8 s _ _ RX8 := hF
  have hx := hF.1
  have hb := hF.2.1
  have hml := hF.2.2.1
  have hown := hF.2.2.2.1
  have hu : ∀ w ∈ wsU, w.before _ s = true := fun w h => hF.2.2.2.2 w (List.mem_cons_of_mem _ h)
  have hl : lv_has ls 8 [(0, .ref h0), (1, .int p0), (2, .int p1), (3, .int p2), (4, .int p3), (5, .int p4)] := hl
  refine lv_iload_n hx hb dX8_copy_0 rfl (lv_at hl 1 rfl) ?_
  refine xc_Sr hF (c_X8_isSheet l D cI cJ cZ cS sa s.heap.size p0 ) ks_X8_285 ⟨rfl, rfl, Nat.le_of_ble_eq_true rfl, Nat.le_of_ble_eq_true rfl⟩ ⟨Nat.le_of_ble_eq_true rfl, Nat.le_of_ble_eq_true rfl⟩ hK hN hP hD [] rfl rfl rfl hl.1 rfl (Nat.le_of_ble_eq_true rfl) dX8_copy_1 (fun r_1 hw_r_1 => ?_)
  rcases hw_r_1 with ⟨rfl, h_2, h_3⟩ | ⟨rfl, h_4⟩
  · skip
    refine lv_if_eq (tgt := 14) hx hb dX8_copy_4 (by decide) (fun c_5 => absurd c_5 (by decide)) (fun c_5 => ?_)
    refine lv_iload_n hx hb dX8_copy_7 rfl (lv_at hl 3 rfl) ?_
    refine xc_Sr hF (c_X8_isSheet l D cI cJ cZ cS sa s.heap.size p2 ) ks_X8_285 ⟨rfl, rfl, Nat.le_of_ble_eq_true rfl, Nat.le_of_ble_eq_true rfl⟩ ⟨Nat.le_of_ble_eq_true rfl, Nat.le_of_ble_eq_true rfl⟩ hK hN hP hD [] rfl rfl rfl hl.1 rfl (Nat.le_of_ble_eq_true rfl) dX8_copy_8 (fun r_6 hw_r_6 => ?_)
    rcases hw_r_6 with ⟨rfl, h_7, h_8⟩ | ⟨rfl, h_9⟩
    · skip
      refine lv_if_ne (tgt := 21) hx hb dX8_copy_11 (by decide) (fun c_10 => ?_) (fun c_10 => absurd c_10 (by decide))
      rcases x_i4 h_2 h_3 with rfl | rfl | rfl | rfl
      · skip
        refine lv_aload_n hx hb dX8_copy_21 rfl (lv_at hl 0 rfl) ?_
        refine xg hF kf_X8_66 hK hP 0 rfl rfl dX8_copy_22 ?_
        refine lv_iload_n hx hb dX8_copy_25 rfl (lv_at hl 1 rfl) ?_
        refine va_aldq hx hb hK hP 1 3 rfl rfl (xin 0 4 (by decide) (by decide)) dX8_copy_26 ?_
        refine xl_v (w := .ref s0) rfl ?_
        refine lv_astore (lv' := [(6, .ref s0), (0, .ref h0), (1, .int 0), (2, .int p1), (3, .int p2), (4, .int p3), (5, .int p4)]) hx hb dX8_copy_27 hl (by decide) rfl (fun ls hl => ?_)
        rcases x_i4 h_7 h_8 with rfl | rfl | rfl | rfl
        · skip
          refine lv_aload_n hx hb dX8_copy_29 rfl (lv_at hl 1 rfl) ?_
          refine xg hF kf_X8_66 hK hP 0 rfl rfl dX8_copy_30 ?_
          refine lv_iload_n hx hb dX8_copy_33 rfl (lv_at hl 4 rfl) ?_
          refine va_aldq hx hb hK hP 1 3 rfl rfl (xin 0 4 (by decide) (by decide)) dX8_copy_34 ?_
          refine xl_v (w := .ref s0) rfl ?_
          refine lv_astore (lv' := [(7, .ref s0), (6, .ref s0), (0, .ref h0), (1, .int 0), (2, .int p1), (3, .int 0), (4, .int p3), (5, .int p4)]) hx hb dX8_copy_35 hl (by decide) rfl (fun ls hl => ?_)
          refine lv_aload hx hb dX8_copy_37 (lv_at hl 1 rfl) ?_
          refine xc_Vr hF (c_X4_isMissing l D cI cJ cZ cS sa s.heap.size s0 sn0 ) kv_X8_294 ⟨rfl, rfl, Nat.le_of_ble_eq_true rfl, Nat.le_of_ble_eq_true rfl⟩ ⟨Nat.le_of_ble_eq_true rfl, Nat.le_of_ble_eq_true rfl⟩ hK hN hP hD [2] rfl rfl 0 rfl rfl rfl rfl hl.1 rfl (Nat.le_of_ble_eq_true rfl) dX8_copy_39 (fun r_11 hw_r_11 => ?_)
          subst hw_r_11
          refine lv_if_ne (tgt := 53) hx hb dX8_copy_42 (by decide) (fun c_12 => ?_) (fun c_12 => absurd c_12 (by decide))
          refine lv_aload_n hx hb dX8_copy_53 rfl (lv_at hl 2 rfl) ?_
          refine lv_ldcw (v := (-1000000006)) hx hb hown (hu _ uw236) dX8_copy_54 ?_
          refine xc_Vi (wr := [(qz, .inl (cS, 4, .inr (.inr (.inr (.inr (xSh s0 s1 s2 s3)))))), (s0, .inr (4, [.int 0, .int 0, .ref sn0])), (s1, .inr (4, [.int 0, .int 0, .ref sn1])), (s2, .inr (4, [.int 0, .int 0, .ref sn2])), (s3, .inr (4, [.int 0, .int 0, .ref sn3]))]) hF (c_X8_finding_M l D cI cJ cZ cS sa s.heap.size h0 qh qk qd qa qm qs qp ql qt qz qf 0 (fun _ => 0) ) kv_X8_80 ⟨rfl, rfl, Nat.le_of_ble_eq_true rfl, Nat.le_of_ble_eq_true rfl⟩ ⟨Nat.le_of_ble_eq_true rfl, Nat.le_of_ble_eq_true rfl⟩ hK hN hP hD hS hA [0, 6] [1, 2, 3, 4, 5] rfl rfl rfl rfl (by decide) 0 rfl rfl rfl rfl hl.1 rfl (Nat.le_of_ble_eq_true rfl) dX8_copy_57 (fun r_13 u_r_13 H locs hw_r_13 hP hD hS => ?_)
          have hP : va_P D vwCl [(qz, .inl (cS, 4, .inr (.inr (.inr (.inr (xSh s0 s1 s2 s3)))))), (s0, .inr (4, [.int 0, .int 0, .ref sn0])), (s1, .inr (4, [.int 0, .int 0, .ref sn1])), (s2, .inr (4, [.int 0, .int 0, .ref sn2])), (s3, .inr (4, [.int 0, .int 0, .ref sn3]))] H := hP
          have hD : va_D A [(qz, .inl (cS, 4, .inr (.inr (.inr (.inr (xSh s0 s1 s2 s3)))))), (s0, .inr (4, [.int 0, .int 0, .ref sn0])), (s1, .inr (4, [.int 0, .int 0, .ref sn1])), (s2, .inr (4, [.int 0, .int 0, .ref sn2])), (s3, .inr (4, [.int 0, .int 0, .ref sn3]))] := hD
          subst hw_r_13
          exact W.iret (v := (-1000000006)) hx hb hr (fun t ht hW => ⟨⟨(-1000000006), (), rfl, (by first | rfl | decide | simp), by rw [ht]; exact hP.sub [] rfl, hD.sub [] (by decide) rfl⟩, hS.F ht⟩) hS.2.2 dX8_copy_60 hlk
        · skip
          refine lv_aload_n hx hb dX8_copy_29 rfl (lv_at hl 1 rfl) ?_
          refine xg hF kf_X8_66 hK hP 0 rfl rfl dX8_copy_30 ?_
          refine lv_iload_n hx hb dX8_copy_33 rfl (lv_at hl 4 rfl) ?_
          refine va_aldq hx hb hK hP 1 3 rfl rfl (xin 1 4 (by decide) (by decide)) dX8_copy_34 ?_
          refine xl_v (w := .ref s1) rfl ?_
          refine lv_astore (lv' := [(7, .ref s1), (6, .ref s0), (0, .ref h0), (1, .int 0), (2, .int p1), (3, .int 1), (4, .int p3), (5, .int p4)]) hx hb dX8_copy_35 hl (by decide) rfl (fun ls hl => ?_)
          refine lv_aload hx hb dX8_copy_37 (lv_at hl 1 rfl) ?_
          refine xc_Vr hF (c_X4_isMissing l D cI cJ cZ cS sa s.heap.size s0 sn0 ) kv_X8_294 ⟨rfl, rfl, Nat.le_of_ble_eq_true rfl, Nat.le_of_ble_eq_true rfl⟩ ⟨Nat.le_of_ble_eq_true rfl, Nat.le_of_ble_eq_true rfl⟩ hK hN hP hD [2] rfl rfl 0 rfl rfl rfl rfl hl.1 rfl (Nat.le_of_ble_eq_true rfl) dX8_copy_39 (fun r_14 hw_r_14 => ?_)
          subst hw_r_14
          refine lv_if_ne (tgt := 53) hx hb dX8_copy_42 (by decide) (fun c_15 => ?_) (fun c_15 => absurd c_15 (by decide))
          refine lv_aload_n hx hb dX8_copy_53 rfl (lv_at hl 2 rfl) ?_
          refine lv_ldcw (v := (-1000000006)) hx hb hown (hu _ uw236) dX8_copy_54 ?_
          refine xc_Vi (wr := [(qz, .inl (cS, 4, .inr (.inr (.inr (.inr (xSh s0 s1 s2 s3)))))), (s0, .inr (4, [.int 0, .int 0, .ref sn0])), (s1, .inr (4, [.int 0, .int 0, .ref sn1])), (s2, .inr (4, [.int 0, .int 0, .ref sn2])), (s3, .inr (4, [.int 0, .int 0, .ref sn3]))]) hF (c_X8_finding_M l D cI cJ cZ cS sa s.heap.size h0 qh qk qd qa qm qs qp ql qt qz qf 0 (fun _ => 0) ) kv_X8_80 ⟨rfl, rfl, Nat.le_of_ble_eq_true rfl, Nat.le_of_ble_eq_true rfl⟩ ⟨Nat.le_of_ble_eq_true rfl, Nat.le_of_ble_eq_true rfl⟩ hK hN hP hD hS hA [0, 6] [1, 2, 3, 4, 5] rfl rfl rfl rfl (by decide) 0 rfl rfl rfl rfl hl.1 rfl (Nat.le_of_ble_eq_true rfl) dX8_copy_57 (fun r_16 u_r_16 H locs hw_r_16 hP hD hS => ?_)
          have hP : va_P D vwCl [(qz, .inl (cS, 4, .inr (.inr (.inr (.inr (xSh s0 s1 s2 s3)))))), (s0, .inr (4, [.int 0, .int 0, .ref sn0])), (s1, .inr (4, [.int 0, .int 0, .ref sn1])), (s2, .inr (4, [.int 0, .int 0, .ref sn2])), (s3, .inr (4, [.int 0, .int 0, .ref sn3]))] H := hP
          have hD : va_D A [(qz, .inl (cS, 4, .inr (.inr (.inr (.inr (xSh s0 s1 s2 s3)))))), (s0, .inr (4, [.int 0, .int 0, .ref sn0])), (s1, .inr (4, [.int 0, .int 0, .ref sn1])), (s2, .inr (4, [.int 0, .int 0, .ref sn2])), (s3, .inr (4, [.int 0, .int 0, .ref sn3]))] := hD
          subst hw_r_16
          exact W.iret (v := (-1000000006)) hx hb hr (fun t ht hW => ⟨⟨(-1000000006), (), rfl, (by first | rfl | decide | simp), by rw [ht]; exact hP.sub [] rfl, hD.sub [] (by decide) rfl⟩, hS.F ht⟩) hS.2.2 dX8_copy_60 hlk
        · skip
          refine lv_aload_n hx hb dX8_copy_29 rfl (lv_at hl 1 rfl) ?_
          refine xg hF kf_X8_66 hK hP 0 rfl rfl dX8_copy_30 ?_
          refine lv_iload_n hx hb dX8_copy_33 rfl (lv_at hl 4 rfl) ?_
          refine va_aldq hx hb hK hP 1 3 rfl rfl (xin 2 4 (by decide) (by decide)) dX8_copy_34 ?_
          refine xl_v (w := .ref s2) rfl ?_
          refine lv_astore (lv' := [(7, .ref s2), (6, .ref s0), (0, .ref h0), (1, .int 0), (2, .int p1), (3, .int 2), (4, .int p3), (5, .int p4)]) hx hb dX8_copy_35 hl (by decide) rfl (fun ls hl => ?_)
          refine lv_aload hx hb dX8_copy_37 (lv_at hl 1 rfl) ?_
          refine xc_Vr hF (c_X4_isMissing l D cI cJ cZ cS sa s.heap.size s0 sn0 ) kv_X8_294 ⟨rfl, rfl, Nat.le_of_ble_eq_true rfl, Nat.le_of_ble_eq_true rfl⟩ ⟨Nat.le_of_ble_eq_true rfl, Nat.le_of_ble_eq_true rfl⟩ hK hN hP hD [2] rfl rfl 0 rfl rfl rfl rfl hl.1 rfl (Nat.le_of_ble_eq_true rfl) dX8_copy_39 (fun r_17 hw_r_17 => ?_)
          subst hw_r_17
          refine lv_if_ne (tgt := 53) hx hb dX8_copy_42 (by decide) (fun c_18 => ?_) (fun c_18 => absurd c_18 (by decide))
          refine lv_aload_n hx hb dX8_copy_53 rfl (lv_at hl 2 rfl) ?_
          refine lv_ldcw (v := (-1000000006)) hx hb hown (hu _ uw236) dX8_copy_54 ?_
          refine xc_Vi (wr := [(qz, .inl (cS, 4, .inr (.inr (.inr (.inr (xSh s0 s1 s2 s3)))))), (s0, .inr (4, [.int 0, .int 0, .ref sn0])), (s1, .inr (4, [.int 0, .int 0, .ref sn1])), (s2, .inr (4, [.int 0, .int 0, .ref sn2])), (s3, .inr (4, [.int 0, .int 0, .ref sn3]))]) hF (c_X8_finding_M l D cI cJ cZ cS sa s.heap.size h0 qh qk qd qa qm qs qp ql qt qz qf 0 (fun _ => 0) ) kv_X8_80 ⟨rfl, rfl, Nat.le_of_ble_eq_true rfl, Nat.le_of_ble_eq_true rfl⟩ ⟨Nat.le_of_ble_eq_true rfl, Nat.le_of_ble_eq_true rfl⟩ hK hN hP hD hS hA [0, 6] [1, 2, 3, 4, 5] rfl rfl rfl rfl (by decide) 0 rfl rfl rfl rfl hl.1 rfl (Nat.le_of_ble_eq_true rfl) dX8_copy_57 (fun r_19 u_r_19 H locs hw_r_19 hP hD hS => ?_)
          have hP : va_P D vwCl [(qz, .inl (cS, 4, .inr (.inr (.inr (.inr (xSh s0 s1 s2 s3)))))), (s0, .inr (4, [.int 0, .int 0, .ref sn0])), (s1, .inr (4, [.int 0, .int 0, .ref sn1])), (s2, .inr (4, [.int 0, .int 0, .ref sn2])), (s3, .inr (4, [.int 0, .int 0, .ref sn3]))] H := hP
          have hD : va_D A [(qz, .inl (cS, 4, .inr (.inr (.inr (.inr (xSh s0 s1 s2 s3)))))), (s0, .inr (4, [.int 0, .int 0, .ref sn0])), (s1, .inr (4, [.int 0, .int 0, .ref sn1])), (s2, .inr (4, [.int 0, .int 0, .ref sn2])), (s3, .inr (4, [.int 0, .int 0, .ref sn3]))] := hD
          subst hw_r_19
          exact W.iret (v := (-1000000006)) hx hb hr (fun t ht hW => ⟨⟨(-1000000006), (), rfl, (by first | rfl | decide | simp), by rw [ht]; exact hP.sub [] rfl, hD.sub [] (by decide) rfl⟩, hS.F ht⟩) hS.2.2 dX8_copy_60 hlk
        · skip
          refine lv_aload_n hx hb dX8_copy_29 rfl (lv_at hl 1 rfl) ?_
          refine xg hF kf_X8_66 hK hP 0 rfl rfl dX8_copy_30 ?_
          refine lv_iload_n hx hb dX8_copy_33 rfl (lv_at hl 4 rfl) ?_
          refine va_aldq hx hb hK hP 1 3 rfl rfl (xin 3 4 (by decide) (by decide)) dX8_copy_34 ?_
          refine xl_v (w := .ref s3) rfl ?_
          refine lv_astore (lv' := [(7, .ref s3), (6, .ref s0), (0, .ref h0), (1, .int 0), (2, .int p1), (3, .int 3), (4, .int p3), (5, .int p4)]) hx hb dX8_copy_35 hl (by decide) rfl (fun ls hl => ?_)
          refine lv_aload hx hb dX8_copy_37 (lv_at hl 1 rfl) ?_
          refine xc_Vr hF (c_X4_isMissing l D cI cJ cZ cS sa s.heap.size s0 sn0 ) kv_X8_294 ⟨rfl, rfl, Nat.le_of_ble_eq_true rfl, Nat.le_of_ble_eq_true rfl⟩ ⟨Nat.le_of_ble_eq_true rfl, Nat.le_of_ble_eq_true rfl⟩ hK hN hP hD [2] rfl rfl 0 rfl rfl rfl rfl hl.1 rfl (Nat.le_of_ble_eq_true rfl) dX8_copy_39 (fun r_20 hw_r_20 => ?_)
          subst hw_r_20
          refine lv_if_ne (tgt := 53) hx hb dX8_copy_42 (by decide) (fun c_21 => ?_) (fun c_21 => absurd c_21 (by decide))
          refine lv_aload_n hx hb dX8_copy_53 rfl (lv_at hl 2 rfl) ?_
          refine lv_ldcw (v := (-1000000006)) hx hb hown (hu _ uw236) dX8_copy_54 ?_
          refine xc_Vi (wr := [(qz, .inl (cS, 4, .inr (.inr (.inr (.inr (xSh s0 s1 s2 s3)))))), (s0, .inr (4, [.int 0, .int 0, .ref sn0])), (s1, .inr (4, [.int 0, .int 0, .ref sn1])), (s2, .inr (4, [.int 0, .int 0, .ref sn2])), (s3, .inr (4, [.int 0, .int 0, .ref sn3]))]) hF (c_X8_finding_M l D cI cJ cZ cS sa s.heap.size h0 qh qk qd qa qm qs qp ql qt qz qf 0 (fun _ => 0) ) kv_X8_80 ⟨rfl, rfl, Nat.le_of_ble_eq_true rfl, Nat.le_of_ble_eq_true rfl⟩ ⟨Nat.le_of_ble_eq_true rfl, Nat.le_of_ble_eq_true rfl⟩ hK hN hP hD hS hA [0, 6] [1, 2, 3, 4, 5] rfl rfl rfl rfl (by decide) 0 rfl rfl rfl rfl hl.1 rfl (Nat.le_of_ble_eq_true rfl) dX8_copy_57 (fun r_22 u_r_22 H locs hw_r_22 hP hD hS => ?_)
          have hP : va_P D vwCl [(qz, .inl (cS, 4, .inr (.inr (.inr (.inr (xSh s0 s1 s2 s3)))))), (s0, .inr (4, [.int 0, .int 0, .ref sn0])), (s1, .inr (4, [.int 0, .int 0, .ref sn1])), (s2, .inr (4, [.int 0, .int 0, .ref sn2])), (s3, .inr (4, [.int 0, .int 0, .ref sn3]))] H := hP
          have hD : va_D A [(qz, .inl (cS, 4, .inr (.inr (.inr (.inr (xSh s0 s1 s2 s3)))))), (s0, .inr (4, [.int 0, .int 0, .ref sn0])), (s1, .inr (4, [.int 0, .int 0, .ref sn1])), (s2, .inr (4, [.int 0, .int 0, .ref sn2])), (s3, .inr (4, [.int 0, .int 0, .ref sn3]))] := hD
          subst hw_r_22
          exact W.iret (v := (-1000000006)) hx hb hr (fun t ht hW => ⟨⟨(-1000000006), (), rfl, (by first | rfl | decide | simp), by rw [ht]; exact hP.sub [] rfl, hD.sub [] (by decide) rfl⟩, hS.F ht⟩) hS.2.2 dX8_copy_60 hlk
      · skip
        refine lv_aload_n hx hb dX8_copy_21 rfl (lv_at hl 0 rfl) ?_
        refine xg hF kf_X8_66 hK hP 0 rfl rfl dX8_copy_22 ?_
        refine lv_iload_n hx hb dX8_copy_25 rfl (lv_at hl 1 rfl) ?_
        refine va_aldq hx hb hK hP 1 3 rfl rfl (xin 1 4 (by decide) (by decide)) dX8_copy_26 ?_
        refine xl_v (w := .ref s1) rfl ?_
        refine lv_astore (lv' := [(6, .ref s1), (0, .ref h0), (1, .int 1), (2, .int p1), (3, .int p2), (4, .int p3), (5, .int p4)]) hx hb dX8_copy_27 hl (by decide) rfl (fun ls hl => ?_)
        rcases x_i4 h_7 h_8 with rfl | rfl | rfl | rfl
        · skip
          refine lv_aload_n hx hb dX8_copy_29 rfl (lv_at hl 1 rfl) ?_
          refine xg hF kf_X8_66 hK hP 0 rfl rfl dX8_copy_30 ?_
          refine lv_iload_n hx hb dX8_copy_33 rfl (lv_at hl 4 rfl) ?_
          refine va_aldq hx hb hK hP 1 3 rfl rfl (xin 0 4 (by decide) (by decide)) dX8_copy_34 ?_
          refine xl_v (w := .ref s0) rfl ?_
          refine lv_astore (lv' := [(7, .ref s0), (6, .ref s1), (0, .ref h0), (1, .int 1), (2, .int p1), (3, .int 0), (4, .int p3), (5, .int p4)]) hx hb dX8_copy_35 hl (by decide) rfl (fun ls hl => ?_)
          refine lv_aload hx hb dX8_copy_37 (lv_at hl 1 rfl) ?_
          refine xc_Vr hF (c_X4_isMissing l D cI cJ cZ cS sa s.heap.size s1 sn1 ) kv_X8_294 ⟨rfl, rfl, Nat.le_of_ble_eq_true rfl, Nat.le_of_ble_eq_true rfl⟩ ⟨Nat.le_of_ble_eq_true rfl, Nat.le_of_ble_eq_true rfl⟩ hK hN hP hD [3] rfl rfl 0 rfl rfl rfl rfl hl.1 rfl (Nat.le_of_ble_eq_true rfl) dX8_copy_39 (fun r_23 hw_r_23 => ?_)
          subst hw_r_23
          refine lv_if_ne (tgt := 53) hx hb dX8_copy_42 (by decide) (fun c_24 => ?_) (fun c_24 => absurd c_24 (by decide))
          refine lv_aload_n hx hb dX8_copy_53 rfl (lv_at hl 2 rfl) ?_
          refine lv_ldcw (v := (-1000000006)) hx hb hown (hu _ uw236) dX8_copy_54 ?_
          refine xc_Vi (wr := [(qz, .inl (cS, 4, .inr (.inr (.inr (.inr (xSh s0 s1 s2 s3)))))), (s0, .inr (4, [.int 0, .int 0, .ref sn0])), (s1, .inr (4, [.int 0, .int 0, .ref sn1])), (s2, .inr (4, [.int 0, .int 0, .ref sn2])), (s3, .inr (4, [.int 0, .int 0, .ref sn3]))]) hF (c_X8_finding_M l D cI cJ cZ cS sa s.heap.size h0 qh qk qd qa qm qs qp ql qt qz qf 0 (fun _ => 0) ) kv_X8_80 ⟨rfl, rfl, Nat.le_of_ble_eq_true rfl, Nat.le_of_ble_eq_true rfl⟩ ⟨Nat.le_of_ble_eq_true rfl, Nat.le_of_ble_eq_true rfl⟩ hK hN hP hD hS hA [0, 6] [1, 2, 3, 4, 5] rfl rfl rfl rfl (by decide) 0 rfl rfl rfl rfl hl.1 rfl (Nat.le_of_ble_eq_true rfl) dX8_copy_57 (fun r_25 u_r_25 H locs hw_r_25 hP hD hS => ?_)
          have hP : va_P D vwCl [(qz, .inl (cS, 4, .inr (.inr (.inr (.inr (xSh s0 s1 s2 s3)))))), (s0, .inr (4, [.int 0, .int 0, .ref sn0])), (s1, .inr (4, [.int 0, .int 0, .ref sn1])), (s2, .inr (4, [.int 0, .int 0, .ref sn2])), (s3, .inr (4, [.int 0, .int 0, .ref sn3]))] H := hP
          have hD : va_D A [(qz, .inl (cS, 4, .inr (.inr (.inr (.inr (xSh s0 s1 s2 s3)))))), (s0, .inr (4, [.int 0, .int 0, .ref sn0])), (s1, .inr (4, [.int 0, .int 0, .ref sn1])), (s2, .inr (4, [.int 0, .int 0, .ref sn2])), (s3, .inr (4, [.int 0, .int 0, .ref sn3]))] := hD
          subst hw_r_25
          exact W.iret (v := (-1000000006)) hx hb hr (fun t ht hW => ⟨⟨(-1000000006), (), rfl, (by first | rfl | decide | simp), by rw [ht]; exact hP.sub [] rfl, hD.sub [] (by decide) rfl⟩, hS.F ht⟩) hS.2.2 dX8_copy_60 hlk
        · skip
          refine lv_aload_n hx hb dX8_copy_29 rfl (lv_at hl 1 rfl) ?_
          refine xg hF kf_X8_66 hK hP 0 rfl rfl dX8_copy_30 ?_
          refine lv_iload_n hx hb dX8_copy_33 rfl (lv_at hl 4 rfl) ?_
          refine va_aldq hx hb hK hP 1 3 rfl rfl (xin 1 4 (by decide) (by decide)) dX8_copy_34 ?_
          refine xl_v (w := .ref s1) rfl ?_
          refine lv_astore (lv' := [(7, .ref s1), (6, .ref s1), (0, .ref h0), (1, .int 1), (2, .int p1), (3, .int 1), (4, .int p3), (5, .int p4)]) hx hb dX8_copy_35 hl (by decide) rfl (fun ls hl => ?_)
          refine lv_aload hx hb dX8_copy_37 (lv_at hl 1 rfl) ?_
          refine xc_Vr hF (c_X4_isMissing l D cI cJ cZ cS sa s.heap.size s1 sn1 ) kv_X8_294 ⟨rfl, rfl, Nat.le_of_ble_eq_true rfl, Nat.le_of_ble_eq_true rfl⟩ ⟨Nat.le_of_ble_eq_true rfl, Nat.le_of_ble_eq_true rfl⟩ hK hN hP hD [3] rfl rfl 0 rfl rfl rfl rfl hl.1 rfl (Nat.le_of_ble_eq_true rfl) dX8_copy_39 (fun r_26 hw_r_26 => ?_)
          subst hw_r_26
          refine lv_if_ne (tgt := 53) hx hb dX8_copy_42 (by decide) (fun c_27 => ?_) (fun c_27 => absurd c_27 (by decide))
          refine lv_aload_n hx hb dX8_copy_53 rfl (lv_at hl 2 rfl) ?_
          refine lv_ldcw (v := (-1000000006)) hx hb hown (hu _ uw236) dX8_copy_54 ?_
          refine xc_Vi (wr := [(qz, .inl (cS, 4, .inr (.inr (.inr (.inr (xSh s0 s1 s2 s3)))))), (s0, .inr (4, [.int 0, .int 0, .ref sn0])), (s1, .inr (4, [.int 0, .int 0, .ref sn1])), (s2, .inr (4, [.int 0, .int 0, .ref sn2])), (s3, .inr (4, [.int 0, .int 0, .ref sn3]))]) hF (c_X8_finding_M l D cI cJ cZ cS sa s.heap.size h0 qh qk qd qa qm qs qp ql qt qz qf 0 (fun _ => 0) ) kv_X8_80 ⟨rfl, rfl, Nat.le_of_ble_eq_true rfl, Nat.le_of_ble_eq_true rfl⟩ ⟨Nat.le_of_ble_eq_true rfl, Nat.le_of_ble_eq_true rfl⟩ hK hN hP hD hS hA [0, 6] [1, 2, 3, 4, 5] rfl rfl rfl rfl (by decide) 0 rfl rfl rfl rfl hl.1 rfl (Nat.le_of_ble_eq_true rfl) dX8_copy_57 (fun r_28 u_r_28 H locs hw_r_28 hP hD hS => ?_)
          have hP : va_P D vwCl [(qz, .inl (cS, 4, .inr (.inr (.inr (.inr (xSh s0 s1 s2 s3)))))), (s0, .inr (4, [.int 0, .int 0, .ref sn0])), (s1, .inr (4, [.int 0, .int 0, .ref sn1])), (s2, .inr (4, [.int 0, .int 0, .ref sn2])), (s3, .inr (4, [.int 0, .int 0, .ref sn3]))] H := hP
          have hD : va_D A [(qz, .inl (cS, 4, .inr (.inr (.inr (.inr (xSh s0 s1 s2 s3)))))), (s0, .inr (4, [.int 0, .int 0, .ref sn0])), (s1, .inr (4, [.int 0, .int 0, .ref sn1])), (s2, .inr (4, [.int 0, .int 0, .ref sn2])), (s3, .inr (4, [.int 0, .int 0, .ref sn3]))] := hD
          subst hw_r_28
          exact W.iret (v := (-1000000006)) hx hb hr (fun t ht hW => ⟨⟨(-1000000006), (), rfl, (by first | rfl | decide | simp), by rw [ht]; exact hP.sub [] rfl, hD.sub [] (by decide) rfl⟩, hS.F ht⟩) hS.2.2 dX8_copy_60 hlk
        · skip
          refine lv_aload_n hx hb dX8_copy_29 rfl (lv_at hl 1 rfl) ?_
          refine xg hF kf_X8_66 hK hP 0 rfl rfl dX8_copy_30 ?_
          refine lv_iload_n hx hb dX8_copy_33 rfl (lv_at hl 4 rfl) ?_
          refine va_aldq hx hb hK hP 1 3 rfl rfl (xin 2 4 (by decide) (by decide)) dX8_copy_34 ?_
          refine xl_v (w := .ref s2) rfl ?_
          refine lv_astore (lv' := [(7, .ref s2), (6, .ref s1), (0, .ref h0), (1, .int 1), (2, .int p1), (3, .int 2), (4, .int p3), (5, .int p4)]) hx hb dX8_copy_35 hl (by decide) rfl (fun ls hl => ?_)
          refine lv_aload hx hb dX8_copy_37 (lv_at hl 1 rfl) ?_
          refine xc_Vr hF (c_X4_isMissing l D cI cJ cZ cS sa s.heap.size s1 sn1 ) kv_X8_294 ⟨rfl, rfl, Nat.le_of_ble_eq_true rfl, Nat.le_of_ble_eq_true rfl⟩ ⟨Nat.le_of_ble_eq_true rfl, Nat.le_of_ble_eq_true rfl⟩ hK hN hP hD [3] rfl rfl 0 rfl rfl rfl rfl hl.1 rfl (Nat.le_of_ble_eq_true rfl) dX8_copy_39 (fun r_29 hw_r_29 => ?_)
          subst hw_r_29
          refine lv_if_ne (tgt := 53) hx hb dX8_copy_42 (by decide) (fun c_30 => ?_) (fun c_30 => absurd c_30 (by decide))
          refine lv_aload_n hx hb dX8_copy_53 rfl (lv_at hl 2 rfl) ?_
          refine lv_ldcw (v := (-1000000006)) hx hb hown (hu _ uw236) dX8_copy_54 ?_
          refine xc_Vi (wr := [(qz, .inl (cS, 4, .inr (.inr (.inr (.inr (xSh s0 s1 s2 s3)))))), (s0, .inr (4, [.int 0, .int 0, .ref sn0])), (s1, .inr (4, [.int 0, .int 0, .ref sn1])), (s2, .inr (4, [.int 0, .int 0, .ref sn2])), (s3, .inr (4, [.int 0, .int 0, .ref sn3]))]) hF (c_X8_finding_M l D cI cJ cZ cS sa s.heap.size h0 qh qk qd qa qm qs qp ql qt qz qf 0 (fun _ => 0) ) kv_X8_80 ⟨rfl, rfl, Nat.le_of_ble_eq_true rfl, Nat.le_of_ble_eq_true rfl⟩ ⟨Nat.le_of_ble_eq_true rfl, Nat.le_of_ble_eq_true rfl⟩ hK hN hP hD hS hA [0, 6] [1, 2, 3, 4, 5] rfl rfl rfl rfl (by decide) 0 rfl rfl rfl rfl hl.1 rfl (Nat.le_of_ble_eq_true rfl) dX8_copy_57 (fun r_31 u_r_31 H locs hw_r_31 hP hD hS => ?_)
          have hP : va_P D vwCl [(qz, .inl (cS, 4, .inr (.inr (.inr (.inr (xSh s0 s1 s2 s3)))))), (s0, .inr (4, [.int 0, .int 0, .ref sn0])), (s1, .inr (4, [.int 0, .int 0, .ref sn1])), (s2, .inr (4, [.int 0, .int 0, .ref sn2])), (s3, .inr (4, [.int 0, .int 0, .ref sn3]))] H := hP
          have hD : va_D A [(qz, .inl (cS, 4, .inr (.inr (.inr (.inr (xSh s0 s1 s2 s3)))))), (s0, .inr (4, [.int 0, .int 0, .ref sn0])), (s1, .inr (4, [.int 0, .int 0, .ref sn1])), (s2, .inr (4, [.int 0, .int 0, .ref sn2])), (s3, .inr (4, [.int 0, .int 0, .ref sn3]))] := hD
          subst hw_r_31
          exact W.iret (v := (-1000000006)) hx hb hr (fun t ht hW => ⟨⟨(-1000000006), (), rfl, (by first | rfl | decide | simp), by rw [ht]; exact hP.sub [] rfl, hD.sub [] (by decide) rfl⟩, hS.F ht⟩) hS.2.2 dX8_copy_60 hlk
        · skip
          refine lv_aload_n hx hb dX8_copy_29 rfl (lv_at hl 1 rfl) ?_
          refine xg hF kf_X8_66 hK hP 0 rfl rfl dX8_copy_30 ?_
          refine lv_iload_n hx hb dX8_copy_33 rfl (lv_at hl 4 rfl) ?_
          refine va_aldq hx hb hK hP 1 3 rfl rfl (xin 3 4 (by decide) (by decide)) dX8_copy_34 ?_
          refine xl_v (w := .ref s3) rfl ?_
          refine lv_astore (lv' := [(7, .ref s3), (6, .ref s1), (0, .ref h0), (1, .int 1), (2, .int p1), (3, .int 3), (4, .int p3), (5, .int p4)]) hx hb dX8_copy_35 hl (by decide) rfl (fun ls hl => ?_)
          refine lv_aload hx hb dX8_copy_37 (lv_at hl 1 rfl) ?_
          refine xc_Vr hF (c_X4_isMissing l D cI cJ cZ cS sa s.heap.size s1 sn1 ) kv_X8_294 ⟨rfl, rfl, Nat.le_of_ble_eq_true rfl, Nat.le_of_ble_eq_true rfl⟩ ⟨Nat.le_of_ble_eq_true rfl, Nat.le_of_ble_eq_true rfl⟩ hK hN hP hD [3] rfl rfl 0 rfl rfl rfl rfl hl.1 rfl (Nat.le_of_ble_eq_true rfl) dX8_copy_39 (fun r_32 hw_r_32 => ?_)
          subst hw_r_32
          refine lv_if_ne (tgt := 53) hx hb dX8_copy_42 (by decide) (fun c_33 => ?_) (fun c_33 => absurd c_33 (by decide))
          refine lv_aload_n hx hb dX8_copy_53 rfl (lv_at hl 2 rfl) ?_
          refine lv_ldcw (v := (-1000000006)) hx hb hown (hu _ uw236) dX8_copy_54 ?_
          refine xc_Vi (wr := [(qz, .inl (cS, 4, .inr (.inr (.inr (.inr (xSh s0 s1 s2 s3)))))), (s0, .inr (4, [.int 0, .int 0, .ref sn0])), (s1, .inr (4, [.int 0, .int 0, .ref sn1])), (s2, .inr (4, [.int 0, .int 0, .ref sn2])), (s3, .inr (4, [.int 0, .int 0, .ref sn3]))]) hF (c_X8_finding_M l D cI cJ cZ cS sa s.heap.size h0 qh qk qd qa qm qs qp ql qt qz qf 0 (fun _ => 0) ) kv_X8_80 ⟨rfl, rfl, Nat.le_of_ble_eq_true rfl, Nat.le_of_ble_eq_true rfl⟩ ⟨Nat.le_of_ble_eq_true rfl, Nat.le_of_ble_eq_true rfl⟩ hK hN hP hD hS hA [0, 6] [1, 2, 3, 4, 5] rfl rfl rfl rfl (by decide) 0 rfl rfl rfl rfl hl.1 rfl (Nat.le_of_ble_eq_true rfl) dX8_copy_57 (fun r_34 u_r_34 H locs hw_r_34 hP hD hS => ?_)
          have hP : va_P D vwCl [(qz, .inl (cS, 4, .inr (.inr (.inr (.inr (xSh s0 s1 s2 s3)))))), (s0, .inr (4, [.int 0, .int 0, .ref sn0])), (s1, .inr (4, [.int 0, .int 0, .ref sn1])), (s2, .inr (4, [.int 0, .int 0, .ref sn2])), (s3, .inr (4, [.int 0, .int 0, .ref sn3]))] H := hP
          have hD : va_D A [(qz, .inl (cS, 4, .inr (.inr (.inr (.inr (xSh s0 s1 s2 s3)))))), (s0, .inr (4, [.int 0, .int 0, .ref sn0])), (s1, .inr (4, [.int 0, .int 0, .ref sn1])), (s2, .inr (4, [.int 0, .int 0, .ref sn2])), (s3, .inr (4, [.int 0, .int 0, .ref sn3]))] := hD
          subst hw_r_34
          exact W.iret (v := (-1000000006)) hx hb hr (fun t ht hW => ⟨⟨(-1000000006), (), rfl, (by first | rfl | decide | simp), by rw [ht]; exact hP.sub [] rfl, hD.sub [] (by decide) rfl⟩, hS.F ht⟩) hS.2.2 dX8_copy_60 hlk
      · skip
        refine lv_aload_n hx hb dX8_copy_21 rfl (lv_at hl 0 rfl) ?_
        refine xg hF kf_X8_66 hK hP 0 rfl rfl dX8_copy_22 ?_
        refine lv_iload_n hx hb dX8_copy_25 rfl (lv_at hl 1 rfl) ?_
        refine va_aldq hx hb hK hP 1 3 rfl rfl (xin 2 4 (by decide) (by decide)) dX8_copy_26 ?_
        refine xl_v (w := .ref s2) rfl ?_
        refine lv_astore (lv' := [(6, .ref s2), (0, .ref h0), (1, .int 2), (2, .int p1), (3, .int p2), (4, .int p3), (5, .int p4)]) hx hb dX8_copy_27 hl (by decide) rfl (fun ls hl => ?_)
        rcases x_i4 h_7 h_8 with rfl | rfl | rfl | rfl
        · skip
          refine lv_aload_n hx hb dX8_copy_29 rfl (lv_at hl 1 rfl) ?_
          refine xg hF kf_X8_66 hK hP 0 rfl rfl dX8_copy_30 ?_
          refine lv_iload_n hx hb dX8_copy_33 rfl (lv_at hl 4 rfl) ?_
          refine va_aldq hx hb hK hP 1 3 rfl rfl (xin 0 4 (by decide) (by decide)) dX8_copy_34 ?_
          refine xl_v (w := .ref s0) rfl ?_
          refine lv_astore (lv' := [(7, .ref s0), (6, .ref s2), (0, .ref h0), (1, .int 2), (2, .int p1), (3, .int 0), (4, .int p3), (5, .int p4)]) hx hb dX8_copy_35 hl (by decide) rfl (fun ls hl => ?_)
          refine lv_aload hx hb dX8_copy_37 (lv_at hl 1 rfl) ?_
          refine xc_Vr hF (c_X4_isMissing l D cI cJ cZ cS sa s.heap.size s2 sn2 ) kv_X8_294 ⟨rfl, rfl, Nat.le_of_ble_eq_true rfl, Nat.le_of_ble_eq_true rfl⟩ ⟨Nat.le_of_ble_eq_true rfl, Nat.le_of_ble_eq_true rfl⟩ hK hN hP hD [4] rfl rfl 0 rfl rfl rfl rfl hl.1 rfl (Nat.le_of_ble_eq_true rfl) dX8_copy_39 (fun r_35 hw_r_35 => ?_)
          subst hw_r_35
          refine lv_if_ne (tgt := 53) hx hb dX8_copy_42 (by decide) (fun c_36 => ?_) (fun c_36 => absurd c_36 (by decide))
          refine lv_aload_n hx hb dX8_copy_53 rfl (lv_at hl 2 rfl) ?_
          refine lv_ldcw (v := (-1000000006)) hx hb hown (hu _ uw236) dX8_copy_54 ?_
          refine xc_Vi (wr := [(qz, .inl (cS, 4, .inr (.inr (.inr (.inr (xSh s0 s1 s2 s3)))))), (s0, .inr (4, [.int 0, .int 0, .ref sn0])), (s1, .inr (4, [.int 0, .int 0, .ref sn1])), (s2, .inr (4, [.int 0, .int 0, .ref sn2])), (s3, .inr (4, [.int 0, .int 0, .ref sn3]))]) hF (c_X8_finding_M l D cI cJ cZ cS sa s.heap.size h0 qh qk qd qa qm qs qp ql qt qz qf 0 (fun _ => 0) ) kv_X8_80 ⟨rfl, rfl, Nat.le_of_ble_eq_true rfl, Nat.le_of_ble_eq_true rfl⟩ ⟨Nat.le_of_ble_eq_true rfl, Nat.le_of_ble_eq_true rfl⟩ hK hN hP hD hS hA [0, 6] [1, 2, 3, 4, 5] rfl rfl rfl rfl (by decide) 0 rfl rfl rfl rfl hl.1 rfl (Nat.le_of_ble_eq_true rfl) dX8_copy_57 (fun r_37 u_r_37 H locs hw_r_37 hP hD hS => ?_)
          have hP : va_P D vwCl [(qz, .inl (cS, 4, .inr (.inr (.inr (.inr (xSh s0 s1 s2 s3)))))), (s0, .inr (4, [.int 0, .int 0, .ref sn0])), (s1, .inr (4, [.int 0, .int 0, .ref sn1])), (s2, .inr (4, [.int 0, .int 0, .ref sn2])), (s3, .inr (4, [.int 0, .int 0, .ref sn3]))] H := hP
          have hD : va_D A [(qz, .inl (cS, 4, .inr (.inr (.inr (.inr (xSh s0 s1 s2 s3)))))), (s0, .inr (4, [.int 0, .int 0, .ref sn0])), (s1, .inr (4, [.int 0, .int 0, .ref sn1])), (s2, .inr (4, [.int 0, .int 0, .ref sn2])), (s3, .inr (4, [.int 0, .int 0, .ref sn3]))] := hD
          subst hw_r_37
          exact W.iret (v := (-1000000006)) hx hb hr (fun t ht hW => ⟨⟨(-1000000006), (), rfl, (by first | rfl | decide | simp), by rw [ht]; exact hP.sub [] rfl, hD.sub [] (by decide) rfl⟩, hS.F ht⟩) hS.2.2 dX8_copy_60 hlk
        · skip
          refine lv_aload_n hx hb dX8_copy_29 rfl (lv_at hl 1 rfl) ?_
          refine xg hF kf_X8_66 hK hP 0 rfl rfl dX8_copy_30 ?_
          refine lv_iload_n hx hb dX8_copy_33 rfl (lv_at hl 4 rfl) ?_
          refine va_aldq hx hb hK hP 1 3 rfl rfl (xin 1 4 (by decide) (by decide)) dX8_copy_34 ?_
          refine xl_v (w := .ref s1) rfl ?_
          refine lv_astore (lv' := [(7, .ref s1), (6, .ref s2), (0, .ref h0), (1, .int 2), (2, .int p1), (3, .int 1), (4, .int p3), (5, .int p4)]) hx hb dX8_copy_35 hl (by decide) rfl (fun ls hl => ?_)
          refine lv_aload hx hb dX8_copy_37 (lv_at hl 1 rfl) ?_
          refine xc_Vr hF (c_X4_isMissing l D cI cJ cZ cS sa s.heap.size s2 sn2 ) kv_X8_294 ⟨rfl, rfl, Nat.le_of_ble_eq_true rfl, Nat.le_of_ble_eq_true rfl⟩ ⟨Nat.le_of_ble_eq_true rfl, Nat.le_of_ble_eq_true rfl⟩ hK hN hP hD [4] rfl rfl 0 rfl rfl rfl rfl hl.1 rfl (Nat.le_of_ble_eq_true rfl) dX8_copy_39 (fun r_38 hw_r_38 => ?_)
          subst hw_r_38
          refine lv_if_ne (tgt := 53) hx hb dX8_copy_42 (by decide) (fun c_39 => ?_) (fun c_39 => absurd c_39 (by decide))
          refine lv_aload_n hx hb dX8_copy_53 rfl (lv_at hl 2 rfl) ?_
          refine lv_ldcw (v := (-1000000006)) hx hb hown (hu _ uw236) dX8_copy_54 ?_
          refine xc_Vi (wr := [(qz, .inl (cS, 4, .inr (.inr (.inr (.inr (xSh s0 s1 s2 s3)))))), (s0, .inr (4, [.int 0, .int 0, .ref sn0])), (s1, .inr (4, [.int 0, .int 0, .ref sn1])), (s2, .inr (4, [.int 0, .int 0, .ref sn2])), (s3, .inr (4, [.int 0, .int 0, .ref sn3]))]) hF (c_X8_finding_M l D cI cJ cZ cS sa s.heap.size h0 qh qk qd qa qm qs qp ql qt qz qf 0 (fun _ => 0) ) kv_X8_80 ⟨rfl, rfl, Nat.le_of_ble_eq_true rfl, Nat.le_of_ble_eq_true rfl⟩ ⟨Nat.le_of_ble_eq_true rfl, Nat.le_of_ble_eq_true rfl⟩ hK hN hP hD hS hA [0, 6] [1, 2, 3, 4, 5] rfl rfl rfl rfl (by decide) 0 rfl rfl rfl rfl hl.1 rfl (Nat.le_of_ble_eq_true rfl) dX8_copy_57 (fun r_40 u_r_40 H locs hw_r_40 hP hD hS => ?_)
          have hP : va_P D vwCl [(qz, .inl (cS, 4, .inr (.inr (.inr (.inr (xSh s0 s1 s2 s3)))))), (s0, .inr (4, [.int 0, .int 0, .ref sn0])), (s1, .inr (4, [.int 0, .int 0, .ref sn1])), (s2, .inr (4, [.int 0, .int 0, .ref sn2])), (s3, .inr (4, [.int 0, .int 0, .ref sn3]))] H := hP
          have hD : va_D A [(qz, .inl (cS, 4, .inr (.inr (.inr (.inr (xSh s0 s1 s2 s3)))))), (s0, .inr (4, [.int 0, .int 0, .ref sn0])), (s1, .inr (4, [.int 0, .int 0, .ref sn1])), (s2, .inr (4, [.int 0, .int 0, .ref sn2])), (s3, .inr (4, [.int 0, .int 0, .ref sn3]))] := hD
          subst hw_r_40
          exact W.iret (v := (-1000000006)) hx hb hr (fun t ht hW => ⟨⟨(-1000000006), (), rfl, (by first | rfl | decide | simp), by rw [ht]; exact hP.sub [] rfl, hD.sub [] (by decide) rfl⟩, hS.F ht⟩) hS.2.2 dX8_copy_60 hlk
        · skip
          refine lv_aload_n hx hb dX8_copy_29 rfl (lv_at hl 1 rfl) ?_
          refine xg hF kf_X8_66 hK hP 0 rfl rfl dX8_copy_30 ?_
          refine lv_iload_n hx hb dX8_copy_33 rfl (lv_at hl 4 rfl) ?_
          refine va_aldq hx hb hK hP 1 3 rfl rfl (xin 2 4 (by decide) (by decide)) dX8_copy_34 ?_
          refine xl_v (w := .ref s2) rfl ?_
          refine lv_astore (lv' := [(7, .ref s2), (6, .ref s2), (0, .ref h0), (1, .int 2), (2, .int p1), (3, .int 2), (4, .int p3), (5, .int p4)]) hx hb dX8_copy_35 hl (by decide) rfl (fun ls hl => ?_)
          refine lv_aload hx hb dX8_copy_37 (lv_at hl 1 rfl) ?_
          refine xc_Vr hF (c_X4_isMissing l D cI cJ cZ cS sa s.heap.size s2 sn2 ) kv_X8_294 ⟨rfl, rfl, Nat.le_of_ble_eq_true rfl, Nat.le_of_ble_eq_true rfl⟩ ⟨Nat.le_of_ble_eq_true rfl, Nat.le_of_ble_eq_true rfl⟩ hK hN hP hD [4] rfl rfl 0 rfl rfl rfl rfl hl.1 rfl (Nat.le_of_ble_eq_true rfl) dX8_copy_39 (fun r_41 hw_r_41 => ?_)
          subst hw_r_41
          refine lv_if_ne (tgt := 53) hx hb dX8_copy_42 (by decide) (fun c_42 => ?_) (fun c_42 => absurd c_42 (by decide))
          refine lv_aload_n hx hb dX8_copy_53 rfl (lv_at hl 2 rfl) ?_
          refine lv_ldcw (v := (-1000000006)) hx hb hown (hu _ uw236) dX8_copy_54 ?_
          refine xc_Vi (wr := [(qz, .inl (cS, 4, .inr (.inr (.inr (.inr (xSh s0 s1 s2 s3)))))), (s0, .inr (4, [.int 0, .int 0, .ref sn0])), (s1, .inr (4, [.int 0, .int 0, .ref sn1])), (s2, .inr (4, [.int 0, .int 0, .ref sn2])), (s3, .inr (4, [.int 0, .int 0, .ref sn3]))]) hF (c_X8_finding_M l D cI cJ cZ cS sa s.heap.size h0 qh qk qd qa qm qs qp ql qt qz qf 0 (fun _ => 0) ) kv_X8_80 ⟨rfl, rfl, Nat.le_of_ble_eq_true rfl, Nat.le_of_ble_eq_true rfl⟩ ⟨Nat.le_of_ble_eq_true rfl, Nat.le_of_ble_eq_true rfl⟩ hK hN hP hD hS hA [0, 6] [1, 2, 3, 4, 5] rfl rfl rfl rfl (by decide) 0 rfl rfl rfl rfl hl.1 rfl (Nat.le_of_ble_eq_true rfl) dX8_copy_57 (fun r_43 u_r_43 H locs hw_r_43 hP hD hS => ?_)
          have hP : va_P D vwCl [(qz, .inl (cS, 4, .inr (.inr (.inr (.inr (xSh s0 s1 s2 s3)))))), (s0, .inr (4, [.int 0, .int 0, .ref sn0])), (s1, .inr (4, [.int 0, .int 0, .ref sn1])), (s2, .inr (4, [.int 0, .int 0, .ref sn2])), (s3, .inr (4, [.int 0, .int 0, .ref sn3]))] H := hP
          have hD : va_D A [(qz, .inl (cS, 4, .inr (.inr (.inr (.inr (xSh s0 s1 s2 s3)))))), (s0, .inr (4, [.int 0, .int 0, .ref sn0])), (s1, .inr (4, [.int 0, .int 0, .ref sn1])), (s2, .inr (4, [.int 0, .int 0, .ref sn2])), (s3, .inr (4, [.int 0, .int 0, .ref sn3]))] := hD
          subst hw_r_43
          exact W.iret (v := (-1000000006)) hx hb hr (fun t ht hW => ⟨⟨(-1000000006), (), rfl, (by first | rfl | decide | simp), by rw [ht]; exact hP.sub [] rfl, hD.sub [] (by decide) rfl⟩, hS.F ht⟩) hS.2.2 dX8_copy_60 hlk
        · skip
          refine lv_aload_n hx hb dX8_copy_29 rfl (lv_at hl 1 rfl) ?_
          refine xg hF kf_X8_66 hK hP 0 rfl rfl dX8_copy_30 ?_
          refine lv_iload_n hx hb dX8_copy_33 rfl (lv_at hl 4 rfl) ?_
          refine va_aldq hx hb hK hP 1 3 rfl rfl (xin 3 4 (by decide) (by decide)) dX8_copy_34 ?_
          refine xl_v (w := .ref s3) rfl ?_
          refine lv_astore (lv' := [(7, .ref s3), (6, .ref s2), (0, .ref h0), (1, .int 2), (2, .int p1), (3, .int 3), (4, .int p3), (5, .int p4)]) hx hb dX8_copy_35 hl (by decide) rfl (fun ls hl => ?_)
          refine lv_aload hx hb dX8_copy_37 (lv_at hl 1 rfl) ?_
          refine xc_Vr hF (c_X4_isMissing l D cI cJ cZ cS sa s.heap.size s2 sn2 ) kv_X8_294 ⟨rfl, rfl, Nat.le_of_ble_eq_true rfl, Nat.le_of_ble_eq_true rfl⟩ ⟨Nat.le_of_ble_eq_true rfl, Nat.le_of_ble_eq_true rfl⟩ hK hN hP hD [4] rfl rfl 0 rfl rfl rfl rfl hl.1 rfl (Nat.le_of_ble_eq_true rfl) dX8_copy_39 (fun r_44 hw_r_44 => ?_)
          subst hw_r_44
          refine lv_if_ne (tgt := 53) hx hb dX8_copy_42 (by decide) (fun c_45 => ?_) (fun c_45 => absurd c_45 (by decide))
          refine lv_aload_n hx hb dX8_copy_53 rfl (lv_at hl 2 rfl) ?_
          refine lv_ldcw (v := (-1000000006)) hx hb hown (hu _ uw236) dX8_copy_54 ?_
          refine xc_Vi (wr := [(qz, .inl (cS, 4, .inr (.inr (.inr (.inr (xSh s0 s1 s2 s3)))))), (s0, .inr (4, [.int 0, .int 0, .ref sn0])), (s1, .inr (4, [.int 0, .int 0, .ref sn1])), (s2, .inr (4, [.int 0, .int 0, .ref sn2])), (s3, .inr (4, [.int 0, .int 0, .ref sn3]))]) hF (c_X8_finding_M l D cI cJ cZ cS sa s.heap.size h0 qh qk qd qa qm qs qp ql qt qz qf 0 (fun _ => 0) ) kv_X8_80 ⟨rfl, rfl, Nat.le_of_ble_eq_true rfl, Nat.le_of_ble_eq_true rfl⟩ ⟨Nat.le_of_ble_eq_true rfl, Nat.le_of_ble_eq_true rfl⟩ hK hN hP hD hS hA [0, 6] [1, 2, 3, 4, 5] rfl rfl rfl rfl (by decide) 0 rfl rfl rfl rfl hl.1 rfl (Nat.le_of_ble_eq_true rfl) dX8_copy_57 (fun r_46 u_r_46 H locs hw_r_46 hP hD hS => ?_)
          have hP : va_P D vwCl [(qz, .inl (cS, 4, .inr (.inr (.inr (.inr (xSh s0 s1 s2 s3)))))), (s0, .inr (4, [.int 0, .int 0, .ref sn0])), (s1, .inr (4, [.int 0, .int 0, .ref sn1])), (s2, .inr (4, [.int 0, .int 0, .ref sn2])), (s3, .inr (4, [.int 0, .int 0, .ref sn3]))] H := hP
          have hD : va_D A [(qz, .inl (cS, 4, .inr (.inr (.inr (.inr (xSh s0 s1 s2 s3)))))), (s0, .inr (4, [.int 0, .int 0, .ref sn0])), (s1, .inr (4, [.int 0, .int 0, .ref sn1])), (s2, .inr (4, [.int 0, .int 0, .ref sn2])), (s3, .inr (4, [.int 0, .int 0, .ref sn3]))] := hD
          subst hw_r_46
          exact W.iret (v := (-1000000006)) hx hb hr (fun t ht hW => ⟨⟨(-1000000006), (), rfl, (by first | rfl | decide | simp), by rw [ht]; exact hP.sub [] rfl, hD.sub [] (by decide) rfl⟩, hS.F ht⟩) hS.2.2 dX8_copy_60 hlk
      · skip
        refine lv_aload_n hx hb dX8_copy_21 rfl (lv_at hl 0 rfl) ?_
        refine xg hF kf_X8_66 hK hP 0 rfl rfl dX8_copy_22 ?_
        refine lv_iload_n hx hb dX8_copy_25 rfl (lv_at hl 1 rfl) ?_
        refine va_aldq hx hb hK hP 1 3 rfl rfl (xin 3 4 (by decide) (by decide)) dX8_copy_26 ?_
        refine xl_v (w := .ref s3) rfl ?_
        refine lv_astore (lv' := [(6, .ref s3), (0, .ref h0), (1, .int 3), (2, .int p1), (3, .int p2), (4, .int p3), (5, .int p4)]) hx hb dX8_copy_27 hl (by decide) rfl (fun ls hl => ?_)
        rcases x_i4 h_7 h_8 with rfl | rfl | rfl | rfl
        · skip
          refine lv_aload_n hx hb dX8_copy_29 rfl (lv_at hl 1 rfl) ?_
          refine xg hF kf_X8_66 hK hP 0 rfl rfl dX8_copy_30 ?_
          refine lv_iload_n hx hb dX8_copy_33 rfl (lv_at hl 4 rfl) ?_
          refine va_aldq hx hb hK hP 1 3 rfl rfl (xin 0 4 (by decide) (by decide)) dX8_copy_34 ?_
          refine xl_v (w := .ref s0) rfl ?_
          refine lv_astore (lv' := [(7, .ref s0), (6, .ref s3), (0, .ref h0), (1, .int 3), (2, .int p1), (3, .int 0), (4, .int p3), (5, .int p4)]) hx hb dX8_copy_35 hl (by decide) rfl (fun ls hl => ?_)
          refine lv_aload hx hb dX8_copy_37 (lv_at hl 1 rfl) ?_
          refine xc_Vr hF (c_X4_isMissing l D cI cJ cZ cS sa s.heap.size s3 sn3 ) kv_X8_294 ⟨rfl, rfl, Nat.le_of_ble_eq_true rfl, Nat.le_of_ble_eq_true rfl⟩ ⟨Nat.le_of_ble_eq_true rfl, Nat.le_of_ble_eq_true rfl⟩ hK hN hP hD [5] rfl rfl 0 rfl rfl rfl rfl hl.1 rfl (Nat.le_of_ble_eq_true rfl) dX8_copy_39 (fun r_47 hw_r_47 => ?_)
          subst hw_r_47
          refine lv_if_ne (tgt := 53) hx hb dX8_copy_42 (by decide) (fun c_48 => ?_) (fun c_48 => absurd c_48 (by decide))
          refine lv_aload_n hx hb dX8_copy_53 rfl (lv_at hl 2 rfl) ?_
          refine lv_ldcw (v := (-1000000006)) hx hb hown (hu _ uw236) dX8_copy_54 ?_
          refine xc_Vi (wr := [(qz, .inl (cS, 4, .inr (.inr (.inr (.inr (xSh s0 s1 s2 s3)))))), (s0, .inr (4, [.int 0, .int 0, .ref sn0])), (s1, .inr (4, [.int 0, .int 0, .ref sn1])), (s2, .inr (4, [.int 0, .int 0, .ref sn2])), (s3, .inr (4, [.int 0, .int 0, .ref sn3]))]) hF (c_X8_finding_M l D cI cJ cZ cS sa s.heap.size h0 qh qk qd qa qm qs qp ql qt qz qf 0 (fun _ => 0) ) kv_X8_80 ⟨rfl, rfl, Nat.le_of_ble_eq_true rfl, Nat.le_of_ble_eq_true rfl⟩ ⟨Nat.le_of_ble_eq_true rfl, Nat.le_of_ble_eq_true rfl⟩ hK hN hP hD hS hA [0, 6] [1, 2, 3, 4, 5] rfl rfl rfl rfl (by decide) 0 rfl rfl rfl rfl hl.1 rfl (Nat.le_of_ble_eq_true rfl) dX8_copy_57 (fun r_49 u_r_49 H locs hw_r_49 hP hD hS => ?_)
          have hP : va_P D vwCl [(qz, .inl (cS, 4, .inr (.inr (.inr (.inr (xSh s0 s1 s2 s3)))))), (s0, .inr (4, [.int 0, .int 0, .ref sn0])), (s1, .inr (4, [.int 0, .int 0, .ref sn1])), (s2, .inr (4, [.int 0, .int 0, .ref sn2])), (s3, .inr (4, [.int 0, .int 0, .ref sn3]))] H := hP
          have hD : va_D A [(qz, .inl (cS, 4, .inr (.inr (.inr (.inr (xSh s0 s1 s2 s3)))))), (s0, .inr (4, [.int 0, .int 0, .ref sn0])), (s1, .inr (4, [.int 0, .int 0, .ref sn1])), (s2, .inr (4, [.int 0, .int 0, .ref sn2])), (s3, .inr (4, [.int 0, .int 0, .ref sn3]))] := hD
          subst hw_r_49
          exact W.iret (v := (-1000000006)) hx hb hr (fun t ht hW => ⟨⟨(-1000000006), (), rfl, (by first | rfl | decide | simp), by rw [ht]; exact hP.sub [] rfl, hD.sub [] (by decide) rfl⟩, hS.F ht⟩) hS.2.2 dX8_copy_60 hlk
        · skip
          refine lv_aload_n hx hb dX8_copy_29 rfl (lv_at hl 1 rfl) ?_
          refine xg hF kf_X8_66 hK hP 0 rfl rfl dX8_copy_30 ?_
          refine lv_iload_n hx hb dX8_copy_33 rfl (lv_at hl 4 rfl) ?_
          refine va_aldq hx hb hK hP 1 3 rfl rfl (xin 1 4 (by decide) (by decide)) dX8_copy_34 ?_
          refine xl_v (w := .ref s1) rfl ?_
          refine lv_astore (lv' := [(7, .ref s1), (6, .ref s3), (0, .ref h0), (1, .int 3), (2, .int p1), (3, .int 1), (4, .int p3), (5, .int p4)]) hx hb dX8_copy_35 hl (by decide) rfl (fun ls hl => ?_)
          refine lv_aload hx hb dX8_copy_37 (lv_at hl 1 rfl) ?_
          refine xc_Vr hF (c_X4_isMissing l D cI cJ cZ cS sa s.heap.size s3 sn3 ) kv_X8_294 ⟨rfl, rfl, Nat.le_of_ble_eq_true rfl, Nat.le_of_ble_eq_true rfl⟩ ⟨Nat.le_of_ble_eq_true rfl, Nat.le_of_ble_eq_true rfl⟩ hK hN hP hD [5] rfl rfl 0 rfl rfl rfl rfl hl.1 rfl (Nat.le_of_ble_eq_true rfl) dX8_copy_39 (fun r_50 hw_r_50 => ?_)
          subst hw_r_50
          refine lv_if_ne (tgt := 53) hx hb dX8_copy_42 (by decide) (fun c_51 => ?_) (fun c_51 => absurd c_51 (by decide))
          refine lv_aload_n hx hb dX8_copy_53 rfl (lv_at hl 2 rfl) ?_
          refine lv_ldcw (v := (-1000000006)) hx hb hown (hu _ uw236) dX8_copy_54 ?_
          refine xc_Vi (wr := [(qz, .inl (cS, 4, .inr (.inr (.inr (.inr (xSh s0 s1 s2 s3)))))), (s0, .inr (4, [.int 0, .int 0, .ref sn0])), (s1, .inr (4, [.int 0, .int 0, .ref sn1])), (s2, .inr (4, [.int 0, .int 0, .ref sn2])), (s3, .inr (4, [.int 0, .int 0, .ref sn3]))]) hF (c_X8_finding_M l D cI cJ cZ cS sa s.heap.size h0 qh qk qd qa qm qs qp ql qt qz qf 0 (fun _ => 0) ) kv_X8_80 ⟨rfl, rfl, Nat.le_of_ble_eq_true rfl, Nat.le_of_ble_eq_true rfl⟩ ⟨Nat.le_of_ble_eq_true rfl, Nat.le_of_ble_eq_true rfl⟩ hK hN hP hD hS hA [0, 6] [1, 2, 3, 4, 5] rfl rfl rfl rfl (by decide) 0 rfl rfl rfl rfl hl.1 rfl (Nat.le_of_ble_eq_true rfl) dX8_copy_57 (fun r_52 u_r_52 H locs hw_r_52 hP hD hS => ?_)
          have hP : va_P D vwCl [(qz, .inl (cS, 4, .inr (.inr (.inr (.inr (xSh s0 s1 s2 s3)))))), (s0, .inr (4, [.int 0, .int 0, .ref sn0])), (s1, .inr (4, [.int 0, .int 0, .ref sn1])), (s2, .inr (4, [.int 0, .int 0, .ref sn2])), (s3, .inr (4, [.int 0, .int 0, .ref sn3]))] H := hP
          have hD : va_D A [(qz, .inl (cS, 4, .inr (.inr (.inr (.inr (xSh s0 s1 s2 s3)))))), (s0, .inr (4, [.int 0, .int 0, .ref sn0])), (s1, .inr (4, [.int 0, .int 0, .ref sn1])), (s2, .inr (4, [.int 0, .int 0, .ref sn2])), (s3, .inr (4, [.int 0, .int 0, .ref sn3]))] := hD
          subst hw_r_52
          exact W.iret (v := (-1000000006)) hx hb hr (fun t ht hW => ⟨⟨(-1000000006), (), rfl, (by first | rfl | decide | simp), by rw [ht]; exact hP.sub [] rfl, hD.sub [] (by decide) rfl⟩, hS.F ht⟩) hS.2.2 dX8_copy_60 hlk
        · skip
          refine lv_aload_n hx hb dX8_copy_29 rfl (lv_at hl 1 rfl) ?_
          refine xg hF kf_X8_66 hK hP 0 rfl rfl dX8_copy_30 ?_
          refine lv_iload_n hx hb dX8_copy_33 rfl (lv_at hl 4 rfl) ?_
          refine va_aldq hx hb hK hP 1 3 rfl rfl (xin 2 4 (by decide) (by decide)) dX8_copy_34 ?_
          refine xl_v (w := .ref s2) rfl ?_
          refine lv_astore (lv' := [(7, .ref s2), (6, .ref s3), (0, .ref h0), (1, .int 3), (2, .int p1), (3, .int 2), (4, .int p3), (5, .int p4)]) hx hb dX8_copy_35 hl (by decide) rfl (fun ls hl => ?_)
          refine lv_aload hx hb dX8_copy_37 (lv_at hl 1 rfl) ?_
          refine xc_Vr hF (c_X4_isMissing l D cI cJ cZ cS sa s.heap.size s3 sn3 ) kv_X8_294 ⟨rfl, rfl, Nat.le_of_ble_eq_true rfl, Nat.le_of_ble_eq_true rfl⟩ ⟨Nat.le_of_ble_eq_true rfl, Nat.le_of_ble_eq_true rfl⟩ hK hN hP hD [5] rfl rfl 0 rfl rfl rfl rfl hl.1 rfl (Nat.le_of_ble_eq_true rfl) dX8_copy_39 (fun r_53 hw_r_53 => ?_)
          subst hw_r_53
          refine lv_if_ne (tgt := 53) hx hb dX8_copy_42 (by decide) (fun c_54 => ?_) (fun c_54 => absurd c_54 (by decide))
          refine lv_aload_n hx hb dX8_copy_53 rfl (lv_at hl 2 rfl) ?_
          refine lv_ldcw (v := (-1000000006)) hx hb hown (hu _ uw236) dX8_copy_54 ?_
          refine xc_Vi (wr := [(qz, .inl (cS, 4, .inr (.inr (.inr (.inr (xSh s0 s1 s2 s3)))))), (s0, .inr (4, [.int 0, .int 0, .ref sn0])), (s1, .inr (4, [.int 0, .int 0, .ref sn1])), (s2, .inr (4, [.int 0, .int 0, .ref sn2])), (s3, .inr (4, [.int 0, .int 0, .ref sn3]))]) hF (c_X8_finding_M l D cI cJ cZ cS sa s.heap.size h0 qh qk qd qa qm qs qp ql qt qz qf 0 (fun _ => 0) ) kv_X8_80 ⟨rfl, rfl, Nat.le_of_ble_eq_true rfl, Nat.le_of_ble_eq_true rfl⟩ ⟨Nat.le_of_ble_eq_true rfl, Nat.le_of_ble_eq_true rfl⟩ hK hN hP hD hS hA [0, 6] [1, 2, 3, 4, 5] rfl rfl rfl rfl (by decide) 0 rfl rfl rfl rfl hl.1 rfl (Nat.le_of_ble_eq_true rfl) dX8_copy_57 (fun r_55 u_r_55 H locs hw_r_55 hP hD hS => ?_)
          have hP : va_P D vwCl [(qz, .inl (cS, 4, .inr (.inr (.inr (.inr (xSh s0 s1 s2 s3)))))), (s0, .inr (4, [.int 0, .int 0, .ref sn0])), (s1, .inr (4, [.int 0, .int 0, .ref sn1])), (s2, .inr (4, [.int 0, .int 0, .ref sn2])), (s3, .inr (4, [.int 0, .int 0, .ref sn3]))] H := hP
          have hD : va_D A [(qz, .inl (cS, 4, .inr (.inr (.inr (.inr (xSh s0 s1 s2 s3)))))), (s0, .inr (4, [.int 0, .int 0, .ref sn0])), (s1, .inr (4, [.int 0, .int 0, .ref sn1])), (s2, .inr (4, [.int 0, .int 0, .ref sn2])), (s3, .inr (4, [.int 0, .int 0, .ref sn3]))] := hD
          subst hw_r_55
          exact W.iret (v := (-1000000006)) hx hb hr (fun t ht hW => ⟨⟨(-1000000006), (), rfl, (by first | rfl | decide | simp), by rw [ht]; exact hP.sub [] rfl, hD.sub [] (by decide) rfl⟩, hS.F ht⟩) hS.2.2 dX8_copy_60 hlk
        · skip
          refine lv_aload_n hx hb dX8_copy_29 rfl (lv_at hl 1 rfl) ?_
          refine xg hF kf_X8_66 hK hP 0 rfl rfl dX8_copy_30 ?_
          refine lv_iload_n hx hb dX8_copy_33 rfl (lv_at hl 4 rfl) ?_
          refine va_aldq hx hb hK hP 1 3 rfl rfl (xin 3 4 (by decide) (by decide)) dX8_copy_34 ?_
          refine xl_v (w := .ref s3) rfl ?_
          refine lv_astore (lv' := [(7, .ref s3), (6, .ref s3), (0, .ref h0), (1, .int 3), (2, .int p1), (3, .int 3), (4, .int p3), (5, .int p4)]) hx hb dX8_copy_35 hl (by decide) rfl (fun ls hl => ?_)
          refine lv_aload hx hb dX8_copy_37 (lv_at hl 1 rfl) ?_
          refine xc_Vr hF (c_X4_isMissing l D cI cJ cZ cS sa s.heap.size s3 sn3 ) kv_X8_294 ⟨rfl, rfl, Nat.le_of_ble_eq_true rfl, Nat.le_of_ble_eq_true rfl⟩ ⟨Nat.le_of_ble_eq_true rfl, Nat.le_of_ble_eq_true rfl⟩ hK hN hP hD [5] rfl rfl 0 rfl rfl rfl rfl hl.1 rfl (Nat.le_of_ble_eq_true rfl) dX8_copy_39 (fun r_56 hw_r_56 => ?_)
          subst hw_r_56
          refine lv_if_ne (tgt := 53) hx hb dX8_copy_42 (by decide) (fun c_57 => ?_) (fun c_57 => absurd c_57 (by decide))
          refine lv_aload_n hx hb dX8_copy_53 rfl (lv_at hl 2 rfl) ?_
          refine lv_ldcw (v := (-1000000006)) hx hb hown (hu _ uw236) dX8_copy_54 ?_
          refine xc_Vi (wr := [(qz, .inl (cS, 4, .inr (.inr (.inr (.inr (xSh s0 s1 s2 s3)))))), (s0, .inr (4, [.int 0, .int 0, .ref sn0])), (s1, .inr (4, [.int 0, .int 0, .ref sn1])), (s2, .inr (4, [.int 0, .int 0, .ref sn2])), (s3, .inr (4, [.int 0, .int 0, .ref sn3]))]) hF (c_X8_finding_M l D cI cJ cZ cS sa s.heap.size h0 qh qk qd qa qm qs qp ql qt qz qf 0 (fun _ => 0) ) kv_X8_80 ⟨rfl, rfl, Nat.le_of_ble_eq_true rfl, Nat.le_of_ble_eq_true rfl⟩ ⟨Nat.le_of_ble_eq_true rfl, Nat.le_of_ble_eq_true rfl⟩ hK hN hP hD hS hA [0, 6] [1, 2, 3, 4, 5] rfl rfl rfl rfl (by decide) 0 rfl rfl rfl rfl hl.1 rfl (Nat.le_of_ble_eq_true rfl) dX8_copy_57 (fun r_58 u_r_58 H locs hw_r_58 hP hD hS => ?_)
          have hP : va_P D vwCl [(qz, .inl (cS, 4, .inr (.inr (.inr (.inr (xSh s0 s1 s2 s3)))))), (s0, .inr (4, [.int 0, .int 0, .ref sn0])), (s1, .inr (4, [.int 0, .int 0, .ref sn1])), (s2, .inr (4, [.int 0, .int 0, .ref sn2])), (s3, .inr (4, [.int 0, .int 0, .ref sn3]))] H := hP
          have hD : va_D A [(qz, .inl (cS, 4, .inr (.inr (.inr (.inr (xSh s0 s1 s2 s3)))))), (s0, .inr (4, [.int 0, .int 0, .ref sn0])), (s1, .inr (4, [.int 0, .int 0, .ref sn1])), (s2, .inr (4, [.int 0, .int 0, .ref sn2])), (s3, .inr (4, [.int 0, .int 0, .ref sn3]))] := hD
          subst hw_r_58
          exact W.iret (v := (-1000000006)) hx hb hr (fun t ht hW => ⟨⟨(-1000000006), (), rfl, (by first | rfl | decide | simp), by rw [ht]; exact hP.sub [] rfl, hD.sub [] (by decide) rfl⟩, hS.F ht⟩) hS.2.2 dX8_copy_60 hlk
    · skip
      refine lv_if_ne (tgt := 21) hx hb dX8_copy_11 (by decide) (fun c_59 => absurd (by decide) c_59) (fun c_59 => ?_)
      refine lv_aload_n hx hb dX8_copy_14 rfl (lv_at hl 0 rfl) ?_
      refine lv_ldc (v := (-1000000001)) hx hb hown (hu _ uw4) dX8_copy_15 ?_
      refine xc_Vi (wr := [(qz, .inl (cS, 4, .inr (.inr (.inr (.inr (xSh s0 s1 s2 s3)))))), (s0, .inr (4, [.int 0, .int 0, .ref sn0])), (s1, .inr (4, [.int 0, .int 0, .ref sn1])), (s2, .inr (4, [.int 0, .int 0, .ref sn2])), (s3, .inr (4, [.int 0, .int 0, .ref sn3]))]) hF (c_X8_finding_B l D cI cJ cZ cS sa s.heap.size h0 qh qk qd qa qm qs qp ql qt qz qf 0 (fun _ => 0) ) kv_X8_80 ⟨rfl, rfl, Nat.le_of_ble_eq_true rfl, Nat.le_of_ble_eq_true rfl⟩ ⟨Nat.le_of_ble_eq_true rfl, Nat.le_of_ble_eq_true rfl⟩ hK hN hP hD hS hA [0, 6] [1, 2, 3, 4, 5] rfl rfl rfl rfl (by decide) 0 rfl rfl rfl rfl hl.1 rfl (Nat.le_of_ble_eq_true rfl) dX8_copy_17 (fun r_60 u_r_60 H locs hw_r_60 hP hD hS => ?_)
      have hP : va_P D vwCl [(qz, .inl (cS, 4, .inr (.inr (.inr (.inr (xSh s0 s1 s2 s3)))))), (s0, .inr (4, [.int 0, .int 0, .ref sn0])), (s1, .inr (4, [.int 0, .int 0, .ref sn1])), (s2, .inr (4, [.int 0, .int 0, .ref sn2])), (s3, .inr (4, [.int 0, .int 0, .ref sn3]))] H := hP
      have hD : va_D A [(qz, .inl (cS, 4, .inr (.inr (.inr (.inr (xSh s0 s1 s2 s3)))))), (s0, .inr (4, [.int 0, .int 0, .ref sn0])), (s1, .inr (4, [.int 0, .int 0, .ref sn1])), (s2, .inr (4, [.int 0, .int 0, .ref sn2])), (s3, .inr (4, [.int 0, .int 0, .ref sn3]))] := hD
      subst hw_r_60
      exact W.iret (v := (-1000000001)) hx hb hr (fun t ht hW => ⟨⟨(-1000000001), (), rfl, (by unfold a_copy; rw [if_neg (p_no h_2 h_3), if_pos h_9]), by rw [ht]; exact hP.sub [] rfl, hD.sub [] (by decide) rfl⟩, hS.F ht⟩) hS.2.2 dX8_copy_20 hlk
  · skip
    refine lv_if_eq (tgt := 14) hx hb dX8_copy_4 (by decide) (fun c_61 => ?_) (fun c_61 => absurd (by decide) c_61)
    refine lv_aload_n hx hb dX8_copy_14 rfl (lv_at hl 0 rfl) ?_
    refine lv_ldc (v := (-1000000001)) hx hb hown (hu _ uw4) dX8_copy_15 ?_
    refine xc_Vi (wr := [(qz, .inl (cS, 4, .inr (.inr (.inr (.inr (xSh s0 s1 s2 s3)))))), (s0, .inr (4, [.int 0, .int 0, .ref sn0])), (s1, .inr (4, [.int 0, .int 0, .ref sn1])), (s2, .inr (4, [.int 0, .int 0, .ref sn2])), (s3, .inr (4, [.int 0, .int 0, .ref sn3]))]) hF (c_X8_finding_B l D cI cJ cZ cS sa s.heap.size h0 qh qk qd qa qm qs qp ql qt qz qf 0 (fun _ => 0) ) kv_X8_80 ⟨rfl, rfl, Nat.le_of_ble_eq_true rfl, Nat.le_of_ble_eq_true rfl⟩ ⟨Nat.le_of_ble_eq_true rfl, Nat.le_of_ble_eq_true rfl⟩ hK hN hP hD hS hA [0, 6] [1, 2, 3, 4, 5] rfl rfl rfl rfl (by decide) 0 rfl rfl rfl rfl hl.1 rfl (Nat.le_of_ble_eq_true rfl) dX8_copy_17 (fun r_62 u_r_62 H locs hw_r_62 hP hD hS => ?_)
    have hP : va_P D vwCl [(qz, .inl (cS, 4, .inr (.inr (.inr (.inr (xSh s0 s1 s2 s3)))))), (s0, .inr (4, [.int 0, .int 0, .ref sn0])), (s1, .inr (4, [.int 0, .int 0, .ref sn1])), (s2, .inr (4, [.int 0, .int 0, .ref sn2])), (s3, .inr (4, [.int 0, .int 0, .ref sn3]))] H := hP
    have hD : va_D A [(qz, .inl (cS, 4, .inr (.inr (.inr (.inr (xSh s0 s1 s2 s3)))))), (s0, .inr (4, [.int 0, .int 0, .ref sn0])), (s1, .inr (4, [.int 0, .int 0, .ref sn1])), (s2, .inr (4, [.int 0, .int 0, .ref sn2])), (s3, .inr (4, [.int 0, .int 0, .ref sn3]))] := hD
    subst hw_r_62
    exact W.iret (v := (-1000000001)) hx hb hr (fun t ht hW => ⟨⟨(-1000000001), (), rfl, (if_pos h_4).symm, by rw [ht]; exact hP.sub [] rfl, hD.sub [] (by decide) rfl⟩, hS.F ht⟩) hS.2.2 dX8_copy_20 hlk
set_option maxHeartbeats 4000000 in
set_option maxRecDepth 100000 in
theorem c_X8_count (l : Launch) (D : va_G) (cI cJ cZ cS : ClassId) (sa : Nat → Nat) (sz : Nat) (h0 : Nat) (qh : Nat) (qk : Nat) (qd : Nat) (qa : Nat) (qm : Nat) (qs : Nat) (qp : Nat) (ql : Nat) (qt : Nat) (qz : Nat) (qf : Nat) (ae : Nat) (al : Nat) (au : Nat) (ao : Nat) (ar : Nat) (ak : Nat) (aw : Nat) (att : Nat) (ass : Nat) (aRn : Nat) (aRp : Nat) (aWn : Nat) (aWp : Nat) (tb : Nat) (p0 : Int32) : Met l yX8_count (Cond.code yX8_count cX8_count 2 (some .int) :: wsU) ({ frames := 1, cells := 0, slots := 0, locals := 22 }) (va_Pc [.ref h0, .int p0] (XW D (xT cI cJ cZ cS) sa [(h0, .inr (8, [.ref qh, .ref qk, .ref qd, .int 0, .ref qa, .ref qm, .ref qs, .ref qp, .ref ql, .ref qt, .ref qz, .ref qf])), (qh, .inr (1, [.int 0, .ref ae, .ref al, .ref au, .ref ao, .ref ar, .ref ak, .ref aw, .ref att, .ref ass])), (al, .inl (cI, 100, .inl (fun _ => 0))), (au, .inl (cI, 100, .inl (fun _ => 0))), (ao, .inl (cI, 100, .inl (fun _ => 0))), (ar, .inr (3, [.int 0, .ref aRn, .ref aRp])), (aw, .inr (3, [.int 0, .ref aWn, .ref aWp])), (qt, .inr (7, [.int 0, .ref tb, .int 0, .int 0, .int 0, .int 0, .int 0])), (qf, .inl (cI, 7, .inl (fun _ => 0)))] sz)) (XQi (fun (r : Int32) (_ : Unit) => r = a_count p0) D (fun _ : Unit => []) (va_A [(h0, .inr (8, [.ref qh, .ref qk, .ref qd, .int 0, .ref qa, .ref qm, .ref qs, .ref qp, .ref ql, .ref qt, .ref qz, .ref qf])), (qh, .inr (1, [.int 0, .ref ae, .ref al, .ref au, .ref ao, .ref ar, .ref ak, .ref aw, .ref att, .ref ass])), (al, .inl (cI, 100, .inl (fun _ => 0))), (au, .inl (cI, 100, .inl (fun _ => 0))), (ao, .inl (cI, 100, .inl (fun _ => 0))), (ar, .inr (3, [.int 0, .ref aRn, .ref aRp])), (aw, .inr (3, [.int 0, .ref aWn, .ref aWp])), (qt, .inr (7, [.int 0, .ref tb, .int 0, .int 0, .int 0, .int 0, .int 0])), (qf, .inl (cI, 7, .inl (fun _ => 0)))] sz)) 0 0 (va_A [(h0, .inr (8, [.ref qh, .ref qk, .ref qd, .int 0, .ref qa, .ref qm, .ref qs, .ref qp, .ref ql, .ref qt, .ref qz, .ref qf])), (qh, .inr (1, [.int 0, .ref ae, .ref al, .ref au, .ref ao, .ref ar, .ref ak, .ref aw, .ref att, .ref ass])), (al, .inl (cI, 100, .inl (fun _ => 0))), (au, .inl (cI, 100, .inl (fun _ => 0))), (ao, .inl (cI, 100, .inl (fun _ => 0))), (ar, .inr (3, [.int 0, .ref aRn, .ref aRp])), (aw, .inr (3, [.int 0, .ref aWn, .ref aWp])), (qt, .inr (7, [.int 0, .ref tb, .int 0, .int 0, .int 0, .int 0, .int 0])), (qf, .inl (cI, 7, .inl (fun _ => 0)))] sz) := by
  refine xhw (QA := fun A => XQi (fun (r : Int32) (_ : Unit) => r = a_count p0) D (fun _ : Unit => []) A) (by decide) (Nat.le_of_ble_eq_true rfl) ?_
  intro p e s m below meth c ls A hF hr hlk hin hsz hP hK hD hN hA hS hl
  have hF : CallFix p m c cX8_count 2 s _ _ RX8 := hF
  have hx := hF.1
  have hb := hF.2.1
  have hml := hF.2.2.1
  have hown := hF.2.2.2.1
  have hu : ∀ w ∈ wsU, w.before _ s = true := fun w h => hF.2.2.2.2 w (List.mem_cons_of_mem _ h)
  have hl : lv_has ls 2 [(0, .ref h0), (1, .int p0)] := hl
  refine lv_iload_n hx hb dX8_count_0 rfl (lv_at hl 1 rfl) ?_
  rcases x_s6 p0 with h_1 | rfl | rfl | rfl | rfl | rfl | rfl
  · refine lv_tableOut (tgt := 94) hx hb dX8_count_1 h_1 (by decide) ?_
    refine lv_aload_n hx hb dX8_count_94 rfl (lv_at hl 0 rfl) ?_
    refine lv_ldc (v := (-1000000001)) hx hb hown (hu _ uw4) dX8_count_95 ?_
    refine xc_Vi (wr := [(qh, .inr (1, [.int 0, .ref ae, .ref al, .ref au, .ref ao, .ref ar, .ref ak, .ref aw, .ref att, .ref ass])), (al, .inl (cI, 100, .inl (fun _ => 0))), (au, .inl (cI, 100, .inl (fun _ => 0))), (ao, .inl (cI, 100, .inl (fun _ => 0))), (ar, .inr (3, [.int 0, .ref aRn, .ref aRp])), (aw, .inr (3, [.int 0, .ref aWn, .ref aWp])), (qt, .inr (7, [.int 0, .ref tb, .int 0, .int 0, .int 0, .int 0, .int 0]))]) hF (c_X8_finding_B l D cI cJ cZ cS sa s.heap.size h0 qh qk qd qa qm qs qp ql qt qz qf 0 (fun _ => 0) ) kv_X8_80 ⟨rfl, rfl, Nat.le_of_ble_eq_true rfl, Nat.le_of_ble_eq_true rfl⟩ ⟨Nat.le_of_ble_eq_true rfl, Nat.le_of_ble_eq_true rfl⟩ hK hN hP hD hS hA [0, 8] [1, 2, 3, 4, 5, 6, 7] rfl rfl rfl rfl (by decide) 0 rfl rfl rfl rfl hl.1 rfl (Nat.le_of_ble_eq_true rfl) dX8_count_97 (fun r_2 u_r_2 H locs hw_r_2 hP hD hS => ?_)
    have hP : va_P D vwCl [(qh, .inr (1, [.int 0, .ref ae, .ref al, .ref au, .ref ao, .ref ar, .ref ak, .ref aw, .ref att, .ref ass])), (al, .inl (cI, 100, .inl (fun _ => 0))), (au, .inl (cI, 100, .inl (fun _ => 0))), (ao, .inl (cI, 100, .inl (fun _ => 0))), (ar, .inr (3, [.int 0, .ref aRn, .ref aRp])), (aw, .inr (3, [.int 0, .ref aWn, .ref aWp])), (qt, .inr (7, [.int 0, .ref tb, .int 0, .int 0, .int 0, .int 0, .int 0]))] H := hP
    have hD : va_D A [(qh, .inr (1, [.int 0, .ref ae, .ref al, .ref au, .ref ao, .ref ar, .ref ak, .ref aw, .ref att, .ref ass])), (al, .inl (cI, 100, .inl (fun _ => 0))), (au, .inl (cI, 100, .inl (fun _ => 0))), (ao, .inl (cI, 100, .inl (fun _ => 0))), (ar, .inr (3, [.int 0, .ref aRn, .ref aRp])), (aw, .inr (3, [.int 0, .ref aWn, .ref aWp])), (qt, .inr (7, [.int 0, .ref tb, .int 0, .int 0, .int 0, .int 0, .int 0]))] := hD
    subst hw_r_2
    exact W.iret (v := (-1000000001)) hx hb hr (fun t ht hW => ⟨⟨(-1000000001), (), rfl, (if_pos h_1).symm, by rw [ht]; exact hP.sub [] rfl, hD.sub [] (by decide) rfl⟩, hS.F ht⟩) hS.2.2 dX8_count_100 hlk
  · refine lv_tableIn (tgt := 40) hx hb dX8_count_1 (by decide) (by decide) rfl (by decide) ?_
    refine lv_aload_n hx hb dX8_count_40 rfl (lv_at hl 0 rfl) ?_
    refine xg hF kf_X8_12 hK hP 0 rfl rfl dX8_count_41 ?_
    refine xg hF kf_X8_75 hK hP 1 rfl rfl dX8_count_44 ?_
    exact W.iret (v := 0) hx hb hr (fun t ht hW => ⟨⟨0, (), rfl, (by first | rfl | decide | simp), by rw [ht]; exact hP.sub [] rfl, hD.sub [] (by decide) rfl⟩, hS.F ht⟩) hS.2.2 dX8_count_47 hlk
  · refine lv_tableIn (tgt := 48) hx hb dX8_count_1 (by decide) (by decide) rfl (by decide) ?_
    refine lv_aload_n hx hb dX8_count_48 rfl (lv_at hl 0 rfl) ?_
    refine xg hF kf_X8_12 hK hP 0 rfl rfl dX8_count_49 ?_
    refine xc_Vr hF (c_X1_countWays l D cI cJ cZ cS sa s.heap.size qh ae al au ao ar ak aw att ass ) kv_X8_247 ⟨rfl, rfl, Nat.le_of_ble_eq_true rfl, Nat.le_of_ble_eq_true rfl⟩ ⟨Nat.le_of_ble_eq_true rfl, Nat.le_of_ble_eq_true rfl⟩ hK hN hP hD [1, 2, 3, 4] rfl rfl 0 rfl rfl rfl rfl hl.1 rfl (Nat.le_of_ble_eq_true rfl) dX8_count_52 (fun r_3 hw_r_3 => ?_)
    subst hw_r_3
    exact W.iret (v := 0) hx hb hr (fun t ht hW => ⟨⟨0, (), rfl, (by first | rfl | decide | simp), by rw [ht]; exact hP.sub [] rfl, hD.sub [] (by decide) rfl⟩, hS.F ht⟩) hS.2.2 dX8_count_55 hlk
  · refine lv_tableIn (tgt := 56) hx hb dX8_count_1 (by decide) (by decide) rfl (by decide) ?_
    refine lv_aload_n hx hb dX8_count_56 rfl (lv_at hl 0 rfl) ?_
    refine xg hF kf_X8_12 hK hP 0 rfl rfl dX8_count_57 ?_
    refine xg hF kf_X8_159 hK hP 1 rfl rfl dX8_count_60 ?_
    refine xg hF kf_X8_326 hK hP 5 rfl rfl dX8_count_63 ?_
    exact W.iret (v := 0) hx hb hr (fun t ht hW => ⟨⟨0, (), rfl, (by first | rfl | decide | simp), by rw [ht]; exact hP.sub [] rfl, hD.sub [] (by decide) rfl⟩, hS.F ht⟩) hS.2.2 dX8_count_66 hlk
  · refine lv_tableIn (tgt := 67) hx hb dX8_count_1 (by decide) (by decide) rfl (by decide) ?_
    refine lv_aload_n hx hb dX8_count_67 rfl (lv_at hl 0 rfl) ?_
    refine xg hF kf_X8_12 hK hP 0 rfl rfl dX8_count_68 ?_
    refine xg hF kf_X8_229 hK hP 1 rfl rfl dX8_count_71 ?_
    refine xg hF kf_X8_326 hK hP 6 rfl rfl dX8_count_74 ?_
    exact W.iret (v := 0) hx hb hr (fun t ht hW => ⟨⟨0, (), rfl, (by first | rfl | decide | simp), by rw [ht]; exact hP.sub [] rfl, hD.sub [] (by decide) rfl⟩, hS.F ht⟩) hS.2.2 dX8_count_77 hlk
  · refine lv_tableIn (tgt := 78) hx hb dX8_count_1 (by decide) (by decide) rfl (by decide) ?_
    refine lv_aload_n hx hb dX8_count_78 rfl (lv_at hl 0 rfl) ?_
    refine xg hF kf_X8_60 hK hP 0 rfl rfl dX8_count_79 ?_
    refine xg hF kf_X8_275 hK hP 7 rfl rfl dX8_count_82 ?_
    exact W.iret (v := 0) hx hb hr (fun t ht hW => ⟨⟨0, (), rfl, (by first | rfl | decide | simp), by rw [ht]; exact hP.sub [] rfl, hD.sub [] (by decide) rfl⟩, hS.F ht⟩) hS.2.2 dX8_count_85 hlk
  · refine lv_tableIn (tgt := 86) hx hb dX8_count_1 (by decide) (by decide) rfl (by decide) ?_
    refine lv_aload_n hx hb dX8_count_86 rfl (lv_at hl 0 rfl) ?_
    refine xg hF kf_X8_12 hK hP 0 rfl rfl dX8_count_87 ?_
    refine xc_Vr hF (c_X1_allErrands l D cI cJ cZ cS sa s.heap.size qh ae al au ao ar ak aw att ass ) kv_X8_329 ⟨rfl, rfl, Nat.le_of_ble_eq_true rfl, Nat.le_of_ble_eq_true rfl⟩ ⟨Nat.le_of_ble_eq_true rfl, Nat.le_of_ble_eq_true rfl⟩ hK hN hP hD [1] rfl rfl 0 rfl rfl rfl rfl hl.1 rfl (Nat.le_of_ble_eq_true rfl) dX8_count_90 (fun r_4 hw_r_4 => ?_)
    subst hw_r_4
    exact W.iret (v := 0) hx hb hr (fun t ht hW => ⟨⟨0, (), rfl, (by first | rfl | decide | simp), by rw [ht]; exact hP.sub [] rfl, hD.sub [] (by decide) rfl⟩, hS.F ht⟩) hS.2.2 dX8_count_93 hlk
set_option maxHeartbeats 4000000 in
set_option maxRecDepth 100000 in
theorem c_X8_status (l : Launch) (D : va_G) (cI cJ cZ cS : ClassId) (sa : Nat → Nat) (sz : Nat) (h0 : Nat) (qh : Nat) (qk : Nat) (qd : Nat) (qa : Nat) (qm : Nat) (qs : Nat) (qp : Nat) (ql : Nat) (qt : Nat) (qz : Nat) (qf : Nat) (p0 : Int32) : Met l yX8_status (Cond.code yX8_status cX8_status 4 (some .int) :: wsU) ({ frames := 1, cells := 0, slots := 0, locals := 22 }) (va_Pc [.ref h0, .int p0] (XW D (xT cI cJ cZ cS) sa [(h0, .inr (8, [.ref qh, .ref qk, .ref qd, .int 0, .ref qa, .ref qm, .ref qs, .ref qp, .ref ql, .ref qt, .ref qz, .ref qf])), (qf, .inl (cI, 7, .inl (fun _ => 0)))] sz)) (XQi (fun (r : Int32) (_ : Unit) => r = a_status p0) D (fun _ : Unit => []) (va_A [(h0, .inr (8, [.ref qh, .ref qk, .ref qd, .int 0, .ref qa, .ref qm, .ref qs, .ref qp, .ref ql, .ref qt, .ref qz, .ref qf])), (qf, .inl (cI, 7, .inl (fun _ => 0)))] sz)) 0 0 (va_A [(h0, .inr (8, [.ref qh, .ref qk, .ref qd, .int 0, .ref qa, .ref qm, .ref qs, .ref qp, .ref ql, .ref qt, .ref qz, .ref qf])), (qf, .inl (cI, 7, .inl (fun _ => 0)))] sz) := by
  refine xhw (QA := fun A => XQi (fun (r : Int32) (_ : Unit) => r = a_status p0) D (fun _ : Unit => []) A) (by decide) (Nat.le_of_ble_eq_true rfl) ?_
  intro p e s m below meth c ls A hF hr hlk hin hsz hP hK hD hN hA hS hl
  have hF : CallFix p m c cX8_status 4 s _ _ RX8 := hF
  have hx := hF.1
  have hb := hF.2.1
  have hml := hF.2.2.1
  have hown := hF.2.2.2.1
  have hu : ∀ w ∈ wsU, w.before _ s = true := fun w h => hF.2.2.2.2 w (List.mem_cons_of_mem _ h)
  have hl : lv_has ls 4 [(0, .ref h0), (1, .int p0)] := hl
  refine lv_iload_n hx hb dX8_status_0 rfl (lv_at hl 1 rfl) ?_
  refine lv_iconst (v := (-1)) hx hb dX8_status_1 (by decide) ?_
  refine lv_bipush (v := 6) hx hb dX8_status_2 (by decide) ?_
  refine xc_Sr hF (c_X8_isWithin l D cI cJ cZ cS sa s.heap.size p0 (-1) 6 ) ks_X8_91 ⟨rfl, rfl, Nat.le_of_ble_eq_true rfl, Nat.le_of_ble_eq_true rfl⟩ ⟨Nat.le_of_ble_eq_true rfl, Nat.le_of_ble_eq_true rfl⟩ hK hN hP hD [] rfl rfl rfl hl.1 rfl (Nat.le_of_ble_eq_true rfl) dX8_status_4 (fun r_1 hw_r_1 => ?_)
  rcases hw_r_1 with ⟨rfl, h_2, h_3⟩ | ⟨rfl, h_4⟩
  · skip
    refine lv_if_ne (tgt := 17) hx hb dX8_status_7 (by decide) (fun c_5 => ?_) (fun c_5 => absurd c_5 (by decide))
    refine lv_iload_n hx hb dX8_status_17 rfl (lv_at hl 1 rfl) ?_
    refine lv_if_lt (tgt := 28) hx hb dX8_status_18 (by decide) (fun c_6 => ?_) (fun c_6 => ?_)
    · skip
      refine lv_iconst (v := 0) hx hb dX8_status_28 (by decide) ?_
      refine lv_istore_n (lv' := [(2, .int 0), (0, .ref h0), (1, .int p0)]) hx hb dX8_status_29 rfl hl (by decide) rfl (fun ls hl => ?_)
      refine lv_iconst (v := 0) hx hb dX8_status_30 (by decide) ?_
      refine lv_istore_n (lv' := [(3, .int 0), (2, .int 0), (0, .ref h0), (1, .int p0)]) hx hb dX8_status_31 rfl hl (by decide) rfl (fun ls hl => ?_)
      refine lv_iload_n hx hb dX8_status_32 rfl (lv_at hl 0 rfl) ?_
      refine lv_bipush (v := 7) hx hb dX8_status_33 (by decide) ?_
      refine lv_icmp_ge (tgt := 53) hx hb dX8_status_35 (by decide) (fun c_7 => absurd c_7 (by decide)) (fun c_7 => ?_)
      refine lv_iload_n hx hb dX8_status_38 rfl (lv_at hl 1 rfl) ?_
      refine lv_aload_n hx hb dX8_status_39 rfl (lv_at hl 2 rfl) ?_
      refine xg hF kf_X8_70 hK hP 0 rfl rfl dX8_status_40 ?_
      refine lv_iload_n hx hb dX8_status_43 rfl (lv_at hl 0 rfl) ?_
      refine va_iald hx hb hK hP 1 0 rfl rfl (xin 0 7 (by decide) (by decide)) dX8_status_44 ?_
      refine xl_i (y := 0) rfl ?_
      refine lv_iadd hx hb dX8_status_45 ?_
      refine xl_i (y := 0) (by decide) ?_
      refine lv_istore_n (lv' := [(2, .int 0), (3, .int 0), (0, .ref h0), (1, .int p0)]) hx hb dX8_status_46 rfl hl (by decide) rfl (fun ls hl => ?_)
      refine lv_iinc (v := 1) (lv' := [(3, .int 1), (2, .int 0), (0, .ref h0), (1, .int p0)]) hx hb dX8_status_47 hl (k := 1) rfl (by decide) (by decide) rfl (fun ls hl => ?_)
      refine lv_goto (tgt := 32) hx hb dX8_status_50 (by decide) ?_
      refine lv_iload_n hx hb dX8_status_32 rfl (lv_at hl 0 rfl) ?_
      refine lv_bipush (v := 7) hx hb dX8_status_33 (by decide) ?_
      refine lv_icmp_ge (tgt := 53) hx hb dX8_status_35 (by decide) (fun c_8 => absurd c_8 (by decide)) (fun c_8 => ?_)
      refine lv_iload_n hx hb dX8_status_38 rfl (lv_at hl 1 rfl) ?_
      refine lv_aload_n hx hb dX8_status_39 rfl (lv_at hl 2 rfl) ?_
      refine xg hF kf_X8_70 hK hP 0 rfl rfl dX8_status_40 ?_
      refine lv_iload_n hx hb dX8_status_43 rfl (lv_at hl 0 rfl) ?_
      refine va_iald hx hb hK hP 1 0 rfl rfl (xin 1 7 (by decide) (by decide)) dX8_status_44 ?_
      refine xl_i (y := 0) rfl ?_
      refine lv_iadd hx hb dX8_status_45 ?_
      refine xl_i (y := 0) (by decide) ?_
      refine lv_istore_n (lv' := [(2, .int 0), (3, .int 1), (0, .ref h0), (1, .int p0)]) hx hb dX8_status_46 rfl hl (by decide) rfl (fun ls hl => ?_)
      refine lv_iinc (v := 2) (lv' := [(3, .int 2), (2, .int 0), (0, .ref h0), (1, .int p0)]) hx hb dX8_status_47 hl (k := 1) rfl (by decide) (by decide) rfl (fun ls hl => ?_)
      refine lv_goto (tgt := 32) hx hb dX8_status_50 (by decide) ?_
      refine lv_iload_n hx hb dX8_status_32 rfl (lv_at hl 0 rfl) ?_
      refine lv_bipush (v := 7) hx hb dX8_status_33 (by decide) ?_
      refine lv_icmp_ge (tgt := 53) hx hb dX8_status_35 (by decide) (fun c_9 => absurd c_9 (by decide)) (fun c_9 => ?_)
      refine lv_iload_n hx hb dX8_status_38 rfl (lv_at hl 1 rfl) ?_
      refine lv_aload_n hx hb dX8_status_39 rfl (lv_at hl 2 rfl) ?_
      refine xg hF kf_X8_70 hK hP 0 rfl rfl dX8_status_40 ?_
      refine lv_iload_n hx hb dX8_status_43 rfl (lv_at hl 0 rfl) ?_
      refine va_iald hx hb hK hP 1 0 rfl rfl (xin 2 7 (by decide) (by decide)) dX8_status_44 ?_
      refine xl_i (y := 0) rfl ?_
      refine lv_iadd hx hb dX8_status_45 ?_
      refine xl_i (y := 0) (by decide) ?_
      refine lv_istore_n (lv' := [(2, .int 0), (3, .int 2), (0, .ref h0), (1, .int p0)]) hx hb dX8_status_46 rfl hl (by decide) rfl (fun ls hl => ?_)
      refine lv_iinc (v := 3) (lv' := [(3, .int 3), (2, .int 0), (0, .ref h0), (1, .int p0)]) hx hb dX8_status_47 hl (k := 1) rfl (by decide) (by decide) rfl (fun ls hl => ?_)
      refine lv_goto (tgt := 32) hx hb dX8_status_50 (by decide) ?_
      refine lv_iload_n hx hb dX8_status_32 rfl (lv_at hl 0 rfl) ?_
      refine lv_bipush (v := 7) hx hb dX8_status_33 (by decide) ?_
      refine lv_icmp_ge (tgt := 53) hx hb dX8_status_35 (by decide) (fun c_10 => absurd c_10 (by decide)) (fun c_10 => ?_)
      refine lv_iload_n hx hb dX8_status_38 rfl (lv_at hl 1 rfl) ?_
      refine lv_aload_n hx hb dX8_status_39 rfl (lv_at hl 2 rfl) ?_
      refine xg hF kf_X8_70 hK hP 0 rfl rfl dX8_status_40 ?_
      refine lv_iload_n hx hb dX8_status_43 rfl (lv_at hl 0 rfl) ?_
      refine va_iald hx hb hK hP 1 0 rfl rfl (xin 3 7 (by decide) (by decide)) dX8_status_44 ?_
      refine xl_i (y := 0) rfl ?_
      refine lv_iadd hx hb dX8_status_45 ?_
      refine xl_i (y := 0) (by decide) ?_
      refine lv_istore_n (lv' := [(2, .int 0), (3, .int 3), (0, .ref h0), (1, .int p0)]) hx hb dX8_status_46 rfl hl (by decide) rfl (fun ls hl => ?_)
      refine lv_iinc (v := 4) (lv' := [(3, .int 4), (2, .int 0), (0, .ref h0), (1, .int p0)]) hx hb dX8_status_47 hl (k := 1) rfl (by decide) (by decide) rfl (fun ls hl => ?_)
      refine lv_goto (tgt := 32) hx hb dX8_status_50 (by decide) ?_
      refine lv_iload_n hx hb dX8_status_32 rfl (lv_at hl 0 rfl) ?_
      refine lv_bipush (v := 7) hx hb dX8_status_33 (by decide) ?_
      refine lv_icmp_ge (tgt := 53) hx hb dX8_status_35 (by decide) (fun c_11 => absurd c_11 (by decide)) (fun c_11 => ?_)
      refine lv_iload_n hx hb dX8_status_38 rfl (lv_at hl 1 rfl) ?_
      refine lv_aload_n hx hb dX8_status_39 rfl (lv_at hl 2 rfl) ?_
      refine xg hF kf_X8_70 hK hP 0 rfl rfl dX8_status_40 ?_
      refine lv_iload_n hx hb dX8_status_43 rfl (lv_at hl 0 rfl) ?_
      refine va_iald hx hb hK hP 1 0 rfl rfl (xin 4 7 (by decide) (by decide)) dX8_status_44 ?_
      refine xl_i (y := 0) rfl ?_
      refine lv_iadd hx hb dX8_status_45 ?_
      refine xl_i (y := 0) (by decide) ?_
      refine lv_istore_n (lv' := [(2, .int 0), (3, .int 4), (0, .ref h0), (1, .int p0)]) hx hb dX8_status_46 rfl hl (by decide) rfl (fun ls hl => ?_)
      refine lv_iinc (v := 5) (lv' := [(3, .int 5), (2, .int 0), (0, .ref h0), (1, .int p0)]) hx hb dX8_status_47 hl (k := 1) rfl (by decide) (by decide) rfl (fun ls hl => ?_)
      refine lv_goto (tgt := 32) hx hb dX8_status_50 (by decide) ?_
      refine lv_iload_n hx hb dX8_status_32 rfl (lv_at hl 0 rfl) ?_
      refine lv_bipush (v := 7) hx hb dX8_status_33 (by decide) ?_
      refine lv_icmp_ge (tgt := 53) hx hb dX8_status_35 (by decide) (fun c_12 => absurd c_12 (by decide)) (fun c_12 => ?_)
      refine lv_iload_n hx hb dX8_status_38 rfl (lv_at hl 1 rfl) ?_
      refine lv_aload_n hx hb dX8_status_39 rfl (lv_at hl 2 rfl) ?_
      refine xg hF kf_X8_70 hK hP 0 rfl rfl dX8_status_40 ?_
      refine lv_iload_n hx hb dX8_status_43 rfl (lv_at hl 0 rfl) ?_
      refine va_iald hx hb hK hP 1 0 rfl rfl (xin 5 7 (by decide) (by decide)) dX8_status_44 ?_
      refine xl_i (y := 0) rfl ?_
      refine lv_iadd hx hb dX8_status_45 ?_
      refine xl_i (y := 0) (by decide) ?_
      refine lv_istore_n (lv' := [(2, .int 0), (3, .int 5), (0, .ref h0), (1, .int p0)]) hx hb dX8_status_46 rfl hl (by decide) rfl (fun ls hl => ?_)
      refine lv_iinc (v := 6) (lv' := [(3, .int 6), (2, .int 0), (0, .ref h0), (1, .int p0)]) hx hb dX8_status_47 hl (k := 1) rfl (by decide) (by decide) rfl (fun ls hl => ?_)
      refine lv_goto (tgt := 32) hx hb dX8_status_50 (by decide) ?_
      refine lv_iload_n hx hb dX8_status_32 rfl (lv_at hl 0 rfl) ?_
      refine lv_bipush (v := 7) hx hb dX8_status_33 (by decide) ?_
      refine lv_icmp_ge (tgt := 53) hx hb dX8_status_35 (by decide) (fun c_13 => absurd c_13 (by decide)) (fun c_13 => ?_)
      refine lv_iload_n hx hb dX8_status_38 rfl (lv_at hl 1 rfl) ?_
      refine lv_aload_n hx hb dX8_status_39 rfl (lv_at hl 2 rfl) ?_
      refine xg hF kf_X8_70 hK hP 0 rfl rfl dX8_status_40 ?_
      refine lv_iload_n hx hb dX8_status_43 rfl (lv_at hl 0 rfl) ?_
      refine va_iald hx hb hK hP 1 0 rfl rfl (xin 6 7 (by decide) (by decide)) dX8_status_44 ?_
      refine xl_i (y := 0) rfl ?_
      refine lv_iadd hx hb dX8_status_45 ?_
      refine xl_i (y := 0) (by decide) ?_
      refine lv_istore_n (lv' := [(2, .int 0), (3, .int 6), (0, .ref h0), (1, .int p0)]) hx hb dX8_status_46 rfl hl (by decide) rfl (fun ls hl => ?_)
      refine lv_iinc (v := 7) (lv' := [(3, .int 7), (2, .int 0), (0, .ref h0), (1, .int p0)]) hx hb dX8_status_47 hl (k := 1) rfl (by decide) (by decide) rfl (fun ls hl => ?_)
      refine lv_goto (tgt := 32) hx hb dX8_status_50 (by decide) ?_
      refine lv_iload_n hx hb dX8_status_32 rfl (lv_at hl 0 rfl) ?_
      refine lv_bipush (v := 7) hx hb dX8_status_33 (by decide) ?_
      refine lv_icmp_ge (tgt := 53) hx hb dX8_status_35 (by decide) (fun c_14 => ?_) (fun c_14 => absurd (by decide) c_14)
      refine lv_iload_n hx hb dX8_status_53 rfl (lv_at hl 1 rfl) ?_
      exact W.iret (v := 0) hx hb hr (fun t ht hW => ⟨⟨0, (), rfl, (p_status2 h_2 h_3), by rw [ht]; exact hP.sub [] rfl, hD.sub [] (by decide) rfl⟩, hS.F ht⟩) hS.2.2 dX8_status_54 hlk
    · skip
      refine lv_aload_n hx hb dX8_status_21 rfl (lv_at hl 0 rfl) ?_
      refine xg hF kf_X8_70 hK hP 0 rfl rfl dX8_status_22 ?_
      refine lv_iload_n hx hb dX8_status_25 rfl (lv_at hl 1 rfl) ?_
      refine va_iald hx hb hK hP 1 0 rfl rfl (x_in7 c_6 h_3) dX8_status_26 ?_
      refine xl_i (y := 0) rfl ?_
      exact W.iret (v := 0) hx hb hr (fun t ht hW => ⟨⟨0, (), rfl, (p_status2 h_2 h_3), by rw [ht]; exact hP.sub [] rfl, hD.sub [] (by decide) rfl⟩, hS.F ht⟩) hS.2.2 dX8_status_27 hlk
  · skip
    refine lv_if_ne (tgt := 17) hx hb dX8_status_7 (by decide) (fun c_15 => absurd (by decide) c_15) (fun c_15 => ?_)
    refine lv_aload_n hx hb dX8_status_10 rfl (lv_at hl 0 rfl) ?_
    refine lv_ldc (v := (-1000000001)) hx hb hown (hu _ uw4) dX8_status_11 ?_
    refine xc_Vi (wr := []) hF (c_X8_finding_B l D cI cJ cZ cS sa s.heap.size h0 qh qk qd qa qm qs qp ql qt qz qf 0 (fun _ => 0) ) kv_X8_80 ⟨rfl, rfl, Nat.le_of_ble_eq_true rfl, Nat.le_of_ble_eq_true rfl⟩ ⟨Nat.le_of_ble_eq_true rfl, Nat.le_of_ble_eq_true rfl⟩ hK hN hP hD hS hA [0, 1] [] rfl rfl rfl rfl (by decide) 0 rfl rfl rfl rfl hl.1 rfl (Nat.le_of_ble_eq_true rfl) dX8_status_13 (fun r_16 u_r_16 H locs hw_r_16 hP hD hS => ?_)
    have hP : va_P D vwCl [] H := hP
    have hD : va_D A [] := hD
    subst hw_r_16
    exact W.iret (v := (-1000000001)) hx hb hr (fun t ht hW => ⟨⟨(-1000000001), (), rfl, (p_status1 h_4), by rw [ht]; exact hP.sub [] rfl, hD.sub [] (by decide) rfl⟩, hS.F ht⟩) hS.2.2 dX8_status_16 hlk
