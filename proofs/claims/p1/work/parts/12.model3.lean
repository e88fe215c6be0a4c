set_option maxHeartbeats 4000000 in
set_option maxRecDepth 100000 in
theorem c_X9_known (l : Launch) (D : va_G) (cI cJ cZ cS : ClassId) (sa : Nat → Nat) (sz : Nat) (h0 : Nat) (ys : Nat) (yk : Nat) (yo : Nat) (yt : Nat) (yfa : Nat) (yfe : Nat) (yro : Nat) (yhe : Nat) (ygr : Nat) (yta : Nat) (ywa : Nat) (ybi : Nat) (ysi : Nat) (ynu : Nat) (ymo : Nat) (p0 : Int32) : Met l yX9_known (Cond.code yX9_known cX9_known 7 (some .int) :: wsU) ({ frames := 1, cells := 0, slots := 0, locals := 25 }) (va_Pc [.ref h0, .int p0] (XW D (xT cI cJ cZ cS) sa [(h0, .inr (9, [.ref ys, .ref yk, .ref yo, .ref yt, .int 0, .ref yfa, .ref yfe, .int 0, .int 0, .int 0, .ref yro, .ref yhe, .ref ygr, .int 0, .int 0, .int 0, .ref yta, .int 0, .int 0, .int 0, .int 0, .int 0, .ref ywa, .ref ybi, .ref ysi, .ref ynu, .ref ymo])), (ys, .inl (cI, 449, .inl (fun _ => 0))), (yt, .inl (cI, 7, .inl (fun _ => 0)))] sz)) (XQi (fun (r : Int32) (_ : Unit) => r = a_known p0) D (fun _ : Unit => []) (va_A [(h0, .inr (9, [.ref ys, .ref yk, .ref yo, .ref yt, .int 0, .ref yfa, .ref yfe, .int 0, .int 0, .int 0, .ref yro, .ref yhe, .ref ygr, .int 0, .int 0, .int 0, .ref yta, .int 0, .int 0, .int 0, .int 0, .int 0, .ref ywa, .ref ybi, .ref ysi, .ref ynu, .ref ymo])), (ys, .inl (cI, 449, .inl (fun _ => 0))), (yt, .inl (cI, 7, .inl (fun _ => 0)))] sz)) 0 0 (va_A [(h0, .inr (9, [.ref ys, .ref yk, .ref yo, .ref yt, .int 0, .ref yfa, .ref yfe, .int 0, .int 0, .int 0, .ref yro, .ref yhe, .ref ygr, .int 0, .int 0, .int 0, .ref yta, .int 0, .int 0, .int 0, .int 0, .int 0, .ref ywa, .ref ybi, .ref ysi, .ref ynu, .ref ymo])), (ys, .inl (cI, 449, .inl (fun _ => 0))), (yt, .inl (cI, 7, .inl (fun _ => 0)))] sz) := by
  refine xhw (QA := fun A => XQi (fun (r : Int32) (_ : Unit) => r = a_known p0) D (fun _ : Unit => []) A) (by decide) (Nat.le_of_ble_eq_true rfl) ?_
  intro p e s m below meth c ls A hF hr hlk hin hsz hP hK hD hN hA hS hl
  have hF : CallFix p m c cX9_known 7 s _ _ RX9 := hF
  have hx := hF.1
  have hb := hF.2.1
  have hml := hF.2.2.1
  have hown := hF.2.2.2.1
  have hu : ∀ w ∈ wsU, w.before _ s = true := fun w h => hF.2.2.2.2 w (List.mem_cons_of_mem _ h)
  have hl : lv_has ls 7 [(0, .ref h0), (1, .int p0)] := hl
  refine lv_iload_n hx hb dX9_known_0 rfl (lv_at hl 1 rfl) ?_
  refine lv_i2l (v := p0.toInt64) hx hb dX9_known_1 rfl ?_
  refine lv_lconst (v := 0) hx hb dX9_known_2 (by decide) ?_
  refine xl_l (y := (0 : Int32).toInt64) (by decide) ?_
  refine lv_ldc2 (v := 2) hx hb hown (hu _ uw460) dX9_known_3 ?_
  refine xl_l (y := (2 : Int32).toInt64) (by decide) ?_
  refine xc_Sr hF (c_X9_in l D cI cJ cZ cS sa s.heap.size p0 0 2 ) ks_X9_57 ⟨rfl, rfl, Nat.le_of_ble_eq_true rfl, Nat.le_of_ble_eq_true rfl⟩ ⟨Nat.le_of_ble_eq_true rfl, Nat.le_of_ble_eq_true rfl⟩ hK hN hP hD [] rfl rfl rfl hl.1 rfl (Nat.le_of_ble_eq_true rfl) dX9_known_6 (fun r_1 hw_r_1 => ?_)
  rcases hw_r_1 with ⟨rfl, h_2, h_3⟩ | ⟨rfl, h_4⟩
  · skip
    refine lv_if_ne (tgt := 19) hx hb dX9_known_9 (by decide) (fun c_5 => ?_) (fun c_5 => absurd c_5 (by decide))
    refine lv_iconst (v := 0) hx hb dX9_known_19 (by decide) ?_
    refine lv_istore_n (lv' := [(2, .int 0), (0, .ref h0), (1, .int p0)]) hx hb dX9_known_20 rfl hl (by decide) rfl (fun ls hl => ?_)
    refine lv_iconst (v := 0) hx hb dX9_known_21 (by decide) ?_
    refine lv_istore_n (lv' := [(3, .int 0), (2, .int 0), (0, .ref h0), (1, .int p0)]) hx hb dX9_known_22 rfl hl (by decide) rfl (fun ls hl => ?_)
    refine lv_iconst (v := 0) hx hb dX9_known_23 (by decide) ?_
    refine lv_istore (lv' := [(4, .int 0), (3, .int 0), (2, .int 0), (0, .ref h0), (1, .int p0)]) hx hb dX9_known_24 hl (by decide) rfl (fun ls hl => ?_)
    refine lv_iconst (v := 0) hx hb dX9_known_26 (by decide) ?_
    refine lv_istore (lv' := [(5, .int 0), (4, .int 0), (3, .int 0), (2, .int 0), (0, .ref h0), (1, .int p0)]) hx hb dX9_known_27 hl (by decide) rfl (fun ls hl => ?_)
    suffices loop_7 : ∀ (n k_6 : Nat) (H : Heap) (locs : List Loc) (ls : Array Slot), k_6 + n = 100 → va_P D vwCl [(h0, .inr (9, [.ref ys, .ref yk, .ref yo, .ref yt, .int 0, .ref yfa, .ref yfe, .int 0, .int 0, .int 0, .ref yro, .ref yhe, .ref ygr, .int 0, .int 0, .int 0, .ref yta, .int 0, .int 0, .int 0, .int 0, .int 0, .ref ywa, .ref ybi, .ref ysi, .ref ynu, .ref ymo])), (ys, .inl (cI, 449, .inl (fun _ => 0))), (yt, .inl (cI, 7, .inl (fun _ => 0)))] H → va_D A [(h0, .inr (9, [.ref ys, .ref yk, .ref yo, .ref yt, .int 0, .ref yfa, .ref yfe, .int 0, .int 0, .int 0, .ref yro, .ref yhe, .ref ygr, .int 0, .int 0, .int 0, .ref yta, .int 0, .int 0, .int 0, .int 0, .int 0, .ref ywa, .ref ybi, .ref ysi, .ref ynu, .ref ymo])), (ys, .inl (cI, 449, .inl (fun _ => 0))), (yt, .inl (cI, 7, .inl (fun _ => 0)))] → va_S A s.heap H locs → lv_has ls 7 [(5, .int (nI (k_6))), (4, .int 0), (3, .int 0), (2, .int 0), (0, .ref h0), (1, .int p0)] → W p l e ({ frames := 1, cells := 0, slots := 0, locals := 25 }) s m ([.ref h0, .int p0] : List Value).toArray below meth c H locs 0 0 (MQ below (XQi (fun (r : Int32) (_ : Unit) => r = a_known p0) D (fun _ : Unit => []) A) ([.ref h0, .int p0] : List Value).toArray s 0 0 A) (F0 m 29 ls []) by
      exact loop_7 100 0  _ _ _ (by decide) hP hD hS (lv_sub hl [0, 1, 2, 3, 4, 5] rfl)
    intro n
    induction n with
    | zero =>
      intro k_6  H locs ls hk hP hD hS hl 
      have hk2 : k_6 = 100 := by omega
      subst hk2
      have hl : lv_has ls 7 [(5, .int 100), (4, .int 0), (3, .int 0), (2, .int 0), (0, .ref h0), (1, .int p0)] := hl
      refine lv_iload hx hb dX9_known_29 (lv_at hl 0 rfl) ?_
      refine lv_bipush (v := 100) hx hb dX9_known_31 (by decide) ?_
      refine lv_icmp_ge (tgt := 92) hx hb dX9_known_33 (by decide) (fun c_8 => ?_) (fun c_8 => absurd (by decide) c_8)
      refine lv_iload_n hx hb dX9_known_92 rfl (lv_at hl 5 rfl) ?_
      refine lv_if_ne (tgt := 100) hx hb dX9_known_93 (by decide) (fun c_9 => ?_) (fun c_9 => ?_)
      · skip
        refine lv_iload_n hx hb dX9_known_100 rfl (lv_at hl 5 rfl) ?_
        refine lv_iconst (v := 1) hx hb dX9_known_101 (by decide) ?_
        refine lv_icmp_ne (tgt := 109) hx hb dX9_known_102 (by decide) (fun c_10 => ?_) (fun c_10 => ?_)
        · skip
          refine lv_iload hx hb dX9_known_109 (lv_at hl 1 rfl) ?_
          exact W.iret (v := 0) hx hb hr (fun t ht hW => ⟨⟨0, (), rfl, (p_known0 h_2 h_3), by rw [ht]; exact hP.sub [] rfl, hD.sub [] (by decide) rfl⟩, hS.F ht⟩) hS.2.2 dX9_known_111 hlk
        · skip
          subst c_10
          refine lv_iload_n hx hb dX9_known_105 rfl (lv_at hl 2 rfl) ?_
          refine lv_goto (tgt := 111) hx hb dX9_known_106 (by decide) ?_
          exact W.iret (v := 0) hx hb hr (fun t ht hW => ⟨⟨0, (), rfl, (by decide), by rw [ht]; exact hP.sub [] rfl, hD.sub [] (by decide) rfl⟩, hS.F ht⟩) hS.2.2 dX9_known_111 hlk
      · skip
        subst c_9
        refine lv_iload_n hx hb dX9_known_96 rfl (lv_at hl 3 rfl) ?_
        refine lv_goto (tgt := 111) hx hb dX9_known_97 (by decide) ?_
        exact W.iret (v := 0) hx hb hr (fun t ht hW => ⟨⟨0, (), rfl, (by decide), by rw [ht]; exact hP.sub [] rfl, hD.sub [] (by decide) rfl⟩, hS.F ht⟩) hS.2.2 dX9_known_111 hlk
    | succ n ih =>
      intro k_6  H locs ls hk hP hD hS hl 
      have hlt_k_6 : k_6 < 100 := by omega
      refine lv_iload hx hb dX9_known_29 (lv_at hl 0 rfl) ?_
      refine lv_bipush (v := 100) hx hb dX9_known_31 (by decide) ?_
      refine lv_icmp_ge (tgt := 92) hx hb dX9_known_33 (by decide) (fun c_11 => absurd c_11 (nI_ge hlt_k_6 (by decide))) (fun c_11 => ?_)
      refine lv_aload_n hx hb dX9_known_36 rfl (lv_at hl 4 rfl) ?_
      refine lv_iload hx hb dX9_known_37 (lv_at hl 0 rfl) ?_
      refine xc_Vr hF (c_X9_between l D cI cJ cZ cS sa H.size h0 ys yk yo yt yfa yfe yro yhe ygr yta ywa ybi ysi ynu ymo k_6 (by first | assumption | omega | decide)) kv_X9_223 ⟨rfl, rfl, Nat.le_of_ble_eq_true rfl, Nat.le_of_ble_eq_true rfl⟩ ⟨Nat.le_of_ble_eq_true rfl, Nat.le_of_ble_eq_true rfl⟩ hK hN hP hD [0, 1] rfl rfl 0 rfl rfl rfl rfl hl.1 rfl (Nat.le_of_ble_eq_true rfl) dX9_known_39 (fun r_12 hw_r_12 => ?_)
      subst hw_r_12
      refine lv_istore (lv' := [(6, .int (-1)), (5, .int (nI (k_6))), (4, .int 0), (3, .int 0), (2, .int 0), (0, .ref h0), (1, .int p0)]) hx hb dX9_known_42 hl (by decide) rfl (fun ls hl => ?_)
      refine lv_iload_n hx hb dX9_known_44 rfl (lv_at hl 4 rfl) ?_
      refine lv_iload hx hb dX9_known_45 (lv_at hl 0 rfl) ?_
      refine lv_if_ge (tgt := 54) hx hb dX9_known_47 (by decide) (fun c_13 => absurd c_13 (by decide)) (fun c_13 => ?_)
      refine lv_iconst (v := 0) hx hb dX9_known_50 (by decide) ?_
      refine lv_goto (tgt := 55) hx hb dX9_known_51 (by decide) ?_
      refine lv_iadd hx hb dX9_known_55 ?_
      refine xl_i (y := 0) (by decide) ?_
      refine lv_istore_n (lv' := [(2, .int 0), (6, .int (-1)), (5, .int (nI (k_6))), (4, .int 0), (3, .int 0), (0, .ref h0), (1, .int p0)]) hx hb dX9_known_56 rfl hl (by decide) rfl (fun ls hl => ?_)
      refine lv_iload_n hx hb dX9_known_57 rfl (lv_at hl 4 rfl) ?_
      refine lv_iload hx hb dX9_known_58 (lv_at hl 1 rfl) ?_
      refine lv_if_le (tgt := 67) hx hb dX9_known_60 (by decide) (fun c_14 => ?_) (fun c_14 => absurd (by decide) c_14)
      refine lv_iconst (v := 0) hx hb dX9_known_67 (by decide) ?_
      refine lv_iadd hx hb dX9_known_68 ?_
      refine xl_i (y := 0) (by decide) ?_
      refine lv_istore_n (lv' := [(3, .int 0), (2, .int 0), (6, .int (-1)), (5, .int (nI (k_6))), (4, .int 0), (0, .ref h0), (1, .int p0)]) hx hb dX9_known_69 rfl hl (by decide) rfl (fun ls hl => ?_)
      refine lv_iload hx hb dX9_known_70 (lv_at hl 4 rfl) ?_
      refine lv_iload hx hb dX9_known_72 (lv_at hl 2 rfl) ?_
      refine lv_if_le (tgt := 82) hx hb dX9_known_74 (by decide) (fun c_15 => ?_) (fun c_15 => absurd (by decide) c_15)
      refine lv_iconst (v := 0) hx hb dX9_known_82 (by decide) ?_
      refine lv_iadd hx hb dX9_known_83 ?_
      refine xl_i (y := 0) (by decide) ?_
      refine lv_istore (lv' := [(4, .int 0), (3, .int 0), (2, .int 0), (6, .int (-1)), (5, .int (nI (k_6))), (0, .ref h0), (1, .int p0)]) hx hb dX9_known_84 hl (by decide) rfl (fun ls hl => ?_)
      refine lv_iinc (v := nI (k_6 + 1)) (lv' := [(5, .int (nI (k_6 + 1))), (4, .int 0), (3, .int 0), (2, .int 0), (6, .int (-1)), (0, .ref h0), (1, .int p0)]) hx hb dX9_known_86 hl (k := 4) rfl (nI_1 (k_6)) (by decide) rfl (fun ls hl => ?_)
      refine lv_goto (tgt := 29) hx hb dX9_known_89 (by decide) ?_
      exact ih (k_6 + 1)  _ _ _ (by omega) (hP.sub [0, 1, 2] rfl) (hD.sub [0, 1, 2] (by decide) rfl) hS (lv_sub hl [0, 1, 2, 3, 5, 6] rfl)
  · skip
    refine lv_if_ne (tgt := 19) hx hb dX9_known_9 (by decide) (fun c_16 => absurd (by decide) c_16) (fun c_16 => ?_)
    refine lv_aload_n hx hb dX9_known_12 rfl (lv_at hl 0 rfl) ?_
    refine lv_ldc (v := (-1000000001)) hx hb hown (hu _ uw352) dX9_known_13 ?_
    refine xc_Vi (wr := [(ys, .inl (cI, 449, .inl (fun _ => 0)))]) hF (c_X9_finds_B l D cI cJ cZ cS sa s.heap.size h0 ys yk yo yt yfa yfe yro yhe ygr yta ywa ybi ysi ynu ymo 0 0 0 (fun _ => 0) ) kv_X9_70 ⟨rfl, rfl, Nat.le_of_ble_eq_true rfl, Nat.le_of_ble_eq_true rfl⟩ ⟨Nat.le_of_ble_eq_true rfl, Nat.le_of_ble_eq_true rfl⟩ hK hN hP hD hS hA [0, 2] [1] rfl rfl rfl rfl (by decide) 0 rfl rfl rfl rfl hl.1 rfl (Nat.le_of_ble_eq_true rfl) dX9_known_15 (fun r_17 u_r_17 H locs hw_r_17 hP hD hS => ?_)
    have hP : va_P D vwCl [(ys, .inl (cI, 449, .inl (fun _ => 0)))] H := hP
    have hD : va_D A [(ys, .inl (cI, 449, .inl (fun _ => 0)))] := hD
    subst hw_r_17
    exact W.iret (v := (-1000000001)) hx hb hr (fun t ht hW => ⟨⟨(-1000000001), (), rfl, (p_known2 h_4), by rw [ht]; exact hP.sub [] rfl, hD.sub [] (by decide) rfl⟩, hS.F ht⟩) hS.2.2 dX9_known_18 hlk
set_option maxHeartbeats 4000000 in
set_option maxRecDepth 100000 in
theorem c_X9_feed (l : Launch) (D : va_G) (cI cJ cZ cS : ClassId) (sa : Nat → Nat) (sz : Nat) (h0 : Nat) (ys : Nat) (yk : Nat) (yo : Nat) (yt : Nat) (yfa : Nat) (yfe : Nat) (yro : Nat) (yhe : Nat) (ygr : Nat) (yta : Nat) (ywa : Nat) (ybi : Nat) (ysi : Nat) (ynu : Nat) (ymo : Nat) (p0 : Int32) (p1 : Int32) : Met l yX9_feed (Cond.code yX9_feed cX9_feed 4 (some .int) :: wsU) ({ frames := 1, cells := 0, slots := 0, locals := 25 }) (va_Pc [.ref h0, .int p0, .int p1] (XW D (xT cI cJ cZ cS) sa [(h0, .inr (9, [.ref ys, .ref yk, .ref yo, .ref yt, .int 0, .ref yfa, .ref yfe, .int 0, .int 0, .int 0, .ref yro, .ref yhe, .ref ygr, .int 0, .int 0, .int 0, .ref yta, .int 0, .int 0, .int 0, .int 0, .int 0, .ref ywa, .ref ybi, .ref ysi, .ref ynu, .ref ymo])), (yta, .inl (cI, 120, .inl (fun _ => 0))), (yt, .inl (cI, 7, .inl (fun _ => 0)))] sz)) (XQi (fun (r : Int32) (_ : Unit) => r = a_feed p1) D (fun _ : Unit => []) (va_A [(h0, .inr (9, [.ref ys, .ref yk, .ref yo, .ref yt, .int 0, .ref yfa, .ref yfe, .int 0, .int 0, .int 0, .ref yro, .ref yhe, .ref ygr, .int 0, .int 0, .int 0, .ref yta, .int 0, .int 0, .int 0, .int 0, .int 0, .ref ywa, .ref ybi, .ref ysi, .ref ynu, .ref ymo])), (yta, .inl (cI, 120, .inl (fun _ => 0))), (yt, .inl (cI, 7, .inl (fun _ => 0)))] sz)) 0 0 (va_A [(h0, .inr (9, [.ref ys, .ref yk, .ref yo, .ref yt, .int 0, .ref yfa, .ref yfe, .int 0, .int 0, .int 0, .ref yro, .ref yhe, .ref ygr, .int 0, .int 0, .int 0, .ref yta, .int 0, .int 0, .int 0, .int 0, .int 0, .ref ywa, .ref ybi, .ref ysi, .ref ynu, .ref ymo])), (yta, .inl (cI, 120, .inl (fun _ => 0))), (yt, .inl (cI, 7, .inl (fun _ => 0)))] sz) := by
  refine xhw (QA := fun A => XQi (fun (r : Int32) (_ : Unit) => r = a_feed p1) D (fun _ : Unit => []) A) (by decide) (Nat.le_of_ble_eq_true rfl) ?_
  intro p e s m below meth c ls A hF hr hlk hin hsz hP hK hD hN hA hS hl
  have hF : CallFix p m c cX9_feed 4 s _ _ RX9 := hF
  have hx := hF.1
  have hb := hF.2.1
  have hml := hF.2.2.1
  have hown := hF.2.2.2.1
  have hu : ∀ w ∈ wsU, w.before _ s = true := fun w h => hF.2.2.2.2 w (List.mem_cons_of_mem _ h)
  have hl : lv_has ls 4 [(0, .ref h0), (1, .int p0), (2, .int p1)] := hl
  refine lv_iload_n hx hb dX9_feed_0 rfl (lv_at hl 2 rfl) ?_
  refine lv_i2l (v := p1.toInt64) hx hb dX9_feed_1 rfl ?_
  refine lv_lconst (v := 1) hx hb dX9_feed_2 (by decide) ?_
  refine xl_l (y := (1 : Int32).toInt64) (by decide) ?_
  refine lv_ldc2 (v := 4) hx hb hown (hu _ uw461) dX9_feed_3 ?_
  refine xl_l (y := (4 : Int32).toInt64) (by decide) ?_
  refine xc_Sr hF (c_X9_in l D cI cJ cZ cS sa s.heap.size p1 1 4 ) ks_X9_57 ⟨rfl, rfl, Nat.le_of_ble_eq_true rfl, Nat.le_of_ble_eq_true rfl⟩ ⟨Nat.le_of_ble_eq_true rfl, Nat.le_of_ble_eq_true rfl⟩ hK hN hP hD [] rfl rfl rfl hl.1 rfl (Nat.le_of_ble_eq_true rfl) dX9_feed_6 (fun r_1 hw_r_1 => ?_)
  rcases hw_r_1 with ⟨rfl, h_2, h_3⟩ | ⟨rfl, h_4⟩
  · skip
    refine lv_if_ne (tgt := 19) hx hb dX9_feed_9 (by decide) (fun c_5 => ?_) (fun c_5 => absurd c_5 (by decide))
    rcases x_f4 h_2 h_3 with rfl | rfl | rfl | rfl
    · skip
      refine lv_aload_n hx hb dX9_feed_19 rfl (lv_at hl 0 rfl) ?_
      refine xg hF kf_X9_240 hK hP 0 rfl rfl dX9_feed_20 ?_
      refine lv_iload_n hx hb dX9_feed_23 rfl (lv_at hl 2 rfl) ?_
      refine lv_iadd hx hb dX9_feed_24 ?_
      refine xl_i (y := 1) (by decide) ?_
      refine lv_bipush (v := 120) hx hb dX9_feed_25 (by decide) ?_
      refine lv_icmp_le (tgt := 37) hx hb dX9_feed_27 (by decide) (fun c_6 => ?_) (fun c_6 => absurd (by decide) c_6)
      refine lv_iload_n hx hb dX9_feed_37 rfl (lv_at hl 2 rfl) ?_
      refine lv_iconst (v := 1) hx hb dX9_feed_38 (by decide) ?_
      refine lv_isub hx hb dX9_feed_39 ?_
      refine xl_i (y := 0) (by decide) ?_
      refine lv_istore_n (lv' := [(3, .int 0), (0, .ref h0), (1, .int p0), (2, .int 1)]) hx hb dX9_feed_40 rfl hl (by decide) rfl (fun ls hl => ?_)
      refine lv_iload_n hx hb dX9_feed_41 rfl (lv_at hl 0 rfl) ?_
      refine lv_if_lt (tgt := 80) hx hb dX9_feed_42 (by decide) (fun c_7 => absurd c_7 (by decide)) (fun c_7 => ?_)
      refine lv_aload_n hx hb dX9_feed_45 rfl (lv_at hl 1 rfl) ?_
      refine xg hF kf_X9_37 hK hP 0 rfl rfl dX9_feed_46 ?_
      refine lv_aload_n hx hb dX9_feed_49 rfl (lv_at hl 1 rfl) ?_
      refine xg hF kf_X9_240 hK hP 0 rfl rfl dX9_feed_50 ?_
      refine lv_iload_n hx hb dX9_feed_53 rfl (lv_at hl 2 rfl) ?_
      refine lv_bipush (v := 8) hx hb dX9_feed_54 (by decide) ?_
      refine lv_iload_n hx hb dX9_feed_56 rfl (lv_at hl 0 rfl) ?_
      refine lv_imul hx hb dX9_feed_57 ?_
      refine xl_i (y := 0) (by decide) ?_
      refine lv_ishr hx hb dX9_feed_58 ?_
      refine lv_topi (fun x_8 ex_8 => ?_)
      refine lv_sipush (v := 255) hx hb dX9_feed_59 (by decide) ?_
      refine lv_iand hx hb dX9_feed_62 ?_
      refine lv_topi (fun x_9 ex_9 => ?_)
      refine va_iast hx hb hK hP hD hS 1 0 rfl rfl (xin 0 120 (by decide) (by decide)) dX9_feed_63 (fun H locs hP hD hS => ?_)
      obtain ⟨f_10, ef_10⟩ : ∃ g, g = upd (fun _ => 0) (0 : Int32).toNatClampNeg x_9 := ⟨_, rfl⟩
      rw [← ef_10] at hP hD
      have hP : va_P D vwCl [(h0, .inr (9, [.ref ys, .ref yk, .ref yo, .ref yt, .int 0, .ref yfa, .ref yfe, .int 0, .int 0, .int 0, .ref yro, .ref yhe, .ref ygr, .int 0, .int 0, .int 0, .ref yta, .int 0, .int 0, .int 0, .int 0, .int 0, .ref ywa, .ref ybi, .ref ysi, .ref ynu, .ref ymo])), (yta, .inl (cI, 120, .inl f_10)), (yt, .inl (cI, 7, .inl (fun _ => 0)))] H := hP
      have hD : va_D A [(h0, .inr (9, [.ref ys, .ref yk, .ref yo, .ref yt, .int 0, .ref yfa, .ref yfe, .int 0, .int 0, .int 0, .ref yro, .ref yhe, .ref ygr, .int 0, .int 0, .int 0, .ref yta, .int 0, .int 0, .int 0, .int 0, .int 0, .ref ywa, .ref ybi, .ref ysi, .ref ynu, .ref ymo])), (yta, .inl (cI, 120, .inl f_10)), (yt, .inl (cI, 7, .inl (fun _ => 0)))] := hD
      refine lv_aload_n hx hb dX9_feed_64 rfl (lv_at hl 1 rfl) ?_
      refine lv_dup hx hb dX9_feed_65 rfl ?_
      refine xg hF kf_X9_240 hK hP 0 rfl rfl dX9_feed_66 ?_
      refine lv_iconst (v := 1) hx hb dX9_feed_69 (by decide) ?_
      refine lv_iadd hx hb dX9_feed_70 ?_
      refine xl_i (y := 1) (by decide) ?_
      refine xp hF kf_X9_240 tyX9_ok nmX9 hK hP hD hS 0 rfl rfl rfl rfl (Nat.le_of_ble_eq_true rfl) dX9_feed_71 (fun H locs hP hD hS => ?_)
      have hP : va_P D vwCl [(h0, .inr (9, [.ref ys, .ref yk, .ref yo, .ref yt, .int 0, .ref yfa, .ref yfe, .int 0, .int 0, .int 0, .ref yro, .ref yhe, .ref ygr, .int 0, .int 0, .int 0, .ref yta, .int 1, .int 0, .int 0, .int 0, .int 0, .ref ywa, .ref ybi, .ref ysi, .ref ynu, .ref ymo])), (yta, .inl (cI, 120, .inl f_10)), (yt, .inl (cI, 7, .inl (fun _ => 0)))] H := hP
      have hD : va_D A [(h0, .inr (9, [.ref ys, .ref yk, .ref yo, .ref yt, .int 0, .ref yfa, .ref yfe, .int 0, .int 0, .int 0, .ref yro, .ref yhe, .ref ygr, .int 0, .int 0, .int 0, .ref yta, .int 1, .int 0, .int 0, .int 0, .int 0, .ref ywa, .ref ybi, .ref ysi, .ref ynu, .ref ymo])), (yta, .inl (cI, 120, .inl f_10)), (yt, .inl (cI, 7, .inl (fun _ => 0)))] := hD
      refine lv_iinc (v := (-1)) (lv' := [(3, .int (-1)), (0, .ref h0), (1, .int p0), (2, .int 1)]) hx hb dX9_feed_74 hl (k := 0) rfl (by decide) (by decide) rfl (fun ls hl => ?_)
      refine lv_goto (tgt := 41) hx hb dX9_feed_77 (by decide) ?_
      refine lv_iload_n hx hb dX9_feed_41 rfl (lv_at hl 0 rfl) ?_
      refine lv_if_lt (tgt := 80) hx hb dX9_feed_42 (by decide) (fun c_11 => ?_) (fun c_11 => absurd (by decide) c_11)
      refine lv_aload_n hx hb dX9_feed_80 rfl (lv_at hl 1 rfl) ?_
      refine xg hF kf_X9_240 hK hP 0 rfl rfl dX9_feed_81 ?_
      exact W.iret (v := 1) hx hb hr (fun t ht hW => ⟨⟨1, (), rfl, (by first | rfl | decide | simp), by rw [ht]; exact hP.sub [] rfl, hD.sub [] (by decide) rfl⟩, hS.F ht⟩) hS.2.2 dX9_feed_84 hlk
    · skip
      refine lv_aload_n hx hb dX9_feed_19 rfl (lv_at hl 0 rfl) ?_
      refine xg hF kf_X9_240 hK hP 0 rfl rfl dX9_feed_20 ?_
      refine lv_iload_n hx hb dX9_feed_23 rfl (lv_at hl 2 rfl) ?_
      refine lv_iadd hx hb dX9_feed_24 ?_
      refine xl_i (y := 2) (by decide) ?_
      refine lv_bipush (v := 120) hx hb dX9_feed_25 (by decide) ?_
      refine lv_icmp_le (tgt := 37) hx hb dX9_feed_27 (by decide) (fun c_12 => ?_) (fun c_12 => absurd (by decide) c_12)
      refine lv_iload_n hx hb dX9_feed_37 rfl (lv_at hl 2 rfl) ?_
      refine lv_iconst (v := 1) hx hb dX9_feed_38 (by decide) ?_
      refine lv_isub hx hb dX9_feed_39 ?_
      refine xl_i (y := 1) (by decide) ?_
      refine lv_istore_n (lv' := [(3, .int 1), (0, .ref h0), (1, .int p0), (2, .int 2)]) hx hb dX9_feed_40 rfl hl (by decide) rfl (fun ls hl => ?_)
      refine lv_iload_n hx hb dX9_feed_41 rfl (lv_at hl 0 rfl) ?_
      refine lv_if_lt (tgt := 80) hx hb dX9_feed_42 (by decide) (fun c_13 => absurd c_13 (by decide)) (fun c_13 => ?_)
      refine lv_aload_n hx hb dX9_feed_45 rfl (lv_at hl 1 rfl) ?_
      refine xg hF kf_X9_37 hK hP 0 rfl rfl dX9_feed_46 ?_
      refine lv_aload_n hx hb dX9_feed_49 rfl (lv_at hl 1 rfl) ?_
      refine xg hF kf_X9_240 hK hP 0 rfl rfl dX9_feed_50 ?_
      refine lv_iload_n hx hb dX9_feed_53 rfl (lv_at hl 2 rfl) ?_
      refine lv_bipush (v := 8) hx hb dX9_feed_54 (by decide) ?_
      refine lv_iload_n hx hb dX9_feed_56 rfl (lv_at hl 0 rfl) ?_
      refine lv_imul hx hb dX9_feed_57 ?_
      refine xl_i (y := 8) (by decide) ?_
      refine lv_ishr hx hb dX9_feed_58 ?_
      refine lv_topi (fun x_14 ex_14 => ?_)
      refine lv_sipush (v := 255) hx hb dX9_feed_59 (by decide) ?_
      refine lv_iand hx hb dX9_feed_62 ?_
      refine lv_topi (fun x_15 ex_15 => ?_)
      refine va_iast hx hb hK hP hD hS 1 0 rfl rfl (xin 0 120 (by decide) (by decide)) dX9_feed_63 (fun H locs hP hD hS => ?_)
      obtain ⟨f_16, ef_16⟩ : ∃ g, g = upd (fun _ => 0) (0 : Int32).toNatClampNeg x_15 := ⟨_, rfl⟩
      rw [← ef_16] at hP hD
      have hP : va_P D vwCl [(h0, .inr (9, [.ref ys, .ref yk, .ref yo, .ref yt, .int 0, .ref yfa, .ref yfe, .int 0, .int 0, .int 0, .ref yro, .ref yhe, .ref ygr, .int 0, .int 0, .int 0, .ref yta, .int 0, .int 0, .int 0, .int 0, .int 0, .ref ywa, .ref ybi, .ref ysi, .ref ynu, .ref ymo])), (yta, .inl (cI, 120, .inl f_16)), (yt, .inl (cI, 7, .inl (fun _ => 0)))] H := hP
      have hD : va_D A [(h0, .inr (9, [.ref ys, .ref yk, .ref yo, .ref yt, .int 0, .ref yfa, .ref yfe, .int 0, .int 0, .int 0, .ref yro, .ref yhe, .ref ygr, .int 0, .int 0, .int 0, .ref yta, .int 0, .int 0, .int 0, .int 0, .int 0, .ref ywa, .ref ybi, .ref ysi, .ref ynu, .ref ymo])), (yta, .inl (cI, 120, .inl f_16)), (yt, .inl (cI, 7, .inl (fun _ => 0)))] := hD
      refine lv_aload_n hx hb dX9_feed_64 rfl (lv_at hl 1 rfl) ?_
      refine lv_dup hx hb dX9_feed_65 rfl ?_
      refine xg hF kf_X9_240 hK hP 0 rfl rfl dX9_feed_66 ?_
      refine lv_iconst (v := 1) hx hb dX9_feed_69 (by decide) ?_
      refine lv_iadd hx hb dX9_feed_70 ?_
      refine xl_i (y := 1) (by decide) ?_
      refine xp hF kf_X9_240 tyX9_ok nmX9 hK hP hD hS 0 rfl rfl rfl rfl (Nat.le_of_ble_eq_true rfl) dX9_feed_71 (fun H locs hP hD hS => ?_)
      have hP : va_P D vwCl [(h0, .inr (9, [.ref ys, .ref yk, .ref yo, .ref yt, .int 0, .ref yfa, .ref yfe, .int 0, .int 0, .int 0, .ref yro, .ref yhe, .ref ygr, .int 0, .int 0, .int 0, .ref yta, .int 1, .int 0, .int 0, .int 0, .int 0, .ref ywa, .ref ybi, .ref ysi, .ref ynu, .ref ymo])), (yta, .inl (cI, 120, .inl f_16)), (yt, .inl (cI, 7, .inl (fun _ => 0)))] H := hP
      have hD : va_D A [(h0, .inr (9, [.ref ys, .ref yk, .ref yo, .ref yt, .int 0, .ref yfa, .ref yfe, .int 0, .int 0, .int 0, .ref yro, .ref yhe, .ref ygr, .int 0, .int 0, .int 0, .ref yta, .int 1, .int 0, .int 0, .int 0, .int 0, .ref ywa, .ref ybi, .ref ysi, .ref ynu, .ref ymo])), (yta, .inl (cI, 120, .inl f_16)), (yt, .inl (cI, 7, .inl (fun _ => 0)))] := hD
      refine lv_iinc (v := 0) (lv' := [(3, .int 0), (0, .ref h0), (1, .int p0), (2, .int 2)]) hx hb dX9_feed_74 hl (k := 0) rfl (by decide) (by decide) rfl (fun ls hl => ?_)
      refine lv_goto (tgt := 41) hx hb dX9_feed_77 (by decide) ?_
      refine lv_iload_n hx hb dX9_feed_41 rfl (lv_at hl 0 rfl) ?_
      refine lv_if_lt (tgt := 80) hx hb dX9_feed_42 (by decide) (fun c_17 => absurd c_17 (by decide)) (fun c_17 => ?_)
      refine lv_aload_n hx hb dX9_feed_45 rfl (lv_at hl 1 rfl) ?_
      refine xg hF kf_X9_37 hK hP 0 rfl rfl dX9_feed_46 ?_
      refine lv_aload_n hx hb dX9_feed_49 rfl (lv_at hl 1 rfl) ?_
      refine xg hF kf_X9_240 hK hP 0 rfl rfl dX9_feed_50 ?_
      refine lv_iload_n hx hb dX9_feed_53 rfl (lv_at hl 2 rfl) ?_
      refine lv_bipush (v := 8) hx hb dX9_feed_54 (by decide) ?_
      refine lv_iload_n hx hb dX9_feed_56 rfl (lv_at hl 0 rfl) ?_
      refine lv_imul hx hb dX9_feed_57 ?_
      refine xl_i (y := 0) (by decide) ?_
      refine lv_ishr hx hb dX9_feed_58 ?_
      refine lv_topi (fun x_18 ex_18 => ?_)
      refine lv_sipush (v := 255) hx hb dX9_feed_59 (by decide) ?_
      refine lv_iand hx hb dX9_feed_62 ?_
      refine lv_topi (fun x_19 ex_19 => ?_)
      refine va_iast hx hb hK hP hD hS 1 0 rfl rfl (xin 1 120 (by decide) (by decide)) dX9_feed_63 (fun H locs hP hD hS => ?_)
      obtain ⟨f_20, ef_20⟩ : ∃ g, g = upd f_16 (1 : Int32).toNatClampNeg x_19 := ⟨_, rfl⟩
      rw [← ef_20] at hP hD
      have hP : va_P D vwCl [(h0, .inr (9, [.ref ys, .ref yk, .ref yo, .ref yt, .int 0, .ref yfa, .ref yfe, .int 0, .int 0, .int 0, .ref yro, .ref yhe, .ref ygr, .int 0, .int 0, .int 0, .ref yta, .int 1, .int 0, .int 0, .int 0, .int 0, .ref ywa, .ref ybi, .ref ysi, .ref ynu, .ref ymo])), (yta, .inl (cI, 120, .inl f_20)), (yt, .inl (cI, 7, .inl (fun _ => 0)))] H := hP
      have hD : va_D A [(h0, .inr (9, [.ref ys, .ref yk, .ref yo, .ref yt, .int 0, .ref yfa, .ref yfe, .int 0, .int 0, .int 0, .ref yro, .ref yhe, .ref ygr, .int 0, .int 0, .int 0, .ref yta, .int 1, .int 0, .int 0, .int 0, .int 0, .ref ywa, .ref ybi, .ref ysi, .ref ynu, .ref ymo])), (yta, .inl (cI, 120, .inl f_20)), (yt, .inl (cI, 7, .inl (fun _ => 0)))] := hD
      refine lv_aload_n hx hb dX9_feed_64 rfl (lv_at hl 1 rfl) ?_
      refine lv_dup hx hb dX9_feed_65 rfl ?_
      refine xg hF kf_X9_240 hK hP 0 rfl rfl dX9_feed_66 ?_
      refine lv_iconst (v := 1) hx hb dX9_feed_69 (by decide) ?_
      refine lv_iadd hx hb dX9_feed_70 ?_
      refine xl_i (y := 2) (by decide) ?_
      refine xp hF kf_X9_240 tyX9_ok nmX9 hK hP hD hS 0 rfl rfl rfl rfl (Nat.le_of_ble_eq_true rfl) dX9_feed_71 (fun H locs hP hD hS => ?_)
      have hP : va_P D vwCl [(h0, .inr (9, [.ref ys, .ref yk, .ref yo, .ref yt, .int 0, .ref yfa, .ref yfe, .int 0, .int 0, .int 0, .ref yro, .ref yhe, .ref ygr, .int 0, .int 0, .int 0, .ref yta, .int 2, .int 0, .int 0, .int 0, .int 0, .ref ywa, .ref ybi, .ref ysi, .ref ynu, .ref ymo])), (yta, .inl (cI, 120, .inl f_20)), (yt, .inl (cI, 7, .inl (fun _ => 0)))] H := hP
      have hD : va_D A [(h0, .inr (9, [.ref ys, .ref yk, .ref yo, .ref yt, .int 0, .ref yfa, .ref yfe, .int 0, .int 0, .int 0, .ref yro, .ref yhe, .ref ygr, .int 0, .int 0, .int 0, .ref yta, .int 2, .int 0, .int 0, .int 0, .int 0, .ref ywa, .ref ybi, .ref ysi, .ref ynu, .ref ymo])), (yta, .inl (cI, 120, .inl f_20)), (yt, .inl (cI, 7, .inl (fun _ => 0)))] := hD
      refine lv_iinc (v := (-1)) (lv' := [(3, .int (-1)), (0, .ref h0), (1, .int p0), (2, .int 2)]) hx hb dX9_feed_74 hl (k := 0) rfl (by decide) (by decide) rfl (fun ls hl => ?_)
      refine lv_goto (tgt := 41) hx hb dX9_feed_77 (by decide) ?_
      refine lv_iload_n hx hb dX9_feed_41 rfl (lv_at hl 0 rfl) ?_
      refine lv_if_lt (tgt := 80) hx hb dX9_feed_42 (by decide) (fun c_21 => ?_) (fun c_21 => absurd (by decide) c_21)
      refine lv_aload_n hx hb dX9_feed_80 rfl (lv_at hl 1 rfl) ?_
      refine xg hF kf_X9_240 hK hP 0 rfl rfl dX9_feed_81 ?_
      exact W.iret (v := 2) hx hb hr (fun t ht hW => ⟨⟨2, (), rfl, (by first | rfl | decide | simp), by rw [ht]; exact hP.sub [] rfl, hD.sub [] (by decide) rfl⟩, hS.F ht⟩) hS.2.2 dX9_feed_84 hlk
    · skip
      refine lv_aload_n hx hb dX9_feed_19 rfl (lv_at hl 0 rfl) ?_
      refine xg hF kf_X9_240 hK hP 0 rfl rfl dX9_feed_20 ?_
      refine lv_iload_n hx hb dX9_feed_23 rfl (lv_at hl 2 rfl) ?_
      refine lv_iadd hx hb dX9_feed_24 ?_
      refine xl_i (y := 3) (by decide) ?_
      refine lv_bipush (v := 120) hx hb dX9_feed_25 (by decide) ?_
      refine lv_icmp_le (tgt := 37) hx hb dX9_feed_27 (by decide) (fun c_22 => ?_) (fun c_22 => absurd (by decide) c_22)
      refine lv_iload_n hx hb dX9_feed_37 rfl (lv_at hl 2 rfl) ?_
      refine lv_iconst (v := 1) hx hb dX9_feed_38 (by decide) ?_
      refine lv_isub hx hb dX9_feed_39 ?_
      refine xl_i (y := 2) (by decide) ?_
      refine lv_istore_n (lv' := [(3, .int 2), (0, .ref h0), (1, .int p0), (2, .int 3)]) hx hb dX9_feed_40 rfl hl (by decide) rfl (fun ls hl => ?_)
      refine lv_iload_n hx hb dX9_feed_41 rfl (lv_at hl 0 rfl) ?_
      refine lv_if_lt (tgt := 80) hx hb dX9_feed_42 (by decide) (fun c_23 => absurd c_23 (by decide)) (fun c_23 => ?_)
      refine lv_aload_n hx hb dX9_feed_45 rfl (lv_at hl 1 rfl) ?_
      refine xg hF kf_X9_37 hK hP 0 rfl rfl dX9_feed_46 ?_
      refine lv_aload_n hx hb dX9_feed_49 rfl (lv_at hl 1 rfl) ?_
      refine xg hF kf_X9_240 hK hP 0 rfl rfl dX9_feed_50 ?_
      refine lv_iload_n hx hb dX9_feed_53 rfl (lv_at hl 2 rfl) ?_
      refine lv_bipush (v := 8) hx hb dX9_feed_54 (by decide) ?_
      refine lv_iload_n hx hb dX9_feed_56 rfl (lv_at hl 0 rfl) ?_
      refine lv_imul hx hb dX9_feed_57 ?_
      refine xl_i (y := 16) (by decide) ?_
      refine lv_ishr hx hb dX9_feed_58 ?_
      refine lv_topi (fun x_24 ex_24 => ?_)
      refine lv_sipush (v := 255) hx hb dX9_feed_59 (by decide) ?_
      refine lv_iand hx hb dX9_feed_62 ?_
      refine lv_topi (fun x_25 ex_25 => ?_)
      refine va_iast hx hb hK hP hD hS 1 0 rfl rfl (xin 0 120 (by decide) (by decide)) dX9_feed_63 (fun H locs hP hD hS => ?_)
      obtain ⟨f_26, ef_26⟩ : ∃ g, g = upd (fun _ => 0) (0 : Int32).toNatClampNeg x_25 := ⟨_, rfl⟩
      rw [← ef_26] at hP hD
      have hP : va_P D vwCl [(h0, .inr (9, [.ref ys, .ref yk, .ref yo, .ref yt, .int 0, .ref yfa, .ref yfe, .int 0, .int 0, .int 0, .ref yro, .ref yhe, .ref ygr, .int 0, .int 0, .int 0, .ref yta, .int 0, .int 0, .int 0, .int 0, .int 0, .ref ywa, .ref ybi, .ref ysi, .ref ynu, .ref ymo])), (yta, .inl (cI, 120, .inl f_26)), (yt, .inl (cI, 7, .inl (fun _ => 0)))] H := hP
      have hD : va_D A [(h0, .inr (9, [.ref ys, .ref yk, .ref yo, .ref yt, .int 0, .ref yfa, .ref yfe, .int 0, .int 0, .int 0, .ref yro, .ref yhe, .ref ygr, .int 0, .int 0, .int 0, .ref yta, .int 0, .int 0, .int 0, .int 0, .int 0, .ref ywa, .ref ybi, .ref ysi, .ref ynu, .ref ymo])), (yta, .inl (cI, 120, .inl f_26)), (yt, .inl (cI, 7, .inl (fun _ => 0)))] := hD
      refine lv_aload_n hx hb dX9_feed_64 rfl (lv_at hl 1 rfl) ?_
      refine lv_dup hx hb dX9_feed_65 rfl ?_
      refine xg hF kf_X9_240 hK hP 0 rfl rfl dX9_feed_66 ?_
      refine lv_iconst (v := 1) hx hb dX9_feed_69 (by decide) ?_
      refine lv_iadd hx hb dX9_feed_70 ?_
      refine xl_i (y := 1) (by decide) ?_
      refine xp hF kf_X9_240 tyX9_ok nmX9 hK hP hD hS 0 rfl rfl rfl rfl (Nat.le_of_ble_eq_true rfl) dX9_feed_71 (fun H locs hP hD hS => ?_)
      have hP : va_P D vwCl [(h0, .inr (9, [.ref ys, .ref yk, .ref yo, .ref yt, .int 0, .ref yfa, .ref yfe, .int 0, .int 0, .int 0, .ref yro, .ref yhe, .ref ygr, .int 0, .int 0, .int 0, .ref yta, .int 1, .int 0, .int 0, .int 0, .int 0, .ref ywa, .ref ybi, .ref ysi, .ref ynu, .ref ymo])), (yta, .inl (cI, 120, .inl f_26)), (yt, .inl (cI, 7, .inl (fun _ => 0)))] H := hP
      have hD : va_D A [(h0, .inr (9, [.ref ys, .ref yk, .ref yo, .ref yt, .int 0, .ref yfa, .ref yfe, .int 0, .int 0, .int 0, .ref yro, .ref yhe, .ref ygr, .int 0, .int 0, .int 0, .ref yta, .int 1, .int 0, .int 0, .int 0, .int 0, .ref ywa, .ref ybi, .ref ysi, .ref ynu, .ref ymo])), (yta, .inl (cI, 120, .inl f_26)), (yt, .inl (cI, 7, .inl (fun _ => 0)))] := hD
      refine lv_iinc (v := 1) (lv' := [(3, .int 1), (0, .ref h0), (1, .int p0), (2, .int 3)]) hx hb dX9_feed_74 hl (k := 0) rfl (by decide) (by decide) rfl (fun ls hl => ?_)
      refine lv_goto (tgt := 41) hx hb dX9_feed_77 (by decide) ?_
      refine lv_iload_n hx hb dX9_feed_41 rfl (lv_at hl 0 rfl) ?_
      refine lv_if_lt (tgt := 80) hx hb dX9_feed_42 (by decide) (fun c_27 => absurd c_27 (by decide)) (fun c_27 => ?_)
      refine lv_aload_n hx hb dX9_feed_45 rfl (lv_at hl 1 rfl) ?_
      refine xg hF kf_X9_37 hK hP 0 rfl rfl dX9_feed_46 ?_
      refine lv_aload_n hx hb dX9_feed_49 rfl (lv_at hl 1 rfl) ?_
      refine xg hF kf_X9_240 hK hP 0 rfl rfl dX9_feed_50 ?_
      refine lv_iload_n hx hb dX9_feed_53 rfl (lv_at hl 2 rfl) ?_
      refine lv_bipush (v := 8) hx hb dX9_feed_54 (by decide) ?_
      refine lv_iload_n hx hb dX9_feed_56 rfl (lv_at hl 0 rfl) ?_
      refine lv_imul hx hb dX9_feed_57 ?_
      refine xl_i (y := 8) (by decide) ?_
      refine lv_ishr hx hb dX9_feed_58 ?_
      refine lv_topi (fun x_28 ex_28 => ?_)
      refine lv_sipush (v := 255) hx hb dX9_feed_59 (by decide) ?_
      refine lv_iand hx hb dX9_feed_62 ?_
      refine lv_topi (fun x_29 ex_29 => ?_)
      refine va_iast hx hb hK hP hD hS 1 0 rfl rfl (xin 1 120 (by decide) (by decide)) dX9_feed_63 (fun H locs hP hD hS => ?_)
      obtain ⟨f_30, ef_30⟩ : ∃ g, g = upd f_26 (1 : Int32).toNatClampNeg x_29 := ⟨_, rfl⟩
      rw [← ef_30] at hP hD
      have hP : va_P D vwCl [(h0, .inr (9, [.ref ys, .ref yk, .ref yo, .ref yt, .int 0, .ref yfa, .ref yfe, .int 0, .int 0, .int 0, .ref yro, .ref yhe, .ref ygr, .int 0, .int 0, .int 0, .ref yta, .int 1, .int 0, .int 0, .int 0, .int 0, .ref ywa, .ref ybi, .ref ysi, .ref ynu, .ref ymo])), (yta, .inl (cI, 120, .inl f_30)), (yt, .inl (cI, 7, .inl (fun _ => 0)))] H := hP
      have hD : va_D A [(h0, .inr (9, [.ref ys, .ref yk, .ref yo, .ref yt, .int 0, .ref yfa, .ref yfe, .int 0, .int 0, .int 0, .ref yro, .ref yhe, .ref ygr, .int 0, .int 0, .int 0, .ref yta, .int 1, .int 0, .int 0, .int 0, .int 0, .ref ywa, .ref ybi, .ref ysi, .ref ynu, .ref ymo])), (yta, .inl (cI, 120, .inl f_30)), (yt, .inl (cI, 7, .inl (fun _ => 0)))] := hD
      refine lv_aload_n hx hb dX9_feed_64 rfl (lv_at hl 1 rfl) ?_
      refine lv_dup hx hb dX9_feed_65 rfl ?_
      refine xg hF kf_X9_240 hK hP 0 rfl rfl dX9_feed_66 ?_
      refine lv_iconst (v := 1) hx hb dX9_feed_69 (by decide) ?_
      refine lv_iadd hx hb dX9_feed_70 ?_
      refine xl_i (y := 2) (by decide) ?_
      refine xp hF kf_X9_240 tyX9_ok nmX9 hK hP hD hS 0 rfl rfl rfl rfl (Nat.le_of_ble_eq_true rfl) dX9_feed_71 (fun H locs hP hD hS => ?_)
      have hP : va_P D vwCl [(h0, .inr (9, [.ref ys, .ref yk, .ref yo, .ref yt, .int 0, .ref yfa, .ref yfe, .int 0, .int 0, .int 0, .ref yro, .ref yhe, .ref ygr, .int 0, .int 0, .int 0, .ref yta, .int 2, .int 0, .int 0, .int 0, .int 0, .ref ywa, .ref ybi, .ref ysi, .ref ynu, .ref ymo])), (yta, .inl (cI, 120, .inl f_30)), (yt, .inl (cI, 7, .inl (fun _ => 0)))] H := hP
      have hD : va_D A [(h0, .inr (9, [.ref ys, .ref yk, .ref yo, .ref yt, .int 0, .ref yfa, .ref yfe, .int 0, .int 0, .int 0, .ref yro, .ref yhe, .ref ygr, .int 0, .int 0, .int 0, .ref yta, .int 2, .int 0, .int 0, .int 0, .int 0, .ref ywa, .ref ybi, .ref ysi, .ref ynu, .ref ymo])), (yta, .inl (cI, 120, .inl f_30)), (yt, .inl (cI, 7, .inl (fun _ => 0)))] := hD
      refine lv_iinc (v := 0) (lv' := [(3, .int 0), (0, .ref h0), (1, .int p0), (2, .int 3)]) hx hb dX9_feed_74 hl (k := 0) rfl (by decide) (by decide) rfl (fun ls hl => ?_)
      refine lv_goto (tgt := 41) hx hb dX9_feed_77 (by decide) ?_
      refine lv_iload_n hx hb dX9_feed_41 rfl (lv_at hl 0 rfl) ?_
      refine lv_if_lt (tgt := 80) hx hb dX9_feed_42 (by decide) (fun c_31 => absurd c_31 (by decide)) (fun c_31 => ?_)
      refine lv_aload_n hx hb dX9_feed_45 rfl (lv_at hl 1 rfl) ?_
      refine xg hF kf_X9_37 hK hP 0 rfl rfl dX9_feed_46 ?_
      refine lv_aload_n hx hb dX9_feed_49 rfl (lv_at hl 1 rfl) ?_
      refine xg hF kf_X9_240 hK hP 0 rfl rfl dX9_feed_50 ?_
      refine lv_iload_n hx hb dX9_feed_53 rfl (lv_at hl 2 rfl) ?_
      refine lv_bipush (v := 8) hx hb dX9_feed_54 (by decide) ?_
      refine lv_iload_n hx hb dX9_feed_56 rfl (lv_at hl 0 rfl) ?_
      refine lv_imul hx hb dX9_feed_57 ?_
      refine xl_i (y := 0) (by decide) ?_
      refine lv_ishr hx hb dX9_feed_58 ?_
      refine lv_topi (fun x_32 ex_32 => ?_)
      refine lv_sipush (v := 255) hx hb dX9_feed_59 (by decide) ?_
      refine lv_iand hx hb dX9_feed_62 ?_
      refine lv_topi (fun x_33 ex_33 => ?_)
      refine va_iast hx hb hK hP hD hS 1 0 rfl rfl (xin 2 120 (by decide) (by decide)) dX9_feed_63 (fun H locs hP hD hS => ?_)
      obtain ⟨f_34, ef_34⟩ : ∃ g, g = upd f_30 (2 : Int32).toNatClampNeg x_33 := ⟨_, rfl⟩
      rw [← ef_34] at hP hD
      have hP : va_P D vwCl [(h0, .inr (9, [.ref ys, .ref yk, .ref yo, .ref yt, .int 0, .ref yfa, .ref yfe, .int 0, .int 0, .int 0, .ref yro, .ref yhe, .ref ygr, .int 0, .int 0, .int 0, .ref yta, .int 2, .int 0, .int 0, .int 0, .int 0, .ref ywa, .ref ybi, .ref ysi, .ref ynu, .ref ymo])), (yta, .inl (cI, 120, .inl f_34)), (yt, .inl (cI, 7, .inl (fun _ => 0)))] H := hP
      have hD : va_D A [(h0, .inr (9, [.ref ys, .ref yk, .ref yo, .ref yt, .int 0, .ref yfa, .ref yfe, .int 0, .int 0, .int 0, .ref yro, .ref yhe, .ref ygr, .int 0, .int 0, .int 0, .ref yta, .int 2, .int 0, .int 0, .int 0, .int 0, .ref ywa, .ref ybi, .ref ysi, .ref ynu, .ref ymo])), (yta, .inl (cI, 120, .inl f_34)), (yt, .inl (cI, 7, .inl (fun _ => 0)))] := hD
      refine lv_aload_n hx hb dX9_feed_64 rfl (lv_at hl 1 rfl) ?_
      refine lv_dup hx hb dX9_feed_65 rfl ?_
      refine xg hF kf_X9_240 hK hP 0 rfl rfl dX9_feed_66 ?_
      refine lv_iconst (v := 1) hx hb dX9_feed_69 (by decide) ?_
      refine lv_iadd hx hb dX9_feed_70 ?_
      refine xl_i (y := 3) (by decide) ?_
      refine xp hF kf_X9_240 tyX9_ok nmX9 hK hP hD hS 0 rfl rfl rfl rfl (Nat.le_of_ble_eq_true rfl) dX9_feed_71 (fun H locs hP hD hS => ?_)
      have hP : va_P D vwCl [(h0, .inr (9, [.ref ys, .ref yk, .ref yo, .ref yt, .int 0, .ref yfa, .ref yfe, .int 0, .int 0, .int 0, .ref yro, .ref yhe, .ref ygr, .int 0, .int 0, .int 0, .ref yta, .int 3, .int 0, .int 0, .int 0, .int 0, .ref ywa, .ref ybi, .ref ysi, .ref ynu, .ref ymo])), (yta, .inl (cI, 120, .inl f_34)), (yt, .inl (cI, 7, .inl (fun _ => 0)))] H := hP
      have hD : va_D A [(h0, .inr (9, [.ref ys, .ref yk, .ref yo, .ref yt, .int 0, .ref yfa, .ref yfe, .int 0, .int 0, .int 0, .ref yro, .ref yhe, .ref ygr, .int 0, .int 0, .int 0, .ref yta, .int 3, .int 0, .int 0, .int 0, .int 0, .ref ywa, .ref ybi, .ref ysi, .ref ynu, .ref ymo])), (yta, .inl (cI, 120, .inl f_34)), (yt, .inl (cI, 7, .inl (fun _ => 0)))] := hD
      refine lv_iinc (v := (-1)) (lv' := [(3, .int (-1)), (0, .ref h0), (1, .int p0), (2, .int 3)]) hx hb dX9_feed_74 hl (k := 0) rfl (by decide) (by decide) rfl (fun ls hl => ?_)
      refine lv_goto (tgt := 41) hx hb dX9_feed_77 (by decide) ?_
      refine lv_iload_n hx hb dX9_feed_41 rfl (lv_at hl 0 rfl) ?_
      refine lv_if_lt (tgt := 80) hx hb dX9_feed_42 (by decide) (fun c_35 => ?_) (fun c_35 => absurd (by decide) c_35)
      refine lv_aload_n hx hb dX9_feed_80 rfl (lv_at hl 1 rfl) ?_
      refine xg hF kf_X9_240 hK hP 0 rfl rfl dX9_feed_81 ?_
      exact W.iret (v := 3) hx hb hr (fun t ht hW => ⟨⟨3, (), rfl, (by first | rfl | decide | simp), by rw [ht]; exact hP.sub [] rfl, hD.sub [] (by decide) rfl⟩, hS.F ht⟩) hS.2.2 dX9_feed_84 hlk
    · skip
      refine lv_aload_n hx hb dX9_feed_19 rfl (lv_at hl 0 rfl) ?_
      refine xg hF kf_X9_240 hK hP 0 rfl rfl dX9_feed_20 ?_
      refine lv_iload_n hx hb dX9_feed_23 rfl (lv_at hl 2 rfl) ?_
      refine lv_iadd hx hb dX9_feed_24 ?_
      refine xl_i (y := 4) (by decide) ?_
      refine lv_bipush (v := 120) hx hb dX9_feed_25 (by decide) ?_
      refine lv_icmp_le (tgt := 37) hx hb dX9_feed_27 (by decide) (fun c_36 => ?_) (fun c_36 => absurd (by decide) c_36)
      refine lv_iload_n hx hb dX9_feed_37 rfl (lv_at hl 2 rfl) ?_
      refine lv_iconst (v := 1) hx hb dX9_feed_38 (by decide) ?_
      refine lv_isub hx hb dX9_feed_39 ?_
      refine xl_i (y := 3) (by decide) ?_
      refine lv_istore_n (lv' := [(3, .int 3), (0, .ref h0), (1, .int p0), (2, .int 4)]) hx hb dX9_feed_40 rfl hl (by decide) rfl (fun ls hl => ?_)
      refine lv_iload_n hx hb dX9_feed_41 rfl (lv_at hl 0 rfl) ?_
      refine lv_if_lt (tgt := 80) hx hb dX9_feed_42 (by decide) (fun c_37 => absurd c_37 (by decide)) (fun c_37 => ?_)
      refine lv_aload_n hx hb dX9_feed_45 rfl (lv_at hl 1 rfl) ?_
      refine xg hF kf_X9_37 hK hP 0 rfl rfl dX9_feed_46 ?_
      refine lv_aload_n hx hb dX9_feed_49 rfl (lv_at hl 1 rfl) ?_
      refine xg hF kf_X9_240 hK hP 0 rfl rfl dX9_feed_50 ?_
      refine lv_iload_n hx hb dX9_feed_53 rfl (lv_at hl 2 rfl) ?_
      refine lv_bipush (v := 8) hx hb dX9_feed_54 (by decide) ?_
      refine lv_iload_n hx hb dX9_feed_56 rfl (lv_at hl 0 rfl) ?_
      refine lv_imul hx hb dX9_feed_57 ?_
      refine xl_i (y := 24) (by decide) ?_
      refine lv_ishr hx hb dX9_feed_58 ?_
      refine lv_topi (fun x_38 ex_38 => ?_)
      refine lv_sipush (v := 255) hx hb dX9_feed_59 (by decide) ?_
      refine lv_iand hx hb dX9_feed_62 ?_
      refine lv_topi (fun x_39 ex_39 => ?_)
      refine va_iast hx hb hK hP hD hS 1 0 rfl rfl (xin 0 120 (by decide) (by decide)) dX9_feed_63 (fun H locs hP hD hS => ?_)
      obtain ⟨f_40, ef_40⟩ : ∃ g, g = upd (fun _ => 0) (0 : Int32).toNatClampNeg x_39 := ⟨_, rfl⟩
      rw [← ef_40] at hP hD
      have hP : va_P D vwCl [(h0, .inr (9, [.ref ys, .ref yk, .ref yo, .ref yt, .int 0, .ref yfa, .ref yfe, .int 0, .int 0, .int 0, .ref yro, .ref yhe, .ref ygr, .int 0, .int 0, .int 0, .ref yta, .int 0, .int 0, .int 0, .int 0, .int 0, .ref ywa, .ref ybi, .ref ysi, .ref ynu, .ref ymo])), (yta, .inl (cI, 120, .inl f_40)), (yt, .inl (cI, 7, .inl (fun _ => 0)))] H := hP
      have hD : va_D A [(h0, .inr (9, [.ref ys, .ref yk, .ref yo, .ref yt, .int 0, .ref yfa, .ref yfe, .int 0, .int 0, .int 0, .ref yro, .ref yhe, .ref ygr, .int 0, .int 0, .int 0, .ref yta, .int 0, .int 0, .int 0, .int 0, .int 0, .ref ywa, .ref ybi, .ref ysi, .ref ynu, .ref ymo])), (yta, .inl (cI, 120, .inl f_40)), (yt, .inl (cI, 7, .inl (fun _ => 0)))] := hD
      refine lv_aload_n hx hb dX9_feed_64 rfl (lv_at hl 1 rfl) ?_
      refine lv_dup hx hb dX9_feed_65 rfl ?_
      refine xg hF kf_X9_240 hK hP 0 rfl rfl dX9_feed_66 ?_
      refine lv_iconst (v := 1) hx hb dX9_feed_69 (by decide) ?_
      refine lv_iadd hx hb dX9_feed_70 ?_
      refine xl_i (y := 1) (by decide) ?_
      refine xp hF kf_X9_240 tyX9_ok nmX9 hK hP hD hS 0 rfl rfl rfl rfl (Nat.le_of_ble_eq_true rfl) dX9_feed_71 (fun H locs hP hD hS => ?_)
      have hP : va_P D vwCl [(h0, .inr (9, [.ref ys, .ref yk, .ref yo, .ref yt, .int 0, .ref yfa, .ref yfe, .int 0, .int 0, .int 0, .ref yro, .ref yhe, .ref ygr, .int 0, .int 0, .int 0, .ref yta, .int 1, .int 0, .int 0, .int 0, .int 0, .ref ywa, .ref ybi, .ref ysi, .ref ynu, .ref ymo])), (yta, .inl (cI, 120, .inl f_40)), (yt, .inl (cI, 7, .inl (fun _ => 0)))] H := hP
      have hD : va_D A [(h0, .inr (9, [.ref ys, .ref yk, .ref yo, .ref yt, .int 0, .ref yfa, .ref yfe, .int 0, .int 0, .int 0, .ref yro, .ref yhe, .ref ygr, .int 0, .int 0, .int 0, .ref yta, .int 1, .int 0, .int 0, .int 0, .int 0, .ref ywa, .ref ybi, .ref ysi, .ref ynu, .ref ymo])), (yta, .inl (cI, 120, .inl f_40)), (yt, .inl (cI, 7, .inl (fun _ => 0)))] := hD
      refine lv_iinc (v := 2) (lv' := [(3, .int 2), (0, .ref h0), (1, .int p0), (2, .int 4)]) hx hb dX9_feed_74 hl (k := 0) rfl (by decide) (by decide) rfl (fun ls hl => ?_)
      refine lv_goto (tgt := 41) hx hb dX9_feed_77 (by decide) ?_
      refine lv_iload_n hx hb dX9_feed_41 rfl (lv_at hl 0 rfl) ?_
      refine lv_if_lt (tgt := 80) hx hb dX9_feed_42 (by decide) (fun c_41 => absurd c_41 (by decide)) (fun c_41 => ?_)
      refine lv_aload_n hx hb dX9_feed_45 rfl (lv_at hl 1 rfl) ?_
      refine xg hF kf_X9_37 hK hP 0 rfl rfl dX9_feed_46 ?_
      refine lv_aload_n hx hb dX9_feed_49 rfl (lv_at hl 1 rfl) ?_
      refine xg hF kf_X9_240 hK hP 0 rfl rfl dX9_feed_50 ?_
      refine lv_iload_n hx hb dX9_feed_53 rfl (lv_at hl 2 rfl) ?_
      refine lv_bipush (v := 8) hx hb dX9_feed_54 (by decide) ?_
      refine lv_iload_n hx hb dX9_feed_56 rfl (lv_at hl 0 rfl) ?_
      refine lv_imul hx hb dX9_feed_57 ?_
      refine xl_i (y := 16) (by decide) ?_
      refine lv_ishr hx hb dX9_feed_58 ?_
      refine lv_topi (fun x_42 ex_42 => ?_)
      refine lv_sipush (v := 255) hx hb dX9_feed_59 (by decide) ?_
      refine lv_iand hx hb dX9_feed_62 ?_
      refine lv_topi (fun x_43 ex_43 => ?_)
      refine va_iast hx hb hK hP hD hS 1 0 rfl rfl (xin 1 120 (by decide) (by decide)) dX9_feed_63 (fun H locs hP hD hS => ?_)
      obtain ⟨f_44, ef_44⟩ : ∃ g, g = upd f_40 (1 : Int32).toNatClampNeg x_43 := ⟨_, rfl⟩
      rw [← ef_44] at hP hD
      have hP : va_P D vwCl [(h0, .inr (9, [.ref ys, .ref yk, .ref yo, .ref yt, .int 0, .ref yfa, .ref yfe, .int 0, .int 0, .int 0, .ref yro, .ref yhe, .ref ygr, .int 0, .int 0, .int 0, .ref yta, .int 1, .int 0, .int 0, .int 0, .int 0, .ref ywa, .ref ybi, .ref ysi, .ref ynu, .ref ymo])), (yta, .inl (cI, 120, .inl f_44)), (yt, .inl (cI, 7, .inl (fun _ => 0)))] H := hP
      have hD : va_D A [(h0, .inr (9, [.ref ys, .ref yk, .ref yo, .ref yt, .int 0, .ref yfa, .ref yfe, .int 0, .int 0, .int 0, .ref yro, .ref yhe, .ref ygr, .int 0, .int 0, .int 0, .ref yta, .int 1, .int 0, .int 0, .int 0, .int 0, .ref ywa, .ref ybi, .ref ysi, .ref ynu, .ref ymo])), (yta, .inl (cI, 120, .inl f_44)), (yt, .inl (cI, 7, .inl (fun _ => 0)))] := hD
      refine lv_aload_n hx hb dX9_feed_64 rfl (lv_at hl 1 rfl) ?_
      refine lv_dup hx hb dX9_feed_65 rfl ?_
      refine xg hF kf_X9_240 hK hP 0 rfl rfl dX9_feed_66 ?_
      refine lv_iconst (v := 1) hx hb dX9_feed_69 (by decide) ?_
      refine lv_iadd hx hb dX9_feed_70 ?_
      refine xl_i (y := 2) (by decide) ?_
      refine xp hF kf_X9_240 tyX9_ok nmX9 hK hP hD hS 0 rfl rfl rfl rfl (Nat.le_of_ble_eq_true rfl) dX9_feed_71 (fun H locs hP hD hS => ?_)
      have hP : va_P D vwCl [(h0, .inr (9, [.ref ys, .ref yk, .ref yo, .ref yt, .int 0, .ref yfa, .ref yfe, .int 0, .int 0, .int 0, .ref yro, .ref yhe, .ref ygr, .int 0, .int 0, .int 0, .ref yta, .int 2, .int 0, .int 0, .int 0, .int 0, .ref ywa, .ref ybi, .ref ysi, .ref ynu, .ref ymo])), (yta, .inl (cI, 120, .inl f_44)), (yt, .inl (cI, 7, .inl (fun _ => 0)))] H := hP
      have hD : va_D A [(h0, .inr (9, [.ref ys, .ref yk, .ref yo, .ref yt, .int 0, .ref yfa, .ref yfe, .int 0, .int 0, .int 0, .ref yro, .ref yhe, .ref ygr, .int 0, .int 0, .int 0, .ref yta, .int 2, .int 0, .int 0, .int 0, .int 0, .ref ywa, .ref ybi, .ref ysi, .ref ynu, .ref ymo])), (yta, .inl (cI, 120, .inl f_44)), (yt, .inl (cI, 7, .inl (fun _ => 0)))] := hD
      refine lv_iinc (v := 1) (lv' := [(3, .int 1), (0, .ref h0), (1, .int p0), (2, .int 4)]) hx hb dX9_feed_74 hl (k := 0) rfl (by decide) (by decide) rfl (fun ls hl => ?_)
      refine lv_goto (tgt := 41) hx hb dX9_feed_77 (by decide) ?_
      refine lv_iload_n hx hb dX9_feed_41 rfl (lv_at hl 0 rfl) ?_
      refine lv_if_lt (tgt := 80) hx hb dX9_feed_42 (by decide) (fun c_45 => absurd c_45 (by decide)) (fun c_45 => ?_)
      refine lv_aload_n hx hb dX9_feed_45 rfl (lv_at hl 1 rfl) ?_
      refine xg hF kf_X9_37 hK hP 0 rfl rfl dX9_feed_46 ?_
      refine lv_aload_n hx hb dX9_feed_49 rfl (lv_at hl 1 rfl) ?_
      refine xg hF kf_X9_240 hK hP 0 rfl rfl dX9_feed_50 ?_
      refine lv_iload_n hx hb dX9_feed_53 rfl (lv_at hl 2 rfl) ?_
      refine lv_bipush (v := 8) hx hb dX9_feed_54 (by decide) ?_
      refine lv_iload_n hx hb dX9_feed_56 rfl (lv_at hl 0 rfl) ?_
      refine lv_imul hx hb dX9_feed_57 ?_
      refine xl_i (y := 8) (by decide) ?_
      refine lv_ishr hx hb dX9_feed_58 ?_
      refine lv_topi (fun x_46 ex_46 => ?_)
      refine lv_sipush (v := 255) hx hb dX9_feed_59 (by decide) ?_
      refine lv_iand hx hb dX9_feed_62 ?_
      refine lv_topi (fun x_47 ex_47 => ?_)
      refine va_iast hx hb hK hP hD hS 1 0 rfl rfl (xin 2 120 (by decide) (by decide)) dX9_feed_63 (fun H locs hP hD hS => ?_)
      obtain ⟨f_48, ef_48⟩ : ∃ g, g = upd f_44 (2 : Int32).toNatClampNeg x_47 := ⟨_, rfl⟩
      rw [← ef_48] at hP hD
      have hP : va_P D vwCl [(h0, .inr (9, [.ref ys, .ref yk, .ref yo, .ref yt, .int 0, .ref yfa, .ref yfe, .int 0, .int 0, .int 0, .ref yro, .ref yhe, .ref ygr, .int 0, .int 0, .int 0, .ref yta, .int 2, .int 0, .int 0, .int 0, .int 0, .ref ywa, .ref ybi, .ref ysi, .ref ynu, .ref ymo])), (yta, .inl (cI, 120, .inl f_48)), (yt, .inl (cI, 7, .inl (fun _ => 0)))] H := hP
      have hD : va_D A [(h0, .inr (9, [.ref ys, .ref yk, .ref yo, .ref yt, .int 0, .ref yfa, .ref yfe, .int 0, .int 0, .int 0, .ref yro, .ref yhe, .ref ygr, .int 0, .int 0, .int 0, .ref yta, .int 2, .int 0, .int 0, .int 0, .int 0, .ref ywa, .ref ybi, .ref ysi, .ref ynu, .ref ymo])), (yta, .inl (cI, 120, .inl f_48)), (yt, .inl (cI, 7, .inl (fun _ => 0)))] := hD
      refine lv_aload_n hx hb dX9_feed_64 rfl (lv_at hl 1 rfl) ?_
      refine lv_dup hx hb dX9_feed_65 rfl ?_
      refine xg hF kf_X9_240 hK hP 0 rfl rfl dX9_feed_66 ?_
      refine lv_iconst (v := 1) hx hb dX9_feed_69 (by decide) ?_
      refine lv_iadd hx hb dX9_feed_70 ?_
      refine xl_i (y := 3) (by decide) ?_
      refine xp hF kf_X9_240 tyX9_ok nmX9 hK hP hD hS 0 rfl rfl rfl rfl (Nat.le_of_ble_eq_true rfl) dX9_feed_71 (fun H locs hP hD hS => ?_)
      have hP : va_P D vwCl [(h0, .inr (9, [.ref ys, .ref yk, .ref yo, .ref yt, .int 0, .ref yfa, .ref yfe, .int 0, .int 0, .int 0, .ref yro, .ref yhe, .ref ygr, .int 0, .int 0, .int 0, .ref yta, .int 3, .int 0, .int 0, .int 0, .int 0, .ref ywa, .ref ybi, .ref ysi, .ref ynu, .ref ymo])), (yta, .inl (cI, 120, .inl f_48)), (yt, .inl (cI, 7, .inl (fun _ => 0)))] H := hP
      have hD : va_D A [(h0, .inr (9, [.ref ys, .ref yk, .ref yo, .ref yt, .int 0, .ref yfa, .ref yfe, .int 0, .int 0, .int 0, .ref yro, .ref yhe, .ref ygr, .int 0, .int 0, .int 0, .ref yta, .int 3, .int 0, .int 0, .int 0, .int 0, .ref ywa, .ref ybi, .ref ysi, .ref ynu, .ref ymo])), (yta, .inl (cI, 120, .inl f_48)), (yt, .inl (cI, 7, .inl (fun _ => 0)))] := hD
      refine lv_iinc (v := 0) (lv' := [(3, .int 0), (0, .ref h0), (1, .int p0), (2, .int 4)]) hx hb dX9_feed_74 hl (k := 0) rfl (by decide) (by decide) rfl (fun ls hl => ?_)
      refine lv_goto (tgt := 41) hx hb dX9_feed_77 (by decide) ?_
      refine lv_iload_n hx hb dX9_feed_41 rfl (lv_at hl 0 rfl) ?_
      refine lv_if_lt (tgt := 80) hx hb dX9_feed_42 (by decide) (fun c_49 => absurd c_49 (by decide)) (fun c_49 => ?_)
      refine lv_aload_n hx hb dX9_feed_45 rfl (lv_at hl 1 rfl) ?_
      refine xg hF kf_X9_37 hK hP 0 rfl rfl dX9_feed_46 ?_
      refine lv_aload_n hx hb dX9_feed_49 rfl (lv_at hl 1 rfl) ?_
      refine xg hF kf_X9_240 hK hP 0 rfl rfl dX9_feed_50 ?_
      refine lv_iload_n hx hb dX9_feed_53 rfl (lv_at hl 2 rfl) ?_
      refine lv_bipush (v := 8) hx hb dX9_feed_54 (by decide) ?_
      refine lv_iload_n hx hb dX9_feed_56 rfl (lv_at hl 0 rfl) ?_
      refine lv_imul hx hb dX9_feed_57 ?_
      refine xl_i (y := 0) (by decide) ?_
      refine lv_ishr hx hb dX9_feed_58 ?_
      refine lv_topi (fun x_50 ex_50 => ?_)
      refine lv_sipush (v := 255) hx hb dX9_feed_59 (by decide) ?_
      refine lv_iand hx hb dX9_feed_62 ?_
      refine lv_topi (fun x_51 ex_51 => ?_)
      refine va_iast hx hb hK hP hD hS 1 0 rfl rfl (xin 3 120 (by decide) (by decide)) dX9_feed_63 (fun H locs hP hD hS => ?_)
      obtain ⟨f_52, ef_52⟩ : ∃ g, g = upd f_48 (3 : Int32).toNatClampNeg x_51 := ⟨_, rfl⟩
      rw [← ef_52] at hP hD
      have hP : va_P D vwCl [(h0, .inr (9, [.ref ys, .ref yk, .ref yo, .ref yt, .int 0, .ref yfa, .ref yfe, .int 0, .int 0, .int 0, .ref yro, .ref yhe, .ref ygr, .int 0, .int 0, .int 0, .ref yta, .int 3, .int 0, .int 0, .int 0, .int 0, .ref ywa, .ref ybi, .ref ysi, .ref ynu, .ref ymo])), (yta, .inl (cI, 120, .inl f_52)), (yt, .inl (cI, 7, .inl (fun _ => 0)))] H := hP
      have hD : va_D A [(h0, .inr (9, [.ref ys, .ref yk, .ref yo, .ref yt, .int 0, .ref yfa, .ref yfe, .int 0, .int 0, .int 0, .ref yro, .ref yhe, .ref ygr, .int 0, .int 0, .int 0, .ref yta, .int 3, .int 0, .int 0, .int 0, .int 0, .ref ywa, .ref ybi, .ref ysi, .ref ynu, .ref ymo])), (yta, .inl (cI, 120, .inl f_52)), (yt, .inl (cI, 7, .inl (fun _ => 0)))] := hD
      refine lv_aload_n hx hb dX9_feed_64 rfl (lv_at hl 1 rfl) ?_
      refine lv_dup hx hb dX9_feed_65 rfl ?_
      refine xg hF kf_X9_240 hK hP 0 rfl rfl dX9_feed_66 ?_
      refine lv_iconst (v := 1) hx hb dX9_feed_69 (by decide) ?_
      refine lv_iadd hx hb dX9_feed_70 ?_
      refine xl_i (y := 4) (by decide) ?_
      refine xp hF kf_X9_240 tyX9_ok nmX9 hK hP hD hS 0 rfl rfl rfl rfl (Nat.le_of_ble_eq_true rfl) dX9_feed_71 (fun H locs hP hD hS => ?_)
      have hP : va_P D vwCl [(h0, .inr (9, [.ref ys, .ref yk, .ref yo, .ref yt, .int 0, .ref yfa, .ref yfe, .int 0, .int 0, .int 0, .ref yro, .ref yhe, .ref ygr, .int 0, .int 0, .int 0, .ref yta, .int 4, .int 0, .int 0, .int 0, .int 0, .ref ywa, .ref ybi, .ref ysi, .ref ynu, .ref ymo])), (yta, .inl (cI, 120, .inl f_52)), (yt, .inl (cI, 7, .inl (fun _ => 0)))] H := hP
      have hD : va_D A [(h0, .inr (9, [.ref ys, .ref yk, .ref yo, .ref yt, .int 0, .ref yfa, .ref yfe, .int 0, .int 0, .int 0, .ref yro, .ref yhe, .ref ygr, .int 0, .int 0, .int 0, .ref yta, .int 4, .int 0, .int 0, .int 0, .int 0, .ref ywa, .ref ybi, .ref ysi, .ref ynu, .ref ymo])), (yta, .inl (cI, 120, .inl f_52)), (yt, .inl (cI, 7, .inl (fun _ => 0)))] := hD
      refine lv_iinc (v := (-1)) (lv' := [(3, .int (-1)), (0, .ref h0), (1, .int p0), (2, .int 4)]) hx hb dX9_feed_74 hl (k := 0) rfl (by decide) (by decide) rfl (fun ls hl => ?_)
      refine lv_goto (tgt := 41) hx hb dX9_feed_77 (by decide) ?_
      refine lv_iload_n hx hb dX9_feed_41 rfl (lv_at hl 0 rfl) ?_
      refine lv_if_lt (tgt := 80) hx hb dX9_feed_42 (by decide) (fun c_53 => ?_) (fun c_53 => absurd (by decide) c_53)
      refine lv_aload_n hx hb dX9_feed_80 rfl (lv_at hl 1 rfl) ?_
      refine xg hF kf_X9_240 hK hP 0 rfl rfl dX9_feed_81 ?_
      exact W.iret (v := 4) hx hb hr (fun t ht hW => ⟨⟨4, (), rfl, (by first | rfl | decide | simp), by rw [ht]; exact hP.sub [] rfl, hD.sub [] (by decide) rfl⟩, hS.F ht⟩) hS.2.2 dX9_feed_84 hlk
  · skip
    refine lv_if_ne (tgt := 19) hx hb dX9_feed_9 (by decide) (fun c_54 => absurd (by decide) c_54) (fun c_54 => ?_)
    refine lv_aload_n hx hb dX9_feed_12 rfl (lv_at hl 0 rfl) ?_
    refine lv_ldc (v := (-1000000001)) hx hb hown (hu _ uw352) dX9_feed_13 ?_
    refine xc_Vi (wr := [(yta, .inl (cI, 120, .inl (fun _ => 0)))]) hF (c_X9_finds_B l D cI cJ cZ cS sa s.heap.size h0 ys yk yo yt yfa yfe yro yhe ygr yta ywa ybi ysi ynu ymo 0 0 0 (fun _ => 0) ) kv_X9_70 ⟨rfl, rfl, Nat.le_of_ble_eq_true rfl, Nat.le_of_ble_eq_true rfl⟩ ⟨Nat.le_of_ble_eq_true rfl, Nat.le_of_ble_eq_true rfl⟩ hK hN hP hD hS hA [0, 2] [1] rfl rfl rfl rfl (by decide) 0 rfl rfl rfl rfl hl.1 rfl (Nat.le_of_ble_eq_true rfl) dX9_feed_15 (fun r_55 u_r_55 H locs hw_r_55 hP hD hS => ?_)
    have hP : va_P D vwCl [(yta, .inl (cI, 120, .inl (fun _ => 0)))] H := hP
    have hD : va_D A [(yta, .inl (cI, 120, .inl (fun _ => 0)))] := hD
    subst hw_r_55
    exact W.iret (v := (-1000000001)) hx hb hr (fun t ht hW => ⟨⟨(-1000000001), (), rfl, (p_feed h_4), by rw [ht]; exact hP.sub [] rfl, hD.sub [] (by decide) rfl⟩, hS.F ht⟩) hS.2.2 dX9_feed_18 hlk
set_option maxHeartbeats 4000000 in
set_option maxRecDepth 100000 in
theorem c_X9_write (l : Launch) (D : va_G) (cI cJ cZ cS : ClassId) (sa : Nat → Nat) (sz : Nat) (h0 : Nat) (ys : Nat) (yk : Nat) (yo : Nat) (yt : Nat) (yfa : Nat) (yfe : Nat) (yro : Nat) (yhe : Nat) (ygr : Nat) (yta : Nat) (ywa : Nat) (ybi : Nat) (ysi : Nat) (ynu : Nat) (ymo : Nat) (p0 : Int32) (p1 : Int32) (p2 : Int64) : Met l yX9_write (Cond.code yX9_write cX9_write 8 (some .long) :: wsU) ({ frames := 3, cells := 0, slots := 0, locals := 66 }) (va_Pc [.ref h0, .int p0, .int p1, .long p2] (XW D (xT cI cJ cZ cS) sa [(h0, .inr (9, [.ref ys, .ref yk, .ref yo, .ref yt, .int 0, .ref yfa, .ref yfe, .int 0, .int 0, .int 0, .ref yro, .ref yhe, .ref ygr, .int 0, .int 0, .int 0, .ref yta, .int 0, .int 0, .int 0, .int 0, .int 0, .ref ywa, .ref ybi, .ref ysi, .ref ynu, .ref ymo])), (ybi, .inl (cI, 4, .inl (fun _ => 0))), (yt, .inl (cI, 7, .inl (fun _ => 0)))] sz)) (XQl (fun (r : Int64) (_ : Unit) => r = a_wr p0) D (fun _ : Unit => []) (va_A [(h0, .inr (9, [.ref ys, .ref yk, .ref yo, .ref yt, .int 0, .ref yfa, .ref yfe, .int 0, .int 0, .int 0, .ref yro, .ref yhe, .ref ygr, .int 0, .int 0, .int 0, .ref yta, .int 0, .int 0, .int 0, .int 0, .int 0, .ref ywa, .ref ybi, .ref ysi, .ref ynu, .ref ymo])), (ybi, .inl (cI, 4, .inl (fun _ => 0))), (yt, .inl (cI, 7, .inl (fun _ => 0)))] sz)) 0 0 (va_A [(h0, .inr (9, [.ref ys, .ref yk, .ref yo, .ref yt, .int 0, .ref yfa, .ref yfe, .int 0, .int 0, .int 0, .ref yro, .ref yhe, .ref ygr, .int 0, .int 0, .int 0, .ref yta, .int 0, .int 0, .int 0, .int 0, .int 0, .ref ywa, .ref ybi, .ref ysi, .ref ynu, .ref ymo])), (ybi, .inl (cI, 4, .inl (fun _ => 0))), (yt, .inl (cI, 7, .inl (fun _ => 0)))] sz) := by
  refine xhw (QA := fun A => XQl (fun (r : Int64) (_ : Unit) => r = a_wr p0) D (fun _ : Unit => []) A) (by decide) (Nat.le_of_ble_eq_true rfl) ?_
  intro p e s m below meth c ls A hF hr hlk hin hsz hP hK hD hN hA hS hl
  have hF : CallFix p m c cX9_write 8 s _ _ RX9 := hF
  have hx := hF.1
  have hb := hF.2.1
  have hml := hF.2.2.1
  have hown := hF.2.2.2.1
  have hu : ∀ w ∈ wsU, w.before _ s = true := fun w h => hF.2.2.2.2 w (List.mem_cons_of_mem _ h)
  have hl : lv_has ls 8 [(0, .ref h0), (1, .int p0), (2, .int p1), (3, .long p2)] := hl
  refine lv_aload_n hx hb dX9_write_0 rfl (lv_at hl 0 rfl) ?_
  refine lv_iload_n hx hb dX9_write_1 rfl (lv_at hl 1 rfl) ?_
  refine xc_Vr hF (c_X9_wrong l D cI cJ cZ cS sa s.heap.size h0 ys yk yo yt yfa yfe yro yhe ygr yta ywa ybi ysi ynu ymo p0 ) kv_X9_310 ⟨rfl, rfl, Nat.le_of_ble_eq_true rfl, Nat.le_of_ble_eq_true rfl⟩ ⟨Nat.le_of_ble_eq_true rfl, Nat.le_of_ble_eq_true rfl⟩ hK hN hP hD [0, 1] rfl rfl 0 rfl rfl rfl rfl hl.1 rfl (Nat.le_of_ble_eq_true rfl) dX9_write_2 (fun r_1 hw_r_1 => ?_)
  rcases hw_r_1 with ⟨rfl, h_2⟩ | ⟨rfl, h_3, h_4⟩
  · skip
    refine lv_istore (lv' := [(5, .int (-1000000001)), (0, .ref h0), (1, .int p0), (2, .int p1), (3, .long p2)]) hx hb dX9_write_5 hl (by decide) rfl (fun ls hl => ?_)
    refine lv_iload hx hb dX9_write_7 (lv_at hl 0 rfl) ?_
    refine lv_if_eq (tgt := 20) hx hb dX9_write_9 (by decide) (fun c_5 => absurd c_5 (by decide)) (fun c_5 => ?_)
    refine lv_aload_n hx hb dX9_write_12 rfl (lv_at hl 1 rfl) ?_
    refine lv_iload hx hb dX9_write_13 (lv_at hl 0 rfl) ?_
    refine xc_Vi (wr := [(ybi, .inl (cI, 4, .inl (fun _ => 0)))]) hF (c_X9_finds_B l D cI cJ cZ cS sa s.heap.size h0 ys yk yo yt yfa yfe yro yhe ygr yta ywa ybi ysi ynu ymo 0 0 0 (fun _ => 0) ) kv_X9_70 ⟨rfl, rfl, Nat.le_of_ble_eq_true rfl, Nat.le_of_ble_eq_true rfl⟩ ⟨Nat.le_of_ble_eq_true rfl, Nat.le_of_ble_eq_true rfl⟩ hK hN hP hD hS hA [0, 2] [1] rfl rfl rfl rfl (by decide) 0 rfl rfl rfl rfl hl.1 rfl (Nat.le_of_ble_eq_true rfl) dX9_write_15 (fun r_6 u_r_6 H locs hw_r_6 hP hD hS => ?_)
    have hP : va_P D vwCl [(ybi, .inl (cI, 4, .inl (fun _ => 0)))] H := hP
    have hD : va_D A [(ybi, .inl (cI, 4, .inl (fun _ => 0)))] := hD
    subst hw_r_6
    refine lv_i2l (v := (-1000000001)) hx hb dX9_write_18 (by decide) ?_
    exact W.lret (v := (-1000000001)) hx hb hr (fun t ht hW => ⟨⟨(-1000000001), (), rfl, (if_pos h_2).symm, by rw [ht]; exact hP.sub [] rfl, hD.sub [] (by decide) rfl⟩, hS.F ht⟩) hS.2.2 dX9_write_19 hlk
  · skip
    refine lv_istore (lv' := [(5, .int (-1000000006)), (0, .ref h0), (1, .int p0), (2, .int p1), (3, .long p2)]) hx hb dX9_write_5 hl (by decide) rfl (fun ls hl => ?_)
    refine lv_iload hx hb dX9_write_7 (lv_at hl 0 rfl) ?_
    refine lv_if_eq (tgt := 20) hx hb dX9_write_9 (by decide) (fun c_7 => absurd c_7 (by decide)) (fun c_7 => ?_)
    refine lv_aload_n hx hb dX9_write_12 rfl (lv_at hl 1 rfl) ?_
    refine lv_iload hx hb dX9_write_13 (lv_at hl 0 rfl) ?_
    refine xc_Vi (wr := [(ybi, .inl (cI, 4, .inl (fun _ => 0)))]) hF (c_X9_finds_M l D cI cJ cZ cS sa s.heap.size h0 ys yk yo yt yfa yfe yro yhe ygr yta ywa ybi ysi ynu ymo 0 0 0 (fun _ => 0) ) kv_X9_70 ⟨rfl, rfl, Nat.le_of_ble_eq_true rfl, Nat.le_of_ble_eq_true rfl⟩ ⟨Nat.le_of_ble_eq_true rfl, Nat.le_of_ble_eq_true rfl⟩ hK hN hP hD hS hA [0, 2] [1] rfl rfl rfl rfl (by decide) 0 rfl rfl rfl rfl hl.1 rfl (Nat.le_of_ble_eq_true rfl) dX9_write_15 (fun r_8 u_r_8 H locs hw_r_8 hP hD hS => ?_)
    have hP : va_P D vwCl [(ybi, .inl (cI, 4, .inl (fun _ => 0)))] H := hP
    have hD : va_D A [(ybi, .inl (cI, 4, .inl (fun _ => 0)))] := hD
    subst hw_r_8
    refine lv_i2l (v := (-1000000006)) hx hb dX9_write_18 (by decide) ?_
    exact W.lret (v := (-1000000006)) hx hb hr (fun t ht hW => ⟨⟨(-1000000006), (), rfl, (if_neg (p_no h_3 h_4)).symm, by rw [ht]; exact hP.sub [] rfl, hD.sub [] (by decide) rfl⟩, hS.F ht⟩) hS.2.2 dX9_write_19 hlk
set_option maxHeartbeats 4000000 in
set_option maxRecDepth 100000 in
theorem c_X9_lays (l : Launch) (D : va_G) (cI cJ cZ cS : ClassId) (sa : Nat → Nat) (sz : Nat) (h0 : Nat) (ys : Nat) (yk : Nat) (yo : Nat) (yt : Nat) (yfa : Nat) (yfe : Nat) (yro : Nat) (yhe : Nat) (ygr : Nat) (yta : Nat) (ywa : Nat) (ybi : Nat) (ysi : Nat) (ynu : Nat) (ymo : Nat) (p0 : Int32) (p1 : Int32) : Met l yX9_lays (Cond.code yX9_lays cX9_lays 9 (some .int) :: wsU) ({ frames := 3, cells := 0, slots := 0, locals := 66 }) (va_Pc [.ref h0, .int p0, .int p1] (XW D (xT cI cJ cZ cS) sa [(h0, .inr (9, [.ref ys, .ref yk, .ref yo, .ref yt, .int 0, .ref yfa, .ref yfe, .int 0, .int 0, .int 0, .ref yro, .ref yhe, .ref ygr, .int 0, .int 0, .int 0, .ref yta, .int 0, .int 0, .int 0, .int 0, .int 0, .ref ywa, .ref ybi, .ref ysi, .ref ynu, .ref ymo])), (ybi, .inl (cI, 4, .inl (fun _ => 0))), (yt, .inl (cI, 7, .inl (fun _ => 0)))] sz)) (XQi (fun (r : Int32) (_ : Unit) => r = a_sh p0) D (fun _ : Unit => []) (va_A [(h0, .inr (9, [.ref ys, .ref yk, .ref yo, .ref yt, .int 0, .ref yfa, .ref yfe, .int 0, .int 0, .int 0, .ref yro, .ref yhe, .ref ygr, .int 0, .int 0, .int 0, .ref yta, .int 0, .int 0, .int 0, .int 0, .int 0, .ref ywa, .ref ybi, .ref ysi, .ref ynu, .ref ymo])), (ybi, .inl (cI, 4, .inl (fun _ => 0))), (yt, .inl (cI, 7, .inl (fun _ => 0)))] sz)) 0 0 (va_A [(h0, .inr (9, [.ref ys, .ref yk, .ref yo, .ref yt, .int 0, .ref yfa, .ref yfe, .int 0, .int 0, .int 0, .ref yro, .ref yhe, .ref ygr, .int 0, .int 0, .int 0, .ref yta, .int 0, .int 0, .int 0, .int 0, .int 0, .ref ywa, .ref ybi, .ref ysi, .ref ynu, .ref ymo])), (ybi, .inl (cI, 4, .inl (fun _ => 0))), (yt, .inl (cI, 7, .inl (fun _ => 0)))] sz) := by
  refine xhw (QA := fun A => XQi (fun (r : Int32) (_ : Unit) => r = a_sh p0) D (fun _ : Unit => []) A) (by decide) (Nat.le_of_ble_eq_true rfl) ?_
  intro p e s m below meth c ls A hF hr hlk hin hsz hP hK hD hN hA hS hl
  have hF : CallFix p m c cX9_lays 9 s _ _ RX9 := hF
  have hx := hF.1
  have hb := hF.2.1
  have hml := hF.2.2.1
  have hown := hF.2.2.2.1
  have hu : ∀ w ∈ wsU, w.before _ s = true := fun w h => hF.2.2.2.2 w (List.mem_cons_of_mem _ h)
  have hl : lv_has ls 9 [(0, .ref h0), (1, .int p0), (2, .int p1)] := hl
  refine lv_aload_n hx hb dX9_lays_0 rfl (lv_at hl 0 rfl) ?_
  refine lv_iload_n hx hb dX9_lays_1 rfl (lv_at hl 1 rfl) ?_
  refine xc_Vr hF (c_X9_wrong l D cI cJ cZ cS sa s.heap.size h0 ys yk yo yt yfa yfe yro yhe ygr yta ywa ybi ysi ynu ymo p0 ) kv_X9_310 ⟨rfl, rfl, Nat.le_of_ble_eq_true rfl, Nat.le_of_ble_eq_true rfl⟩ ⟨Nat.le_of_ble_eq_true rfl, Nat.le_of_ble_eq_true rfl⟩ hK hN hP hD [0, 1] rfl rfl 0 rfl rfl rfl rfl hl.1 rfl (Nat.le_of_ble_eq_true rfl) dX9_lays_2 (fun r_1 hw_r_1 => ?_)
  rcases hw_r_1 with ⟨rfl, h_2⟩ | ⟨rfl, h_3, h_4⟩
  · skip
    refine lv_istore_n (lv' := [(3, .int (-1000000001)), (0, .ref h0), (1, .int p0), (2, .int p1)]) hx hb dX9_lays_5 rfl hl (by decide) rfl (fun ls hl => ?_)
    refine lv_iload_n hx hb dX9_lays_6 rfl (lv_at hl 0 rfl) ?_
    refine lv_if_eq (tgt := 16) hx hb dX9_lays_7 (by decide) (fun c_5 => absurd c_5 (by decide)) (fun c_5 => ?_)
    refine lv_aload_n hx hb dX9_lays_10 rfl (lv_at hl 1 rfl) ?_
    refine lv_iload_n hx hb dX9_lays_11 rfl (lv_at hl 0 rfl) ?_
    refine xc_Vi (wr := [(ybi, .inl (cI, 4, .inl (fun _ => 0)))]) hF (c_X9_finds_B l D cI cJ cZ cS sa s.heap.size h0 ys yk yo yt yfa yfe yro yhe ygr yta ywa ybi ysi ynu ymo 0 0 0 (fun _ => 0) ) kv_X9_70 ⟨rfl, rfl, Nat.le_of_ble_eq_true rfl, Nat.le_of_ble_eq_true rfl⟩ ⟨Nat.le_of_ble_eq_true rfl, Nat.le_of_ble_eq_true rfl⟩ hK hN hP hD hS hA [0, 2] [1] rfl rfl rfl rfl (by decide) 0 rfl rfl rfl rfl hl.1 rfl (Nat.le_of_ble_eq_true rfl) dX9_lays_12 (fun r_6 u_r_6 H locs hw_r_6 hP hD hS => ?_)
    have hP : va_P D vwCl [(ybi, .inl (cI, 4, .inl (fun _ => 0)))] H := hP
    have hD : va_D A [(ybi, .inl (cI, 4, .inl (fun _ => 0)))] := hD
    subst hw_r_6
    exact W.iret (v := (-1000000001)) hx hb hr (fun t ht hW => ⟨⟨(-1000000001), (), rfl, (if_pos h_2).symm, by rw [ht]; exact hP.sub [] rfl, hD.sub [] (by decide) rfl⟩, hS.F ht⟩) hS.2.2 dX9_lays_15 hlk
  · skip
    refine lv_istore_n (lv' := [(3, .int (-1000000006)), (0, .ref h0), (1, .int p0), (2, .int p1)]) hx hb dX9_lays_5 rfl hl (by decide) rfl (fun ls hl => ?_)
    refine lv_iload_n hx hb dX9_lays_6 rfl (lv_at hl 0 rfl) ?_
    refine lv_if_eq (tgt := 16) hx hb dX9_lays_7 (by decide) (fun c_7 => absurd c_7 (by decide)) (fun c_7 => ?_)
    refine lv_aload_n hx hb dX9_lays_10 rfl (lv_at hl 1 rfl) ?_
    refine lv_iload_n hx hb dX9_lays_11 rfl (lv_at hl 0 rfl) ?_
    refine xc_Vi (wr := [(ybi, .inl (cI, 4, .inl (fun _ => 0)))]) hF (c_X9_finds_M l D cI cJ cZ cS sa s.heap.size h0 ys yk yo yt yfa yfe yro yhe ygr yta ywa ybi ysi ynu ymo 0 0 0 (fun _ => 0) ) kv_X9_70 ⟨rfl, rfl, Nat.le_of_ble_eq_true rfl, Nat.le_of_ble_eq_true rfl⟩ ⟨Nat.le_of_ble_eq_true rfl, Nat.le_of_ble_eq_true rfl⟩ hK hN hP hD hS hA [0, 2] [1] rfl rfl rfl rfl (by decide) 0 rfl rfl rfl rfl hl.1 rfl (Nat.le_of_ble_eq_true rfl) dX9_lays_12 (fun r_8 u_r_8 H locs hw_r_8 hP hD hS => ?_)
    have hP : va_P D vwCl [(ybi, .inl (cI, 4, .inl (fun _ => 0)))] H := hP
    have hD : va_D A [(ybi, .inl (cI, 4, .inl (fun _ => 0)))] := hD
    subst hw_r_8
    exact W.iret (v := (-1000000006)) hx hb hr (fun t ht hW => ⟨⟨(-1000000006), (), rfl, (if_neg (p_no h_3 h_4)).symm, by rw [ht]; exact hP.sub [] rfl, hD.sub [] (by decide) rfl⟩, hS.F ht⟩) hS.2.2 dX9_lays_15 hlk
set_option maxHeartbeats 4000000 in
set_option maxRecDepth 100000 in
theorem c_X9_read (l : Launch) (D : va_G) (cI cJ cZ cS : ClassId) (sa : Nat → Nat) (sz : Nat) (h0 : Nat) (ys : Nat) (yk : Nat) (yo : Nat) (yt : Nat) (yfa : Nat) (yfe : Nat) (yro : Nat) (yhe : Nat) (ygr : Nat) (yta : Nat) (ywa : Nat) (ybi : Nat) (ysi : Nat) (ynu : Nat) (ymo : Nat) (p0 : Int32) : Met l yX9_read (Cond.code yX9_read cX9_read 9 (some .int) :: wsU) ({ frames := 3, cells := 0, slots := 0, locals := 66 }) (va_Pc [.ref h0, .int p0] (XW D (xT cI cJ cZ cS) sa [(h0, .inr (9, [.ref ys, .ref yk, .ref yo, .ref yt, .int 0, .ref yfa, .ref yfe, .int 0, .int 0, .int 0, .ref yro, .ref yhe, .ref ygr, .int 0, .int 0, .int 0, .ref yta, .int 0, .int 0, .int 0, .int 0, .int 0, .ref ywa, .ref ybi, .ref ysi, .ref ynu, .ref ymo])), (ybi, .inl (cI, 4, .inl (fun _ => 0))), (yt, .inl (cI, 7, .inl (fun _ => 0)))] sz)) (XQi (fun (r : Int32) (_ : Unit) => r = a_sh p0) D (fun _ : Unit => []) (va_A [(h0, .inr (9, [.ref ys, .ref yk, .ref yo, .ref yt, .int 0, .ref yfa, .ref yfe, .int 0, .int 0, .int 0, .ref yro, .ref yhe, .ref ygr, .int 0, .int 0, .int 0, .ref yta, .int 0, .int 0, .int 0, .int 0, .int 0, .ref ywa, .ref ybi, .ref ysi, .ref ynu, .ref ymo])), (ybi, .inl (cI, 4, .inl (fun _ => 0))), (yt, .inl (cI, 7, .inl (fun _ => 0)))] sz)) 0 0 (va_A [(h0, .inr (9, [.ref ys, .ref yk, .ref yo, .ref yt, .int 0, .ref yfa, .ref yfe, .int 0, .int 0, .int 0, .ref yro, .ref yhe, .ref ygr, .int 0, .int 0, .int 0, .ref yta, .int 0, .int 0, .int 0, .int 0, .int 0, .ref ywa, .ref ybi, .ref ysi, .ref ynu, .ref ymo])), (ybi, .inl (cI, 4, .inl (fun _ => 0))), (yt, .inl (cI, 7, .inl (fun _ => 0)))] sz) := by
  refine xhw (QA := fun A => XQi (fun (r : Int32) (_ : Unit) => r = a_sh p0) D (fun _ : Unit => []) A) (by decide) (Nat.le_of_ble_eq_true rfl) ?_
  intro p e s m below meth c ls A hF hr hlk hin hsz hP hK hD hN hA hS hl
  have hF : CallFix p m c cX9_read 9 s _ _ RX9 := hF
  have hx := hF.1
  have hb := hF.2.1
  have hml := hF.2.2.1
  have hown := hF.2.2.2.1
  have hu : ∀ w ∈ wsU, w.before _ s = true := fun w h => hF.2.2.2.2 w (List.mem_cons_of_mem _ h)
  have hl : lv_has ls 9 [(0, .ref h0), (1, .int p0)] := hl
  refine lv_aload_n hx hb dX9_read_0 rfl (lv_at hl 0 rfl) ?_
  refine lv_iload_n hx hb dX9_read_1 rfl (lv_at hl 1 rfl) ?_
  refine xc_Vr hF (c_X9_wrong l D cI cJ cZ cS sa s.heap.size h0 ys yk yo yt yfa yfe yro yhe ygr yta ywa ybi ysi ynu ymo p0 ) kv_X9_310 ⟨rfl, rfl, Nat.le_of_ble_eq_true rfl, Nat.le_of_ble_eq_true rfl⟩ ⟨Nat.le_of_ble_eq_true rfl, Nat.le_of_ble_eq_true rfl⟩ hK hN hP hD [0, 1] rfl rfl 0 rfl rfl rfl rfl hl.1 rfl (Nat.le_of_ble_eq_true rfl) dX9_read_2 (fun r_1 hw_r_1 => ?_)
  rcases hw_r_1 with ⟨rfl, h_2⟩ | ⟨rfl, h_3, h_4⟩
  · skip
    refine lv_istore_n (lv' := [(2, .int (-1000000001)), (0, .ref h0), (1, .int p0)]) hx hb dX9_read_5 rfl hl (by decide) rfl (fun ls hl => ?_)
    refine lv_iload_n hx hb dX9_read_6 rfl (lv_at hl 0 rfl) ?_
    refine lv_if_eq (tgt := 16) hx hb dX9_read_7 (by decide) (fun c_5 => absurd c_5 (by decide)) (fun c_5 => ?_)
    refine lv_aload_n hx hb dX9_read_10 rfl (lv_at hl 1 rfl) ?_
    refine lv_iload_n hx hb dX9_read_11 rfl (lv_at hl 0 rfl) ?_
    refine xc_Vi (wr := [(ybi, .inl (cI, 4, .inl (fun _ => 0)))]) hF (c_X9_finds_B l D cI cJ cZ cS sa s.heap.size h0 ys yk yo yt yfa yfe yro yhe ygr yta ywa ybi ysi ynu ymo 0 0 0 (fun _ => 0) ) kv_X9_70 ⟨rfl, rfl, Nat.le_of_ble_eq_true rfl, Nat.le_of_ble_eq_true rfl⟩ ⟨Nat.le_of_ble_eq_true rfl, Nat.le_of_ble_eq_true rfl⟩ hK hN hP hD hS hA [0, 2] [1] rfl rfl rfl rfl (by decide) 0 rfl rfl rfl rfl hl.1 rfl (Nat.le_of_ble_eq_true rfl) dX9_read_12 (fun r_6 u_r_6 H locs hw_r_6 hP hD hS => ?_)
    have hP : va_P D vwCl [(ybi, .inl (cI, 4, .inl (fun _ => 0)))] H := hP
    have hD : va_D A [(ybi, .inl (cI, 4, .inl (fun _ => 0)))] := hD
    subst hw_r_6
    exact W.iret (v := (-1000000001)) hx hb hr (fun t ht hW => ⟨⟨(-1000000001), (), rfl, (if_pos h_2).symm, by rw [ht]; exact hP.sub [] rfl, hD.sub [] (by decide) rfl⟩, hS.F ht⟩) hS.2.2 dX9_read_15 hlk
  · skip
    refine lv_istore_n (lv' := [(2, .int (-1000000006)), (0, .ref h0), (1, .int p0)]) hx hb dX9_read_5 rfl hl (by decide) rfl (fun ls hl => ?_)
    refine lv_iload_n hx hb dX9_read_6 rfl (lv_at hl 0 rfl) ?_
    refine lv_if_eq (tgt := 16) hx hb dX9_read_7 (by decide) (fun c_7 => absurd c_7 (by decide)) (fun c_7 => ?_)
    refine lv_aload_n hx hb dX9_read_10 rfl (lv_at hl 1 rfl) ?_
    refine lv_iload_n hx hb dX9_read_11 rfl (lv_at hl 0 rfl) ?_
    refine xc_Vi (wr := [(ybi, .inl (cI, 4, .inl (fun _ => 0)))]) hF (c_X9_finds_M l D cI cJ cZ cS sa s.heap.size h0 ys yk yo yt yfa yfe yro yhe ygr yta ywa ybi ysi ynu ymo 0 0 0 (fun _ => 0) ) kv_X9_70 ⟨rfl, rfl, Nat.le_of_ble_eq_true rfl, Nat.le_of_ble_eq_true rfl⟩ ⟨Nat.le_of_ble_eq_true rfl, Nat.le_of_ble_eq_true rfl⟩ hK hN hP hD hS hA [0, 2] [1] rfl rfl rfl rfl (by decide) 0 rfl rfl rfl rfl hl.1 rfl (Nat.le_of_ble_eq_true rfl) dX9_read_12 (fun r_8 u_r_8 H locs hw_r_8 hP hD hS => ?_)
    have hP : va_P D vwCl [(ybi, .inl (cI, 4, .inl (fun _ => 0)))] H := hP
    have hD : va_D A [(ybi, .inl (cI, 4, .inl (fun _ => 0)))] := hD
    subst hw_r_8
    exact W.iret (v := (-1000000006)) hx hb hr (fun t ht hW => ⟨⟨(-1000000006), (), rfl, (if_neg (p_no h_3 h_4)).symm, by rw [ht]; exact hP.sub [] rfl, hD.sub [] (by decide) rfl⟩, hS.F ht⟩) hS.2.2 dX9_read_15 hlk
set_option maxHeartbeats 4000000 in
set_option maxRecDepth 100000 in
theorem c_X9_copy (l : Launch) (D : va_G) (cI cJ cZ cS : ClassId) (sa : Nat → Nat) (sz : Nat) (h0 : Nat) (ys : Nat) (yk : Nat) (yo : Nat) (yt : Nat) (yfa : Nat) (yfe : Nat) (yro : Nat) (yhe : Nat) (ygr : Nat) (yta : Nat) (ywa : Nat) (ybi : Nat) (ysi : Nat) (ynu : Nat) (ymo : Nat) (p0 : Int32) (p1 : Int32) (p2 : Int32) (p3 : Int32) (p4 : Int32) : Met l yX9_copy (Cond.code yX9_copy cX9_copy 7 (some .int) :: wsU) ({ frames := 2, cells := 0, slots := 0, locals := 45 }) (va_Pc [.ref h0, .int p0, .int p1, .int p2, .int p3, .int p4] (XW D (xT cI cJ cZ cS) sa [(h0, .inr (9, [.ref ys, .ref yk, .ref yo, .ref yt, .int 0, .ref yfa, .ref yfe, .int 0, .int 0, .int 0, .ref yro, .ref yhe, .ref ygr, .int 0, .int 0, .int 0, .ref yta, .int 0, .int 0, .int 0, .int 0, .int 0, .ref ywa, .ref ybi, .ref ysi, .ref ynu, .ref ymo])), (ybi, .inl (cI, 4, .inl (fun _ => 0))), (yt, .inl (cI, 7, .inl (fun _ => 0)))] sz)) (XQi (fun (r : Int32) (_ : Unit) => r = a_copy p0 p2) D (fun _ : Unit => []) (va_A [(h0, .inr (9, [.ref ys, .ref yk, .ref yo, .ref yt, .int 0, .ref yfa, .ref yfe, .int 0, .int 0, .int 0, .ref yro, .ref yhe, .ref ygr, .int 0, .int 0, .int 0, .ref yta, .int 0, .int 0, .int 0, .int 0, .int 0, .ref ywa, .ref ybi, .ref ysi, .ref ynu, .ref ymo])), (ybi, .inl (cI, 4, .inl (fun _ => 0))), (yt, .inl (cI, 7, .inl (fun _ => 0)))] sz)) 0 0 (va_A [(h0, .inr (9, [.ref ys, .ref yk, .ref yo, .ref yt, .int 0, .ref yfa, .ref yfe, .int 0, .int 0, .int 0, .ref yro, .ref yhe, .ref ygr, .int 0, .int 0, .int 0, .ref yta, .int 0, .int 0, .int 0, .int 0, .int 0, .ref ywa, .ref ybi, .ref ysi, .ref ynu, .ref ymo])), (ybi, .inl (cI, 4, .inl (fun _ => 0))), (yt, .inl (cI, 7, .inl (fun _ => 0)))] sz) := by
  refine xhw (QA := fun A => XQi (fun (r : Int32) (_ : Unit) => r = a_copy p0 p2) D (fun _ : Unit => []) A) (by decide) (Nat.le_of_ble_eq_true rfl) ?_
  intro p e s m below meth c ls A hF hr hlk hin hsz hP hK hD hN hA hS hl
  have hF : CallFix p m c cX9_copy 7 s _ _ RX9 := hF
  have hx := hF.1
  have hb := hF.2.1
  have hml := hF.2.2.1
  have hown := hF.2.2.2.1
  have hu : ∀ w ∈ wsU, w.before _ s = true := fun w h => hF.2.2.2.2 w (List.mem_cons_of_mem _ h)
  have hl : lv_has ls 7 [(0, .ref h0), (1, .int p0), (2, .int p1), (3, .int p2), (4, .int p3), (5, .int p4)] := hl
  refine lv_iload_n hx hb dX9_copy_0 rfl (lv_at hl 1 rfl) ?_
  refine xc_Sr hF (c_X9_isOne l D cI cJ cZ cS sa s.heap.size p0 ) ks_X9_305 ⟨rfl, rfl, Nat.le_of_ble_eq_true rfl, Nat.le_of_ble_eq_true rfl⟩ ⟨Nat.le_of_ble_eq_true rfl, Nat.le_of_ble_eq_true rfl⟩ hK hN hP hD [] rfl rfl rfl hl.1 rfl (Nat.le_of_ble_eq_true rfl) dX9_copy_1 (fun r_1 hw_r_1 => ?_)
  rcases hw_r_1 with ⟨rfl, h_2, h_3⟩ | ⟨rfl, h_4⟩
  · skip
    refine lv_if_eq (tgt := 14) hx hb dX9_copy_4 (by decide) (fun c_5 => absurd c_5 (by decide)) (fun c_5 => ?_)
    refine lv_iload_n hx hb dX9_copy_7 rfl (lv_at hl 3 rfl) ?_
    refine xc_Sr hF (c_X9_isOne l D cI cJ cZ cS sa s.heap.size p2 ) ks_X9_305 ⟨rfl, rfl, Nat.le_of_ble_eq_true rfl, Nat.le_of_ble_eq_true rfl⟩ ⟨Nat.le_of_ble_eq_true rfl, Nat.le_of_ble_eq_true rfl⟩ hK hN hP hD [] rfl rfl rfl hl.1 rfl (Nat.le_of_ble_eq_true rfl) dX9_copy_8 (fun r_6 hw_r_6 => ?_)
    rcases hw_r_6 with ⟨rfl, h_7, h_8⟩ | ⟨rfl, h_9⟩
    · skip
      refine lv_if_ne (tgt := 21) hx hb dX9_copy_11 (by decide) (fun c_10 => ?_) (fun c_10 => absurd c_10 (by decide))
      refine lv_aload_n hx hb dX9_copy_21 rfl (lv_at hl 0 rfl) ?_
      refine xg hF kf_X9_43 hK hP 0 rfl rfl dX9_copy_22 ?_
      refine lv_iload_n hx hb dX9_copy_25 rfl (lv_at hl 1 rfl) ?_
      refine va_iald hx hb hK hP 1 0 rfl rfl (x_in4 h_2 h_3) dX9_copy_26 ?_
      refine xl_i (y := 0) rfl ?_
      refine lv_if_eq (tgt := 39) hx hb dX9_copy_27 (by decide) (fun c_11 => ?_) (fun c_11 => absurd (by decide) c_11)
      refine lv_aload_n hx hb dX9_copy_39 rfl (lv_at hl 0 rfl) ?_
      refine lv_ldcw (v := (-1000000006)) hx hb hown (hu _ uw367) dX9_copy_40 ?_
      refine xc_Vi (wr := [(ybi, .inl (cI, 4, .inl (fun _ => 0)))]) hF (c_X9_finds_M l D cI cJ cZ cS sa s.heap.size h0 ys yk yo yt yfa yfe yro yhe ygr yta ywa ybi ysi ynu ymo 0 0 0 (fun _ => 0) ) kv_X9_70 ⟨rfl, rfl, Nat.le_of_ble_eq_true rfl, Nat.le_of_ble_eq_true rfl⟩ ⟨Nat.le_of_ble_eq_true rfl, Nat.le_of_ble_eq_true rfl⟩ hK hN hP hD hS hA [0, 2] [1] rfl rfl rfl rfl (by decide) 0 rfl rfl rfl rfl hl.1 rfl (Nat.le_of_ble_eq_true rfl) dX9_copy_43 (fun r_12 u_r_12 H locs hw_r_12 hP hD hS => ?_)
      have hP : va_P D vwCl [(ybi, .inl (cI, 4, .inl (fun _ => 0)))] H := hP
      have hD : va_D A [(ybi, .inl (cI, 4, .inl (fun _ => 0)))] := hD
      subst hw_r_12
      exact W.iret (v := (-1000000006)) hx hb hr (fun t ht hW => ⟨⟨(-1000000006), (), rfl, (by unfold a_copy; rw [if_neg (p_no h_2 h_3), if_neg (p_no h_7 h_8)]), by rw [ht]; exact hP.sub [] rfl, hD.sub [] (by decide) rfl⟩, hS.F ht⟩) hS.2.2 dX9_copy_46 hlk
    · skip
      refine lv_if_ne (tgt := 21) hx hb dX9_copy_11 (by decide) (fun c_13 => absurd (by decide) c_13) (fun c_13 => ?_)
      refine lv_aload_n hx hb dX9_copy_14 rfl (lv_at hl 0 rfl) ?_
      refine lv_ldc (v := (-1000000001)) hx hb hown (hu _ uw352) dX9_copy_15 ?_
      refine xc_Vi (wr := [(ybi, .inl (cI, 4, .inl (fun _ => 0)))]) hF (c_X9_finds_B l D cI cJ cZ cS sa s.heap.size h0 ys yk yo yt yfa yfe yro yhe ygr yta ywa ybi ysi ynu ymo 0 0 0 (fun _ => 0) ) kv_X9_70 ⟨rfl, rfl, Nat.le_of_ble_eq_true rfl, Nat.le_of_ble_eq_true rfl⟩ ⟨Nat.le_of_ble_eq_true rfl, Nat.le_of_ble_eq_true rfl⟩ hK hN hP hD hS hA [0, 2] [1] rfl rfl rfl rfl (by decide) 0 rfl rfl rfl rfl hl.1 rfl (Nat.le_of_ble_eq_true rfl) dX9_copy_17 (fun r_14 u_r_14 H locs hw_r_14 hP hD hS => ?_)
      have hP : va_P D vwCl [(ybi, .inl (cI, 4, .inl (fun _ => 0)))] H := hP
      have hD : va_D A [(ybi, .inl (cI, 4, .inl (fun _ => 0)))] := hD
      subst hw_r_14
      exact W.iret (v := (-1000000001)) hx hb hr (fun t ht hW => ⟨⟨(-1000000001), (), rfl, (by unfold a_copy; rw [if_neg (p_no h_2 h_3), if_pos h_9]), by rw [ht]; exact hP.sub [] rfl, hD.sub [] (by decide) rfl⟩, hS.F ht⟩) hS.2.2 dX9_copy_20 hlk
  · skip
    refine lv_if_eq (tgt := 14) hx hb dX9_copy_4 (by decide) (fun c_15 => ?_) (fun c_15 => absurd (by decide) c_15)
    refine lv_aload_n hx hb dX9_copy_14 rfl (lv_at hl 0 rfl) ?_
    refine lv_ldc (v := (-1000000001)) hx hb hown (hu _ uw352) dX9_copy_15 ?_
    refine xc_Vi (wr := [(ybi, .inl (cI, 4, .inl (fun _ => 0)))]) hF (c_X9_finds_B l D cI cJ cZ cS sa s.heap.size h0 ys yk yo yt yfa yfe yro yhe ygr yta ywa ybi ysi ynu ymo 0 0 0 (fun _ => 0) ) kv_X9_70 ⟨rfl, rfl, Nat.le_of_ble_eq_true rfl, Nat.le_of_ble_eq_true rfl⟩ ⟨Nat.le_of_ble_eq_true rfl, Nat.le_of_ble_eq_true rfl⟩ hK hN hP hD hS hA [0, 2] [1] rfl rfl rfl rfl (by decide) 0 rfl rfl rfl rfl hl.1 rfl (Nat.le_of_ble_eq_true rfl) dX9_copy_17 (fun r_16 u_r_16 H locs hw_r_16 hP hD hS => ?_)
    have hP : va_P D vwCl [(ybi, .inl (cI, 4, .inl (fun _ => 0)))] H := hP
    have hD : va_D A [(ybi, .inl (cI, 4, .inl (fun _ => 0)))] := hD
    subst hw_r_16
    exact W.iret (v := (-1000000001)) hx hb hr (fun t ht hW => ⟨⟨(-1000000001), (), rfl, (if_pos h_4).symm, by rw [ht]; exact hP.sub [] rfl, hD.sub [] (by decide) rfl⟩, hS.F ht⟩) hS.2.2 dX9_copy_20 hlk
set_option maxHeartbeats 4000000 in
set_option maxRecDepth 100000 in
theorem c_X9_sheet (l : Launch) (D : va_G) (cI cJ cZ cS : ClassId) (sa : Nat → Nat) (sz : Nat) (h0 : Nat) (ys : Nat) (yk : Nat) (yo : Nat) (yt : Nat) (yfa : Nat) (yfe : Nat) (yro : Nat) (yhe : Nat) (ygr : Nat) (yta : Nat) (ywa : Nat) (ybi : Nat) (ysi : Nat) (ynu : Nat) (ymo : Nat) (p0 : Int32) (p1 : Int32) (p2 : Int32) : Met l yX9_sheet (Cond.code yX9_sheet cX9_sheet 5 (some .int) :: wsU) ({ frames := 2, cells := 0, slots := 0, locals := 45 }) (va_Pc [.ref h0, .int p0, .int p1, .int p2] (XW D (xT cI cJ cZ cS) sa [(h0, .inr (9, [.ref ys, .ref yk, .ref yo, .ref yt, .int 0, .ref yfa, .ref yfe, .int 0, .int 0, .int 0, .ref yro, .ref yhe, .ref ygr, .int 0, .int 0, .int 0, .ref yta, .int 0, .int 0, .int 0, .int 0, .int 0, .ref ywa, .ref ybi, .ref ysi, .ref ynu, .ref ymo])), (ybi, .inl (cI, 4, .inl (fun _ => 0))), (ysi, .inl (cI, 4, .inl (fun _ => 0))), (ynu, .inl (cJ, 160, .inr (.inl (fun _ => 0)))), (yt, .inl (cI, 7, .inl (fun _ => 0)))] sz)) (XQi (fun (r : Int32) (_ : Unit) => r = a_sheet p0 p1 p2) D (fun _ : Unit => []) (va_A [(h0, .inr (9, [.ref ys, .ref yk, .ref yo, .ref yt, .int 0, .ref yfa, .ref yfe, .int 0, .int 0, .int 0, .ref yro, .ref yhe, .ref ygr, .int 0, .int 0, .int 0, .ref yta, .int 0, .int 0, .int 0, .int 0, .int 0, .ref ywa, .ref ybi, .ref ysi, .ref ynu, .ref ymo])), (ybi, .inl (cI, 4, .inl (fun _ => 0))), (ysi, .inl (cI, 4, .inl (fun _ => 0))), (ynu, .inl (cJ, 160, .inr (.inl (fun _ => 0)))), (yt, .inl (cI, 7, .inl (fun _ => 0)))] sz)) 0 0 (va_A [(h0, .inr (9, [.ref ys, .ref yk, .ref yo, .ref yt, .int 0, .ref yfa, .ref yfe, .int 0, .int 0, .int 0, .ref yro, .ref yhe, .ref ygr, .int 0, .int 0, .int 0, .ref yta, .int 0, .int 0, .int 0, .int 0, .int 0, .ref ywa, .ref ybi, .ref ysi, .ref ynu, .ref ymo])), (ybi, .inl (cI, 4, .inl (fun _ => 0))), (ysi, .inl (cI, 4, .inl (fun _ => 0))), (ynu, .inl (cJ, 160, .inr (.inl (fun _ => 0)))), (yt, .inl (cI, 7, .inl (fun _ => 0)))] sz) := by
  refine xhw (QA := fun A => XQi (fun (r : Int32) (_ : Unit) => r = a_sheet p0 p1 p2) D (fun _ : Unit => []) A) (by decide) (Nat.le_of_ble_eq_true rfl) ?_
  intro p e s m below meth c ls A hF hr hlk hin hsz hP hK hD hN hA hS hl
  have hF : CallFix p m c cX9_sheet 5 s _ _ RX9 := hF
  have hx := hF.1
  have hb := hF.2.1
  have hml := hF.2.2.1
  have hown := hF.2.2.2.1
  have hu : ∀ w ∈ wsU, w.before _ s = true := fun w h => hF.2.2.2.2 w (List.mem_cons_of_mem _ h)
  have hl : lv_has ls 5 [(0, .ref h0), (1, .int p0), (2, .int p1), (3, .int p2)] := hl
  refine lv_iload_n hx hb dX9_sheet_0 rfl (lv_at hl 1 rfl) ?_
  refine xc_Sr hF (c_X9_isOne l D cI cJ cZ cS sa s.heap.size p0 ) ks_X9_305 ⟨rfl, rfl, Nat.le_of_ble_eq_true rfl, Nat.le_of_ble_eq_true rfl⟩ ⟨Nat.le_of_ble_eq_true rfl, Nat.le_of_ble_eq_true rfl⟩ hK hN hP hD [] rfl rfl rfl hl.1 rfl (Nat.le_of_ble_eq_true rfl) dX9_sheet_1 (fun r_1 hw_r_1 => ?_)
  rcases hw_r_1 with ⟨rfl, h_2, h_3⟩ | ⟨rfl, h_4⟩
  · skip
    refine lv_if_eq (tgt := 29) hx hb dX9_sheet_4 (by decide) (fun c_5 => absurd c_5 (by decide)) (fun c_5 => ?_)
    refine lv_iload_n hx hb dX9_sheet_7 rfl (lv_at hl 2 rfl) ?_
    refine lv_if_eq (tgt := 36) hx hb dX9_sheet_8 (by decide) (fun c_6 => ?_) (fun c_6 => ?_)
    · skip
      subst c_6
      refine lv_iload_n hx hb dX9_sheet_36 rfl (lv_at hl 3 rfl) ?_
      refine lv_if_ge (tgt := 48) hx hb dX9_sheet_37 (by decide) (fun c_7 => ?_) (fun c_7 => ?_)
      · skip
        refine lv_iload_n hx hb dX9_sheet_48 rfl (lv_at hl 3 rfl) ?_
        refine lv_bipush (v := 40) hx hb dX9_sheet_49 (by decide) ?_
        refine lv_icmp_le (tgt := 61) hx hb dX9_sheet_51 (by decide) (fun c_8 => ?_) (fun c_8 => ?_)
        · skip
          rcases x_i4 h_2 h_3 with rfl | rfl | rfl | rfl
          · skip
            refine lv_aload_n hx hb dX9_sheet_61 rfl (lv_at hl 0 rfl) ?_
            refine xg hF kf_X9_43 hK hP 0 rfl rfl dX9_sheet_62 ?_
            refine lv_iload_n hx hb dX9_sheet_65 rfl (lv_at hl 1 rfl) ?_
            refine lv_iload_n hx hb dX9_sheet_66 rfl (lv_at hl 2 rfl) ?_
            refine va_iast hx hb hK hP hD hS 1 0 rfl rfl (xin 0 4 (by decide) (by decide)) dX9_sheet_67 (fun H locs hP hD hS => ?_)
            obtain ⟨f_9, ef_9⟩ : ∃ g, g = upd (fun _ => 0) (0 : Int32).toNatClampNeg 0 := ⟨_, rfl⟩
            rw [← ef_9] at hP hD
            have hP : va_P D vwCl [(h0, .inr (9, [.ref ys, .ref yk, .ref yo, .ref yt, .int 0, .ref yfa, .ref yfe, .int 0, .int 0, .int 0, .ref yro, .ref yhe, .ref ygr, .int 0, .int 0, .int 0, .ref yta, .int 0, .int 0, .int 0, .int 0, .int 0, .ref ywa, .ref ybi, .ref ysi, .ref ynu, .ref ymo])), (ybi, .inl (cI, 4, .inl f_9)), (ysi, .inl (cI, 4, .inl (fun _ => 0))), (ynu, .inl (cJ, 160, .inr (.inl (fun _ => 0)))), (yt, .inl (cI, 7, .inl (fun _ => 0)))] H := hP
            have hD : va_D A [(h0, .inr (9, [.ref ys, .ref yk, .ref yo, .ref yt, .int 0, .ref yfa, .ref yfe, .int 0, .int 0, .int 0, .ref yro, .ref yhe, .ref ygr, .int 0, .int 0, .int 0, .ref yta, .int 0, .int 0, .int 0, .int 0, .int 0, .ref ywa, .ref ybi, .ref ysi, .ref ynu, .ref ymo])), (ybi, .inl (cI, 4, .inl f_9)), (ysi, .inl (cI, 4, .inl (fun _ => 0))), (ynu, .inl (cJ, 160, .inr (.inl (fun _ => 0)))), (yt, .inl (cI, 7, .inl (fun _ => 0)))] := hD
            refine lv_aload_n hx hb dX9_sheet_68 rfl (lv_at hl 0 rfl) ?_
            refine xg hF kf_X9_46 hK hP 0 rfl rfl dX9_sheet_69 ?_
            refine lv_iload_n hx hb dX9_sheet_72 rfl (lv_at hl 1 rfl) ?_
            refine lv_iload_n hx hb dX9_sheet_73 rfl (lv_at hl 2 rfl) ?_
            refine lv_if_ne (tgt := 81) hx hb dX9_sheet_74 (by decide) (fun c_10 => absurd (by decide) c_10) (fun c_10 => ?_)
            refine lv_iconst (v := 0) hx hb dX9_sheet_77 (by decide) ?_
            refine lv_goto (tgt := 82) hx hb dX9_sheet_78 (by decide) ?_
            refine va_iast hx hb hK hP hD hS 2 0 rfl rfl (xin 0 4 (by decide) (by decide)) dX9_sheet_82 (fun H locs hP hD hS => ?_)
            obtain ⟨f_11, ef_11⟩ : ∃ g, g = upd (fun _ => 0) (0 : Int32).toNatClampNeg 0 := ⟨_, rfl⟩
            rw [← ef_11] at hP hD
            have hP : va_P D vwCl [(h0, .inr (9, [.ref ys, .ref yk, .ref yo, .ref yt, .int 0, .ref yfa, .ref yfe, .int 0, .int 0, .int 0, .ref yro, .ref yhe, .ref ygr, .int 0, .int 0, .int 0, .ref yta, .int 0, .int 0, .int 0, .int 0, .int 0, .ref ywa, .ref ybi, .ref ysi, .ref ynu, .ref ymo])), (ybi, .inl (cI, 4, .inl f_9)), (ysi, .inl (cI, 4, .inl f_11)), (ynu, .inl (cJ, 160, .inr (.inl (fun _ => 0)))), (yt, .inl (cI, 7, .inl (fun _ => 0)))] H := hP
            have hD : va_D A [(h0, .inr (9, [.ref ys, .ref yk, .ref yo, .ref yt, .int 0, .ref yfa, .ref yfe, .int 0, .int 0, .int 0, .ref yro, .ref yhe, .ref ygr, .int 0, .int 0, .int 0, .ref yta, .int 0, .int 0, .int 0, .int 0, .int 0, .ref ywa, .ref ybi, .ref ysi, .ref ynu, .ref ymo])), (ybi, .inl (cI, 4, .inl f_9)), (ysi, .inl (cI, 4, .inl f_11)), (ynu, .inl (cJ, 160, .inr (.inl (fun _ => 0)))), (yt, .inl (cI, 7, .inl (fun _ => 0)))] := hD
            refine lv_iconst (v := 0) hx hb dX9_sheet_83 (by decide) ?_
            refine lv_istore (lv' := [(4, .int 0), (0, .ref h0), (1, .int 0), (2, .int 0), (3, .int p2)]) hx hb dX9_sheet_84 hl (by decide) rfl (fun ls hl => ?_)
            suffices loop_13 : ∀ (n k_12 : Nat) (f9 : Nat → Int64) (H : Heap) (locs : List Loc) (ls : Array Slot), k_12 + n = 40 → va_P D vwCl [(h0, .inr (9, [.ref ys, .ref yk, .ref yo, .ref yt, .int 0, .ref yfa, .ref yfe, .int 0, .int 0, .int 0, .ref yro, .ref yhe, .ref ygr, .int 0, .int 0, .int 0, .ref yta, .int 0, .int 0, .int 0, .int 0, .int 0, .ref ywa, .ref ybi, .ref ysi, .ref ynu, .ref ymo])), (ybi, .inl (cI, 4, .inl f_9)), (ysi, .inl (cI, 4, .inl f_11)), (ynu, .inl (cJ, 160, .inr (.inl f9))), (yt, .inl (cI, 7, .inl (fun _ => 0)))] H → va_D A [(h0, .inr (9, [.ref ys, .ref yk, .ref yo, .ref yt, .int 0, .ref yfa, .ref yfe, .int 0, .int 0, .int 0, .ref yro, .ref yhe, .ref ygr, .int 0, .int 0, .int 0, .ref yta, .int 0, .int 0, .int 0, .int 0, .int 0, .ref ywa, .ref ybi, .ref ysi, .ref ynu, .ref ymo])), (ybi, .inl (cI, 4, .inl f_9)), (ysi, .inl (cI, 4, .inl f_11)), (ynu, .inl (cJ, 160, .inr (.inl f9))), (yt, .inl (cI, 7, .inl (fun _ => 0)))] → va_S A s.heap H locs → lv_has ls 5 [(4, .int (nI (k_12))), (0, .ref h0), (1, .int 0), (2, .int 0), (3, .int p2)] → W p l e ({ frames := 2, cells := 0, slots := 0, locals := 45 }) s m ([.ref h0, .int 0, .int 0, .int p2] : List Value).toArray below meth c H locs 0 0 (MQ below (XQi (fun (r : Int32) (_ : Unit) => r = a_sheet 0 0 p2) D (fun _ : Unit => []) A) ([.ref h0, .int 0, .int 0, .int p2] : List Value).toArray s 0 0 A) (F0 m 86 ls []) by
              exact loop_13 40 0 (fun _ => 0) _ _ _ (by decide) hP hD hS (lv_sub hl [0, 1, 2, 3, 4] rfl)
            intro n
            induction n with
            | zero =>
              intro k_12 f9 H locs ls hk hP hD hS hl 
              have hk2 : k_12 = 40 := by omega
              subst hk2
              have hl : lv_has ls 5 [(4, .int 40), (0, .ref h0), (1, .int 0), (2, .int 0), (3, .int p2)] := hl
              refine lv_iload hx hb dX9_sheet_86 (lv_at hl 0 rfl) ?_
              refine lv_bipush (v := 40) hx hb dX9_sheet_88 (by decide) ?_
              refine lv_icmp_ge (tgt := 112) hx hb dX9_sheet_90 (by decide) (fun c_14 => ?_) (fun c_14 => absurd (by decide) c_14)
              refine lv_aload_n hx hb dX9_sheet_112 rfl (lv_at hl 1 rfl) ?_
              refine xg hF kf_X9_46 hK hP 0 rfl rfl dX9_sheet_113 ?_
              refine lv_iload_n hx hb dX9_sheet_116 rfl (lv_at hl 2 rfl) ?_
              refine va_iald hx hb hK hP 2 0 rfl rfl (xin 0 4 (by decide) (by decide)) dX9_sheet_117 ?_
              refine xl_i (y := f_11 0) (congrArg f_11 rfl) ?_
              refine xl_i (y := 0) (by rw [ef_11]; rfl) ?_
              exact W.iret (v := 0) hx hb hr (fun t ht hW => ⟨⟨0, (), rfl, (p_sheet5 (by decide) (by decide) (fun h => absurd c_7 (Int32.not_le.mpr h)) (fun h => absurd c_8 (Int32.not_le.mpr h))), by rw [ht]; exact hP.sub [] rfl, hD.sub [] (by decide) rfl⟩, hS.F ht⟩) hS.2.2 dX9_sheet_118 hlk
            | succ n ih =>
              intro k_12 f9 H locs ls hk hP hD hS hl 
              have hlt_k_12 : k_12 < 40 := by omega
              refine lv_iload hx hb dX9_sheet_86 (lv_at hl 0 rfl) ?_
              refine lv_bipush (v := 40) hx hb dX9_sheet_88 (by decide) ?_
              refine lv_icmp_ge (tgt := 112) hx hb dX9_sheet_90 (by decide) (fun c_15 => absurd c_15 (nI_ge hlt_k_12 (by decide))) (fun c_15 => ?_)
              refine lv_aload_n hx hb dX9_sheet_93 rfl (lv_at hl 1 rfl) ?_
              refine xg hF kf_X9_49 hK hP 0 rfl rfl dX9_sheet_94 ?_
              refine lv_bipush (v := 40) hx hb dX9_sheet_97 (by decide) ?_
              refine lv_iload_n hx hb dX9_sheet_99 rfl (lv_at hl 2 rfl) ?_
              refine lv_imul hx hb dX9_sheet_100 ?_
              refine xl_i (y := 0) (by decide) ?_
              refine lv_iload hx hb dX9_sheet_101 (lv_at hl 0 rfl) ?_
              refine lv_iadd hx hb dX9_sheet_103 ?_
              refine xl_i (y := nI (0 + k_12)) (nI_add 0 k_12) ?_
              refine lv_lconst (v := 0) hx hb dX9_sheet_104 (by decide) ?_
              refine va_last hx hb hK hP hD hS 3 1 rfl rfl (vp_in_nI (show 0 + k_12 < 160 by omega) (by decide)) dX9_sheet_105 (fun H locs hP hD hS => ?_)
              obtain ⟨f_16, ef_16⟩ : ∃ g, g = vp_updL f9 (nI (0 + k_12)).toNatClampNeg 0 := ⟨_, rfl⟩
              rw [← ef_16] at hP hD
              have hP : va_P D vwCl [(h0, .inr (9, [.ref ys, .ref yk, .ref yo, .ref yt, .int 0, .ref yfa, .ref yfe, .int 0, .int 0, .int 0, .ref yro, .ref yhe, .ref ygr, .int 0, .int 0, .int 0, .ref yta, .int 0, .int 0, .int 0, .int 0, .int 0, .ref ywa, .ref ybi, .ref ysi, .ref ynu, .ref ymo])), (ybi, .inl (cI, 4, .inl f_9)), (ysi, .inl (cI, 4, .inl f_11)), (ynu, .inl (cJ, 160, .inr (.inl f_16))), (yt, .inl (cI, 7, .inl (fun _ => 0)))] H := hP
              have hD : va_D A [(h0, .inr (9, [.ref ys, .ref yk, .ref yo, .ref yt, .int 0, .ref yfa, .ref yfe, .int 0, .int 0, .int 0, .ref yro, .ref yhe, .ref ygr, .int 0, .int 0, .int 0, .ref yta, .int 0, .int 0, .int 0, .int 0, .int 0, .ref ywa, .ref ybi, .ref ysi, .ref ynu, .ref ymo])), (ybi, .inl (cI, 4, .inl f_9)), (ysi, .inl (cI, 4, .inl f_11)), (ynu, .inl (cJ, 160, .inr (.inl f_16))), (yt, .inl (cI, 7, .inl (fun _ => 0)))] := hD
              refine lv_iinc (v := nI (k_12 + 1)) (lv' := [(4, .int (nI (k_12 + 1))), (0, .ref h0), (1, .int 0), (2, .int 0), (3, .int p2)]) hx hb dX9_sheet_106 hl (k := 0) rfl (nI_1 (k_12)) (by decide) rfl (fun ls hl => ?_)
              refine lv_goto (tgt := 86) hx hb dX9_sheet_109 (by decide) ?_
              exact ih (k_12 + 1) f_16 _ _ _ (by omega) (hP.sub [0, 1, 2, 3, 4] rfl) (hD.sub [0, 1, 2, 3, 4] (by decide) rfl) hS (lv_sub hl [0, 1, 2, 3, 4] rfl)
          · skip
            refine lv_aload_n hx hb dX9_sheet_61 rfl (lv_at hl 0 rfl) ?_
            refine xg hF kf_X9_43 hK hP 0 rfl rfl dX9_sheet_62 ?_
            refine lv_iload_n hx hb dX9_sheet_65 rfl (lv_at hl 1 rfl) ?_
            refine lv_iload_n hx hb dX9_sheet_66 rfl (lv_at hl 2 rfl) ?_
            refine va_iast hx hb hK hP hD hS 1 0 rfl rfl (xin 1 4 (by decide) (by decide)) dX9_sheet_67 (fun H locs hP hD hS => ?_)
            obtain ⟨f_17, ef_17⟩ : ∃ g, g = upd (fun _ => 0) (1 : Int32).toNatClampNeg 0 := ⟨_, rfl⟩
            rw [← ef_17] at hP hD
            have hP : va_P D vwCl [(h0, .inr (9, [.ref ys, .ref yk, .ref yo, .ref yt, .int 0, .ref yfa, .ref yfe, .int 0, .int 0, .int 0, .ref yro, .ref yhe, .ref ygr, .int 0, .int 0, .int 0, .ref yta, .int 0, .int 0, .int 0, .int 0, .int 0, .ref ywa, .ref ybi, .ref ysi, .ref ynu, .ref ymo])), (ybi, .inl (cI, 4, .inl f_17)), (ysi, .inl (cI, 4, .inl (fun _ => 0))), (ynu, .inl (cJ, 160, .inr (.inl (fun _ => 0)))), (yt, .inl (cI, 7, .inl (fun _ => 0)))] H := hP
            have hD : va_D A [(h0, .inr (9, [.ref ys, .ref yk, .ref yo, .ref yt, .int 0, .ref yfa, .ref yfe, .int 0, .int 0, .int 0, .ref yro, .ref yhe, .ref ygr, .int 0, .int 0, .int 0, .ref yta, .int 0, .int 0, .int 0, .int 0, .int 0, .ref ywa, .ref ybi, .ref ysi, .ref ynu, .ref ymo])), (ybi, .inl (cI, 4, .inl f_17)), (ysi, .inl (cI, 4, .inl (fun _ => 0))), (ynu, .inl (cJ, 160, .inr (.inl (fun _ => 0)))), (yt, .inl (cI, 7, .inl (fun _ => 0)))] := hD
            refine lv_aload_n hx hb dX9_sheet_68 rfl (lv_at hl 0 rfl) ?_
            refine xg hF kf_X9_46 hK hP 0 rfl rfl dX9_sheet_69 ?_
            refine lv_iload_n hx hb dX9_sheet_72 rfl (lv_at hl 1 rfl) ?_
            refine lv_iload_n hx hb dX9_sheet_73 rfl (lv_at hl 2 rfl) ?_
            refine lv_if_ne (tgt := 81) hx hb dX9_sheet_74 (by decide) (fun c_18 => absurd (by decide) c_18) (fun c_18 => ?_)
            refine lv_iconst (v := 0) hx hb dX9_sheet_77 (by decide) ?_
            refine lv_goto (tgt := 82) hx hb dX9_sheet_78 (by decide) ?_
            refine va_iast hx hb hK hP hD hS 2 0 rfl rfl (xin 1 4 (by decide) (by decide)) dX9_sheet_82 (fun H locs hP hD hS => ?_)
            obtain ⟨f_19, ef_19⟩ : ∃ g, g = upd (fun _ => 0) (1 : Int32).toNatClampNeg 0 := ⟨_, rfl⟩
            rw [← ef_19] at hP hD
            have hP : va_P D vwCl [(h0, .inr (9, [.ref ys, .ref yk, .ref yo, .ref yt, .int 0, .ref yfa, .ref yfe, .int 0, .int 0, .int 0, .ref yro, .ref yhe, .ref ygr, .int 0, .int 0, .int 0, .ref yta, .int 0, .int 0, .int 0, .int 0, .int 0, .ref ywa, .ref ybi, .ref ysi, .ref ynu, .ref ymo])), (ybi, .inl (cI, 4, .inl f_17)), (ysi, .inl (cI, 4, .inl f_19)), (ynu, .inl (cJ, 160, .inr (.inl (fun _ => 0)))), (yt, .inl (cI, 7, .inl (fun _ => 0)))] H := hP
            have hD : va_D A [(h0, .inr (9, [.ref ys, .ref yk, .ref yo, .ref yt, .int 0, .ref yfa, .ref yfe, .int 0, .int 0, .int 0, .ref yro, .ref yhe, .ref ygr, .int 0, .int 0, .int 0, .ref yta, .int 0, .int 0, .int 0, .int 0, .int 0, .ref ywa, .ref ybi, .ref ysi, .ref ynu, .ref ymo])), (ybi, .inl (cI, 4, .inl f_17)), (ysi, .inl (cI, 4, .inl f_19)), (ynu, .inl (cJ, 160, .inr (.inl (fun _ => 0)))), (yt, .inl (cI, 7, .inl (fun _ => 0)))] := hD
            refine lv_iconst (v := 0) hx hb dX9_sheet_83 (by decide) ?_
            refine lv_istore (lv' := [(4, .int 0), (0, .ref h0), (1, .int 1), (2, .int 0), (3, .int p2)]) hx hb dX9_sheet_84 hl (by decide) rfl (fun ls hl => ?_)
            suffices loop_21 : ∀ (n k_20 : Nat) (f9 : Nat → Int64) (H : Heap) (locs : List Loc) (ls : Array Slot), k_20 + n = 40 → va_P D vwCl [(h0, .inr (9, [.ref ys, .ref yk, .ref yo, .ref yt, .int 0, .ref yfa, .ref yfe, .int 0, .int 0, .int 0, .ref yro, .ref yhe, .ref ygr, .int 0, .int 0, .int 0, .ref yta, .int 0, .int 0, .int 0, .int 0, .int 0, .ref ywa, .ref ybi, .ref ysi, .ref ynu, .ref ymo])), (ybi, .inl (cI, 4, .inl f_17)), (ysi, .inl (cI, 4, .inl f_19)), (ynu, .inl (cJ, 160, .inr (.inl f9))), (yt, .inl (cI, 7, .inl (fun _ => 0)))] H → va_D A [(h0, .inr (9, [.ref ys, .ref yk, .ref yo, .ref yt, .int 0, .ref yfa, .ref yfe, .int 0, .int 0, .int 0, .ref yro, .ref yhe, .ref ygr, .int 0, .int 0, .int 0, .ref yta, .int 0, .int 0, .int 0, .int 0, .int 0, .ref ywa, .ref ybi, .ref ysi, .ref ynu, .ref ymo])), (ybi, .inl (cI, 4, .inl f_17)), (ysi, .inl (cI, 4, .inl f_19)), (ynu, .inl (cJ, 160, .inr (.inl f9))), (yt, .inl (cI, 7, .inl (fun _ => 0)))] → va_S A s.heap H locs → lv_has ls 5 [(4, .int (nI (k_20))), (0, .ref h0), (1, .int 1), (2, .int 0), (3, .int p2)] → W p l e ({ frames := 2, cells := 0, slots := 0, locals := 45 }) s m ([.ref h0, .int 1, .int 0, .int p2] : List Value).toArray below meth c H locs 0 0 (MQ below (XQi (fun (r : Int32) (_ : Unit) => r = a_sheet 1 0 p2) D (fun _ : Unit => []) A) ([.ref h0, .int 1, .int 0, .int p2] : List Value).toArray s 0 0 A) (F0 m 86 ls []) by
              exact loop_21 40 0 (fun _ => 0) _ _ _ (by decide) hP hD hS (lv_sub hl [0, 1, 2, 3, 4] rfl)
            intro n
            induction n with
            | zero =>
              intro k_20 f9 H locs ls hk hP hD hS hl 
              have hk2 : k_20 = 40 := by omega
              subst hk2
              have hl : lv_has ls 5 [(4, .int 40), (0, .ref h0), (1, .int 1), (2, .int 0), (3, .int p2)] := hl
              refine lv_iload hx hb dX9_sheet_86 (lv_at hl 0 rfl) ?_
              refine lv_bipush (v := 40) hx hb dX9_sheet_88 (by decide) ?_
              refine lv_icmp_ge (tgt := 112) hx hb dX9_sheet_90 (by decide) (fun c_22 => ?_) (fun c_22 => absurd (by decide) c_22)
              refine lv_aload_n hx hb dX9_sheet_112 rfl (lv_at hl 1 rfl) ?_
              refine xg hF kf_X9_46 hK hP 0 rfl rfl dX9_sheet_113 ?_
              refine lv_iload_n hx hb dX9_sheet_116 rfl (lv_at hl 2 rfl) ?_
              refine va_iald hx hb hK hP 2 0 rfl rfl (xin 1 4 (by decide) (by decide)) dX9_sheet_117 ?_
              refine xl_i (y := f_19 1) (congrArg f_19 rfl) ?_
              refine xl_i (y := 0) (by rw [ef_19]; rfl) ?_
              exact W.iret (v := 0) hx hb hr (fun t ht hW => ⟨⟨0, (), rfl, (p_sheet5 (by decide) (by decide) (fun h => absurd c_7 (Int32.not_le.mpr h)) (fun h => absurd c_8 (Int32.not_le.mpr h))), by rw [ht]; exact hP.sub [] rfl, hD.sub [] (by decide) rfl⟩, hS.F ht⟩) hS.2.2 dX9_sheet_118 hlk
            | succ n ih =>
              intro k_20 f9 H locs ls hk hP hD hS hl 
              have hlt_k_20 : k_20 < 40 := by omega
              refine lv_iload hx hb dX9_sheet_86 (lv_at hl 0 rfl) ?_
              refine lv_bipush (v := 40) hx hb dX9_sheet_88 (by decide) ?_
              refine lv_icmp_ge (tgt := 112) hx hb dX9_sheet_90 (by decide) (fun c_23 => absurd c_23 (nI_ge hlt_k_20 (by decide))) (fun c_23 => ?_)
              refine lv_aload_n hx hb dX9_sheet_93 rfl (lv_at hl 1 rfl) ?_
              refine xg hF kf_X9_49 hK hP 0 rfl rfl dX9_sheet_94 ?_
              refine lv_bipush (v := 40) hx hb dX9_sheet_97 (by decide) ?_
              refine lv_iload_n hx hb dX9_sheet_99 rfl (lv_at hl 2 rfl) ?_
              refine lv_imul hx hb dX9_sheet_100 ?_
              refine xl_i (y := 40) (by decide) ?_
              refine lv_iload hx hb dX9_sheet_101 (lv_at hl 0 rfl) ?_
              refine lv_iadd hx hb dX9_sheet_103 ?_
              refine xl_i (y := nI (40 + k_20)) (nI_add 40 k_20) ?_
              refine lv_lconst (v := 0) hx hb dX9_sheet_104 (by decide) ?_
              refine va_last hx hb hK hP hD hS 3 1 rfl rfl (vp_in_nI (show 40 + k_20 < 160 by omega) (by decide)) dX9_sheet_105 (fun H locs hP hD hS => ?_)
              obtain ⟨f_24, ef_24⟩ : ∃ g, g = vp_updL f9 (nI (40 + k_20)).toNatClampNeg 0 := ⟨_, rfl⟩
              rw [← ef_24] at hP hD
              have hP : va_P D vwCl [(h0, .inr (9, [.ref ys, .ref yk, .ref yo, .ref yt, .int 0, .ref yfa, .ref yfe, .int 0, .int 0, .int 0, .ref yro, .ref yhe, .ref ygr, .int 0, .int 0, .int 0, .ref yta, .int 0, .int 0, .int 0, .int 0, .int 0, .ref ywa, .ref ybi, .ref ysi, .ref ynu, .ref ymo])), (ybi, .inl (cI, 4, .inl f_17)), (ysi, .inl (cI, 4, .inl f_19)), (ynu, .inl (cJ, 160, .inr (.inl f_24))), (yt, .inl (cI, 7, .inl (fun _ => 0)))] H := hP
              have hD : va_D A [(h0, .inr (9, [.ref ys, .ref yk, .ref yo, .ref yt, .int 0, .ref yfa, .ref yfe, .int 0, .int 0, .int 0, .ref yro, .ref yhe, .ref ygr, .int 0, .int 0, .int 0, .ref yta, .int 0, .int 0, .int 0, .int 0, .int 0, .ref ywa, .ref ybi, .ref ysi, .ref ynu, .ref ymo])), (ybi, .inl (cI, 4, .inl f_17)), (ysi, .inl (cI, 4, .inl f_19)), (ynu, .inl (cJ, 160, .inr (.inl f_24))), (yt, .inl (cI, 7, .inl (fun _ => 0)))] := hD
              refine lv_iinc (v := nI (k_20 + 1)) (lv' := [(4, .int (nI (k_20 + 1))), (0, .ref h0), (1, .int 1), (2, .int 0), (3, .int p2)]) hx hb dX9_sheet_106 hl (k := 0) rfl (nI_1 (k_20)) (by decide) rfl (fun ls hl => ?_)
              refine lv_goto (tgt := 86) hx hb dX9_sheet_109 (by decide) ?_
              exact ih (k_20 + 1) f_24 _ _ _ (by omega) (hP.sub [0, 1, 2, 3, 4] rfl) (hD.sub [0, 1, 2, 3, 4] (by decide) rfl) hS (lv_sub hl [0, 1, 2, 3, 4] rfl)
          · skip
            refine lv_aload_n hx hb dX9_sheet_61 rfl (lv_at hl 0 rfl) ?_
            refine xg hF kf_X9_43 hK hP 0 rfl rfl dX9_sheet_62 ?_
            refine lv_iload_n hx hb dX9_sheet_65 rfl (lv_at hl 1 rfl) ?_
            refine lv_iload_n hx hb dX9_sheet_66 rfl (lv_at hl 2 rfl) ?_
            refine va_iast hx hb hK hP hD hS 1 0 rfl rfl (xin 2 4 (by decide) (by decide)) dX9_sheet_67 (fun H locs hP hD hS => ?_)
            obtain ⟨f_25, ef_25⟩ : ∃ g, g = upd (fun _ => 0) (2 : Int32).toNatClampNeg 0 := ⟨_, rfl⟩
            rw [← ef_25] at hP hD
            have hP : va_P D vwCl [(h0, .inr (9, [.ref ys, .ref yk, .ref yo, .ref yt, .int 0, .ref yfa, .ref yfe, .int 0, .int 0, .int 0, .ref yro, .ref yhe, .ref ygr, .int 0, .int 0, .int 0, .ref yta, .int 0, .int 0, .int 0, .int 0, .int 0, .ref ywa, .ref ybi, .ref ysi, .ref ynu, .ref ymo])), (ybi, .inl (cI, 4, .inl f_25)), (ysi, .inl (cI, 4, .inl (fun _ => 0))), (ynu, .inl (cJ, 160, .inr (.inl (fun _ => 0)))), (yt, .inl (cI, 7, .inl (fun _ => 0)))] H := hP
            have hD : va_D A [(h0, .inr (9, [.ref ys, .ref yk, .ref yo, .ref yt, .int 0, .ref yfa, .ref yfe, .int 0, .int 0, .int 0, .ref yro, .ref yhe, .ref ygr, .int 0, .int 0, .int 0, .ref yta, .int 0, .int 0, .int 0, .int 0, .int 0, .ref ywa, .ref ybi, .ref ysi, .ref ynu, .ref ymo])), (ybi, .inl (cI, 4, .inl f_25)), (ysi, .inl (cI, 4, .inl (fun _ => 0))), (ynu, .inl (cJ, 160, .inr (.inl (fun _ => 0)))), (yt, .inl (cI, 7, .inl (fun _ => 0)))] := hD
            refine lv_aload_n hx hb dX9_sheet_68 rfl (lv_at hl 0 rfl) ?_
            refine xg hF kf_X9_46 hK hP 0 rfl rfl dX9_sheet_69 ?_
            refine lv_iload_n hx hb dX9_sheet_72 rfl (lv_at hl 1 rfl) ?_
            refine lv_iload_n hx hb dX9_sheet_73 rfl (lv_at hl 2 rfl) ?_
            refine lv_if_ne (tgt := 81) hx hb dX9_sheet_74 (by decide) (fun c_26 => absurd (by decide) c_26) (fun c_26 => ?_)
            refine lv_iconst (v := 0) hx hb dX9_sheet_77 (by decide) ?_
            refine lv_goto (tgt := 82) hx hb dX9_sheet_78 (by decide) ?_
            refine va_iast hx hb hK hP hD hS 2 0 rfl rfl (xin 2 4 (by decide) (by decide)) dX9_sheet_82 (fun H locs hP hD hS => ?_)
            obtain ⟨f_27, ef_27⟩ : ∃ g, g = upd (fun _ => 0) (2 : Int32).toNatClampNeg 0 := ⟨_, rfl⟩
            rw [← ef_27] at hP hD
            have hP : va_P D vwCl [(h0, .inr (9, [.ref ys, .ref yk, .ref yo, .ref yt, .int 0, .ref yfa, .ref yfe, .int 0, .int 0, .int 0, .ref yro, .ref yhe, .ref ygr, .int 0, .int 0, .int 0, .ref yta, .int 0, .int 0, .int 0, .int 0, .int 0, .ref ywa, .ref ybi, .ref ysi, .ref ynu, .ref ymo])), (ybi, .inl (cI, 4, .inl f_25)), (ysi, .inl (cI, 4, .inl f_27)), (ynu, .inl (cJ, 160, .inr (.inl (fun _ => 0)))), (yt, .inl (cI, 7, .inl (fun _ => 0)))] H := hP
            have hD : va_D A [(h0, .inr (9, [.ref ys, .ref yk, .ref yo, .ref yt, .int 0, .ref yfa, .ref yfe, .int 0, .int 0, .int 0, .ref yro, .ref yhe, .ref ygr, .int 0, .int 0, .int 0, .ref yta, .int 0, .int 0, .int 0, .int 0, .int 0, .ref ywa, .ref ybi, .ref ysi, .ref ynu, .ref ymo])), (ybi, .inl (cI, 4, .inl f_25)), (ysi, .inl (cI, 4, .inl f_27)), (ynu, .inl (cJ, 160, .inr (.inl (fun _ => 0)))), (yt, .inl (cI, 7, .inl (fun _ => 0)))] := hD
            refine lv_iconst (v := 0) hx hb dX9_sheet_83 (by decide) ?_
            refine lv_istore (lv' := [(4, .int 0), (0, .ref h0), (1, .int 2), (2, .int 0), (3, .int p2)]) hx hb dX9_sheet_84 hl (by decide) rfl (fun ls hl => ?_)
            suffices loop_29 : ∀ (n k_28 : Nat) (f9 : Nat → Int64) (H : Heap) (locs : List Loc) (ls : Array Slot), k_28 + n = 40 → va_P D vwCl [(h0, .inr (9, [.ref ys, .ref yk, .ref yo, .ref yt, .int 0, .ref yfa, .ref yfe, .int 0, .int 0, .int 0, .ref yro, .ref yhe, .ref ygr, .int 0, .int 0, .int 0, .ref yta, .int 0, .int 0, .int 0, .int 0, .int 0, .ref ywa, .ref ybi, .ref ysi, .ref ynu, .ref ymo])), (ybi, .inl (cI, 4, .inl f_25)), (ysi, .inl (cI, 4, .inl f_27)), (ynu, .inl (cJ, 160, .inr (.inl f9))), (yt, .inl (cI, 7, .inl (fun _ => 0)))] H → va_D A [(h0, .inr (9, [.ref ys, .ref yk, .ref yo, .ref yt, .int 0, .ref yfa, .ref yfe, .int 0, .int 0, .int 0, .ref yro, .ref yhe, .ref ygr, .int 0, .int 0, .int 0, .ref yta, .int 0, .int 0, .int 0, .int 0, .int 0, .ref ywa, .ref ybi, .ref ysi, .ref ynu, .ref ymo])), (ybi, .inl (cI, 4, .inl f_25)), (ysi, .inl (cI, 4, .inl f_27)), (ynu, .inl (cJ, 160, .inr (.inl f9))), (yt, .inl (cI, 7, .inl (fun _ => 0)))] → va_S A s.heap H locs → lv_has ls 5 [(4, .int (nI (k_28))), (0, .ref h0), (1, .int 2), (2, .int 0), (3, .int p2)] → W p l e ({ frames := 2, cells := 0, slots := 0, locals := 45 }) s m ([.ref h0, .int 2, .int 0, .int p2] : List Value).toArray below meth c H locs 0 0 (MQ below (XQi (fun (r : Int32) (_ : Unit) => r = a_sheet 2 0 p2) D (fun _ : Unit => []) A) ([.ref h0, .int 2, .int 0, .int p2] : List Value).toArray s 0 0 A) (F0 m 86 ls []) by
              exact loop_29 40 0 (fun _ => 0) _ _ _ (by decide) hP hD hS (lv_sub hl [0, 1, 2, 3, 4] rfl)
            intro n
            induction n with
            | zero =>
              intro k_28 f9 H locs ls hk hP hD hS hl 
              have hk2 : k_28 = 40 := by omega
              subst hk2
              have hl : lv_has ls 5 [(4, .int 40), (0, .ref h0), (1, .int 2), (2, .int 0), (3, .int p2)] := hl
              refine lv_iload hx hb dX9_sheet_86 (lv_at hl 0 rfl) ?_
              refine lv_bipush (v := 40) hx hb dX9_sheet_88 (by decide) ?_
              refine lv_icmp_ge (tgt := 112) hx hb dX9_sheet_90 (by decide) (fun c_30 => ?_) (fun c_30 => absurd (by decide) c_30)
              refine lv_aload_n hx hb dX9_sheet_112 rfl (lv_at hl 1 rfl) ?_
              refine xg hF kf_X9_46 hK hP 0 rfl rfl dX9_sheet_113 ?_
              refine lv_iload_n hx hb dX9_sheet_116 rfl (lv_at hl 2 rfl) ?_
              refine va_iald hx hb hK hP 2 0 rfl rfl (xin 2 4 (by decide) (by decide)) dX9_sheet_117 ?_
              refine xl_i (y := f_27 2) (congrArg f_27 rfl) ?_
              refine xl_i (y := 0) (by rw [ef_27]; rfl) ?_
              exact W.iret (v := 0) hx hb hr (fun t ht hW => ⟨⟨0, (), rfl, (p_sheet5 (by decide) (by decide) (fun h => absurd c_7 (Int32.not_le.mpr h)) (fun h => absurd c_8 (Int32.not_le.mpr h))), by rw [ht]; exact hP.sub [] rfl, hD.sub [] (by decide) rfl⟩, hS.F ht⟩) hS.2.2 dX9_sheet_118 hlk
            | succ n ih =>
              intro k_28 f9 H locs ls hk hP hD hS hl 
              have hlt_k_28 : k_28 < 40 := by omega
              refine lv_iload hx hb dX9_sheet_86 (lv_at hl 0 rfl) ?_
              refine lv_bipush (v := 40) hx hb dX9_sheet_88 (by decide) ?_
              refine lv_icmp_ge (tgt := 112) hx hb dX9_sheet_90 (by decide) (fun c_31 => absurd c_31 (nI_ge hlt_k_28 (by decide))) (fun c_31 => ?_)
              refine lv_aload_n hx hb dX9_sheet_93 rfl (lv_at hl 1 rfl) ?_
              refine xg hF kf_X9_49 hK hP 0 rfl rfl dX9_sheet_94 ?_
              refine lv_bipush (v := 40) hx hb dX9_sheet_97 (by decide) ?_
              refine lv_iload_n hx hb dX9_sheet_99 rfl (lv_at hl 2 rfl) ?_
              refine lv_imul hx hb dX9_sheet_100 ?_
              refine xl_i (y := 80) (by decide) ?_
              refine lv_iload hx hb dX9_sheet_101 (lv_at hl 0 rfl) ?_
              refine lv_iadd hx hb dX9_sheet_103 ?_
              refine xl_i (y := nI (80 + k_28)) (nI_add 80 k_28) ?_
              refine lv_lconst (v := 0) hx hb dX9_sheet_104 (by decide) ?_
              refine va_last hx hb hK hP hD hS 3 1 rfl rfl (vp_in_nI (show 80 + k_28 < 160 by omega) (by decide)) dX9_sheet_105 (fun H locs hP hD hS => ?_)
              obtain ⟨f_32, ef_32⟩ : ∃ g, g = vp_updL f9 (nI (80 + k_28)).toNatClampNeg 0 := ⟨_, rfl⟩
              rw [← ef_32] at hP hD
              have hP : va_P D vwCl [(h0, .inr (9, [.ref ys, .ref yk, .ref yo, .ref yt, .int 0, .ref yfa, .ref yfe, .int 0, .int 0, .int 0, .ref yro, .ref yhe, .ref ygr, .int 0, .int 0, .int 0, .ref yta, .int 0, .int 0, .int 0, .int 0, .int 0, .ref ywa, .ref ybi, .ref ysi, .ref ynu, .ref ymo])), (ybi, .inl (cI, 4, .inl f_25)), (ysi, .inl (cI, 4, .inl f_27)), (ynu, .inl (cJ, 160, .inr (.inl f_32))), (yt, .inl (cI, 7, .inl (fun _ => 0)))] H := hP
              have hD : va_D A [(h0, .inr (9, [.ref ys, .ref yk, .ref yo, .ref yt, .int 0, .ref yfa, .ref yfe, .int 0, .int 0, .int 0, .ref yro, .ref yhe, .ref ygr, .int 0, .int 0, .int 0, .ref yta, .int 0, .int 0, .int 0, .int 0, .int 0, .ref ywa, .ref ybi, .ref ysi, .ref ynu, .ref ymo])), (ybi, .inl (cI, 4, .inl f_25)), (ysi, .inl (cI, 4, .inl f_27)), (ynu, .inl (cJ, 160, .inr (.inl f_32))), (yt, .inl (cI, 7, .inl (fun _ => 0)))] := hD
              refine lv_iinc (v := nI (k_28 + 1)) (lv' := [(4, .int (nI (k_28 + 1))), (0, .ref h0), (1, .int 2), (2, .int 0), (3, .int p2)]) hx hb dX9_sheet_106 hl (k := 0) rfl (nI_1 (k_28)) (by decide) rfl (fun ls hl => ?_)
              refine lv_goto (tgt := 86) hx hb dX9_sheet_109 (by decide) ?_
              exact ih (k_28 + 1) f_32 _ _ _ (by omega) (hP.sub [0, 1, 2, 3, 4] rfl) (hD.sub [0, 1, 2, 3, 4] (by decide) rfl) hS (lv_sub hl [0, 1, 2, 3, 4] rfl)
          · skip
            refine lv_aload_n hx hb dX9_sheet_61 rfl (lv_at hl 0 rfl) ?_
            refine xg hF kf_X9_43 hK hP 0 rfl rfl dX9_sheet_62 ?_
            refine lv_iload_n hx hb dX9_sheet_65 rfl (lv_at hl 1 rfl) ?_
            refine lv_iload_n hx hb dX9_sheet_66 rfl (lv_at hl 2 rfl) ?_
            refine va_iast hx hb hK hP hD hS 1 0 rfl rfl (xin 3 4 (by decide) (by decide)) dX9_sheet_67 (fun H locs hP hD hS => ?_)
            obtain ⟨f_33, ef_33⟩ : ∃ g, g = upd (fun _ => 0) (3 : Int32).toNatClampNeg 0 := ⟨_, rfl⟩
            rw [← ef_33] at hP hD
            have hP : va_P D vwCl [(h0, .inr (9, [.ref ys, .ref yk, .ref yo, .ref yt, .int 0, .ref yfa, .ref yfe, .int 0, .int 0, .int 0, .ref yro, .ref yhe, .ref ygr, .int 0, .int 0, .int 0, .ref yta, .int 0, .int 0, .int 0, .int 0, .int 0, .ref ywa, .ref ybi, .ref ysi, .ref ynu, .ref ymo])), (ybi, .inl (cI, 4, .inl f_33)), (ysi, .inl (cI, 4, .inl (fun _ => 0))), (ynu, .inl (cJ, 160, .inr (.inl (fun _ => 0)))), (yt, .inl (cI, 7, .inl (fun _ => 0)))] H := hP
            have hD : va_D A [(h0, .inr (9, [.ref ys, .ref yk, .ref yo, .ref yt, .int 0, .ref yfa, .ref yfe, .int 0, .int 0, .int 0, .ref yro, .ref yhe, .ref ygr, .int 0, .int 0, .int 0, .ref yta, .int 0, .int 0, .int 0, .int 0, .int 0, .ref ywa, .ref ybi, .ref ysi, .ref ynu, .ref ymo])), (ybi, .inl (cI, 4, .inl f_33)), (ysi, .inl (cI, 4, .inl (fun _ => 0))), (ynu, .inl (cJ, 160, .inr (.inl (fun _ => 0)))), (yt, .inl (cI, 7, .inl (fun _ => 0)))] := hD
            refine lv_aload_n hx hb dX9_sheet_68 rfl (lv_at hl 0 rfl) ?_
            refine xg hF kf_X9_46 hK hP 0 rfl rfl dX9_sheet_69 ?_
            refine lv_iload_n hx hb dX9_sheet_72 rfl (lv_at hl 1 rfl) ?_
            refine lv_iload_n hx hb dX9_sheet_73 rfl (lv_at hl 2 rfl) ?_
            refine lv_if_ne (tgt := 81) hx hb dX9_sheet_74 (by decide) (fun c_34 => absurd (by decide) c_34) (fun c_34 => ?_)
            refine lv_iconst (v := 0) hx hb dX9_sheet_77 (by decide) ?_
            refine lv_goto (tgt := 82) hx hb dX9_sheet_78 (by decide) ?_
            refine va_iast hx hb hK hP hD hS 2 0 rfl rfl (xin 3 4 (by decide) (by decide)) dX9_sheet_82 (fun H locs hP hD hS => ?_)
            obtain ⟨f_35, ef_35⟩ : ∃ g, g = upd (fun _ => 0) (3 : Int32).toNatClampNeg 0 := ⟨_, rfl⟩
            rw [← ef_35] at hP hD
            have hP : va_P D vwCl [(h0, .inr (9, [.ref ys, .ref yk, .ref yo, .ref yt, .int 0, .ref yfa, .ref yfe, .int 0, .int 0, .int 0, .ref yro, .ref yhe, .ref ygr, .int 0, .int 0, .int 0, .ref yta, .int 0, .int 0, .int 0, .int 0, .int 0, .ref ywa, .ref ybi, .ref ysi, .ref ynu, .ref ymo])), (ybi, .inl (cI, 4, .inl f_33)), (ysi, .inl (cI, 4, .inl f_35)), (ynu, .inl (cJ, 160, .inr (.inl (fun _ => 0)))), (yt, .inl (cI, 7, .inl (fun _ => 0)))] H := hP
            have hD : va_D A [(h0, .inr (9, [.ref ys, .ref yk, .ref yo, .ref yt, .int 0, .ref yfa, .ref yfe, .int 0, .int 0, .int 0, .ref yro, .ref yhe, .ref ygr, .int 0, .int 0, .int 0, .ref yta, .int 0, .int 0, .int 0, .int 0, .int 0, .ref ywa, .ref ybi, .ref ysi, .ref ynu, .ref ymo])), (ybi, .inl (cI, 4, .inl f_33)), (ysi, .inl (cI, 4, .inl f_35)), (ynu, .inl (cJ, 160, .inr (.inl (fun _ => 0)))), (yt, .inl (cI, 7, .inl (fun _ => 0)))] := hD
            refine lv_iconst (v := 0) hx hb dX9_sheet_83 (by decide) ?_
            refine lv_istore (lv' := [(4, .int 0), (0, .ref h0), (1, .int 3), (2, .int 0), (3, .int p2)]) hx hb dX9_sheet_84 hl (by decide) rfl (fun ls hl => ?_)
            suffices loop_37 : ∀ (n k_36 : Nat) (f9 : Nat → Int64) (H : Heap) (locs : List Loc) (ls : Array Slot), k_36 + n = 40 → va_P D vwCl [(h0, .inr (9, [.ref ys, .ref yk, .ref yo, .ref yt, .int 0, .ref yfa, .ref yfe, .int 0, .int 0, .int 0, .ref yro, .ref yhe, .ref ygr, .int 0, .int 0, .int 0, .ref yta, .int 0, .int 0, .int 0, .int 0, .int 0, .ref ywa, .ref ybi, .ref ysi, .ref ynu, .ref ymo])), (ybi, .inl (cI, 4, .inl f_33)), (ysi, .inl (cI, 4, .inl f_35)), (ynu, .inl (cJ, 160, .inr (.inl f9))), (yt, .inl (cI, 7, .inl (fun _ => 0)))] H → va_D A [(h0, .inr (9, [.ref ys, .ref yk, .ref yo, .ref yt, .int 0, .ref yfa, .ref yfe, .int 0, .int 0, .int 0, .ref yro, .ref yhe, .ref ygr, .int 0, .int 0, .int 0, .ref yta, .int 0, .int 0, .int 0, .int 0, .int 0, .ref ywa, .ref ybi, .ref ysi, .ref ynu, .ref ymo])), (ybi, .inl (cI, 4, .inl f_33)), (ysi, .inl (cI, 4, .inl f_35)), (ynu, .inl (cJ, 160, .inr (.inl f9))), (yt, .inl (cI, 7, .inl (fun _ => 0)))] → va_S A s.heap H locs → lv_has ls 5 [(4, .int (nI (k_36))), (0, .ref h0), (1, .int 3), (2, .int 0), (3, .int p2)] → W p l e ({ frames := 2, cells := 0, slots := 0, locals := 45 }) s m ([.ref h0, .int 3, .int 0, .int p2] : List Value).toArray below meth c H locs 0 0 (MQ below (XQi (fun (r : Int32) (_ : Unit) => r = a_sheet 3 0 p2) D (fun _ : Unit => []) A) ([.ref h0, .int 3, .int 0, .int p2] : List Value).toArray s 0 0 A) (F0 m 86 ls []) by
              exact loop_37 40 0 (fun _ => 0) _ _ _ (by decide) hP hD hS (lv_sub hl [0, 1, 2, 3, 4] rfl)
            intro n
            induction n with
            | zero =>
              intro k_36 f9 H locs ls hk hP hD hS hl 
              have hk2 : k_36 = 40 := by omega
              subst hk2
              have hl : lv_has ls 5 [(4, .int 40), (0, .ref h0), (1, .int 3), (2, .int 0), (3, .int p2)] := hl
              refine lv_iload hx hb dX9_sheet_86 (lv_at hl 0 rfl) ?_
              refine lv_bipush (v := 40) hx hb dX9_sheet_88 (by decide) ?_
              refine lv_icmp_ge (tgt := 112) hx hb dX9_sheet_90 (by decide) (fun c_38 => ?_) (fun c_38 => absurd (by decide) c_38)
              refine lv_aload_n hx hb dX9_sheet_112 rfl (lv_at hl 1 rfl) ?_
              refine xg hF kf_X9_46 hK hP 0 rfl rfl dX9_sheet_113 ?_
              refine lv_iload_n hx hb dX9_sheet_116 rfl (lv_at hl 2 rfl) ?_
              refine va_iald hx hb hK hP 2 0 rfl rfl (xin 3 4 (by decide) (by decide)) dX9_sheet_117 ?_
              refine xl_i (y := f_35 3) (congrArg f_35 rfl) ?_
              refine xl_i (y := 0) (by rw [ef_35]; rfl) ?_
              exact W.iret (v := 0) hx hb hr (fun t ht hW => ⟨⟨0, (), rfl, (p_sheet5 (by decide) (by decide) (fun h => absurd c_7 (Int32.not_le.mpr h)) (fun h => absurd c_8 (Int32.not_le.mpr h))), by rw [ht]; exact hP.sub [] rfl, hD.sub [] (by decide) rfl⟩, hS.F ht⟩) hS.2.2 dX9_sheet_118 hlk
            | succ n ih =>
              intro k_36 f9 H locs ls hk hP hD hS hl 
              have hlt_k_36 : k_36 < 40 := by omega
              refine lv_iload hx hb dX9_sheet_86 (lv_at hl 0 rfl) ?_
              refine lv_bipush (v := 40) hx hb dX9_sheet_88 (by decide) ?_
              refine lv_icmp_ge (tgt := 112) hx hb dX9_sheet_90 (by decide) (fun c_39 => absurd c_39 (nI_ge hlt_k_36 (by decide))) (fun c_39 => ?_)
              refine lv_aload_n hx hb dX9_sheet_93 rfl (lv_at hl 1 rfl) ?_
              refine xg hF kf_X9_49 hK hP 0 rfl rfl dX9_sheet_94 ?_
              refine lv_bipush (v := 40) hx hb dX9_sheet_97 (by decide) ?_
              refine lv_iload_n hx hb dX9_sheet_99 rfl (lv_at hl 2 rfl) ?_
              refine lv_imul hx hb dX9_sheet_100 ?_
              refine xl_i (y := 120) (by decide) ?_
              refine lv_iload hx hb dX9_sheet_101 (lv_at hl 0 rfl) ?_
              refine lv_iadd hx hb dX9_sheet_103 ?_
              refine xl_i (y := nI (120 + k_36)) (nI_add 120 k_36) ?_
              refine lv_lconst (v := 0) hx hb dX9_sheet_104 (by decide) ?_
              refine va_last hx hb hK hP hD hS 3 1 rfl rfl (vp_in_nI (show 120 + k_36 < 160 by omega) (by decide)) dX9_sheet_105 (fun H locs hP hD hS => ?_)
              obtain ⟨f_40, ef_40⟩ : ∃ g, g = vp_updL f9 (nI (120 + k_36)).toNatClampNeg 0 := ⟨_, rfl⟩
              rw [← ef_40] at hP hD
              have hP : va_P D vwCl [(h0, .inr (9, [.ref ys, .ref yk, .ref yo, .ref yt, .int 0, .ref yfa, .ref yfe, .int 0, .int 0, .int 0, .ref yro, .ref yhe, .ref ygr, .int 0, .int 0, .int 0, .ref yta, .int 0, .int 0, .int 0, .int 0, .int 0, .ref ywa, .ref ybi, .ref ysi, .ref ynu, .ref ymo])), (ybi, .inl (cI, 4, .inl f_33)), (ysi, .inl (cI, 4, .inl f_35)), (ynu, .inl (cJ, 160, .inr (.inl f_40))), (yt, .inl (cI, 7, .inl (fun _ => 0)))] H := hP
              have hD : va_D A [(h0, .inr (9, [.ref ys, .ref yk, .ref yo, .ref yt, .int 0, .ref yfa, .ref yfe, .int 0, .int 0, .int 0, .ref yro, .ref yhe, .ref ygr, .int 0, .int 0, .int 0, .ref yta, .int 0, .int 0, .int 0, .int 0, .int 0, .ref ywa, .ref ybi, .ref ysi, .ref ynu, .ref ymo])), (ybi, .inl (cI, 4, .inl f_33)), (ysi, .inl (cI, 4, .inl f_35)), (ynu, .inl (cJ, 160, .inr (.inl f_40))), (yt, .inl (cI, 7, .inl (fun _ => 0)))] := hD
              refine lv_iinc (v := nI (k_36 + 1)) (lv' := [(4, .int (nI (k_36 + 1))), (0, .ref h0), (1, .int 3), (2, .int 0), (3, .int p2)]) hx hb dX9_sheet_106 hl (k := 0) rfl (nI_1 (k_36)) (by decide) rfl (fun ls hl => ?_)
              refine lv_goto (tgt := 86) hx hb dX9_sheet_109 (by decide) ?_
              exact ih (k_36 + 1) f_40 _ _ _ (by omega) (hP.sub [0, 1, 2, 3, 4] rfl) (hD.sub [0, 1, 2, 3, 4] (by decide) rfl) hS (lv_sub hl [0, 1, 2, 3, 4] rfl)
        · skip
          refine lv_aload_n hx hb dX9_sheet_54 rfl (lv_at hl 0 rfl) ?_
          refine lv_ldc (v := (-1000000001)) hx hb hown (hu _ uw352) dX9_sheet_55 ?_
          refine xc_Vi (wr := [(ybi, .inl (cI, 4, .inl (fun _ => 0))), (ysi, .inl (cI, 4, .inl (fun _ => 0))), (ynu, .inl (cJ, 160, .inr (.inl (fun _ => 0))))]) hF (c_X9_finds_B l D cI cJ cZ cS sa s.heap.size h0 ys yk yo yt yfa yfe yro yhe ygr yta ywa ybi ysi ynu ymo 0 0 0 (fun _ => 0) ) kv_X9_70 ⟨rfl, rfl, Nat.le_of_ble_eq_true rfl, Nat.le_of_ble_eq_true rfl⟩ ⟨Nat.le_of_ble_eq_true rfl, Nat.le_of_ble_eq_true rfl⟩ hK hN hP hD hS hA [0, 4] [1, 2, 3] rfl rfl rfl rfl (by decide) 0 rfl rfl rfl rfl hl.1 rfl (Nat.le_of_ble_eq_true rfl) dX9_sheet_57 (fun r_41 u_r_41 H locs hw_r_41 hP hD hS => ?_)
          have hP : va_P D vwCl [(ybi, .inl (cI, 4, .inl (fun _ => 0))), (ysi, .inl (cI, 4, .inl (fun _ => 0))), (ynu, .inl (cJ, 160, .inr (.inl (fun _ => 0))))] H := hP
          have hD : va_D A [(ybi, .inl (cI, 4, .inl (fun _ => 0))), (ysi, .inl (cI, 4, .inl (fun _ => 0))), (ynu, .inl (cJ, 160, .inr (.inl (fun _ => 0))))] := hD
          subst hw_r_41
          exact W.iret (v := (-1000000001)) hx hb hr (fun t ht hW => ⟨⟨(-1000000001), (), rfl, (p_sheet4 h_2 h_3 (by decide) (fun h => absurd c_7 (Int32.not_le.mpr h)) (xlt c_8)), by rw [ht]; exact hP.sub [] rfl, hD.sub [] (by decide) rfl⟩, hS.F ht⟩) hS.2.2 dX9_sheet_60 hlk
      · skip
        refine lv_aload_n hx hb dX9_sheet_40 rfl (lv_at hl 0 rfl) ?_
        refine lv_ldcw (v := (-1000000007)) hx hb hown (hu _ uw466) dX9_sheet_41 ?_
        refine xc_Vi (wr := [(ybi, .inl (cI, 4, .inl (fun _ => 0))), (ysi, .inl (cI, 4, .inl (fun _ => 0))), (ynu, .inl (cJ, 160, .inr (.inl (fun _ => 0))))]) hF (c_X9_finds_S l D cI cJ cZ cS sa s.heap.size h0 ys yk yo yt yfa yfe yro yhe ygr yta ywa ybi ysi ynu ymo 0 0 0 (fun _ => 0) ) kv_X9_70 ⟨rfl, rfl, Nat.le_of_ble_eq_true rfl, Nat.le_of_ble_eq_true rfl⟩ ⟨Nat.le_of_ble_eq_true rfl, Nat.le_of_ble_eq_true rfl⟩ hK hN hP hD hS hA [0, 4] [1, 2, 3] rfl rfl rfl rfl (by decide) 0 rfl rfl rfl rfl hl.1 rfl (Nat.le_of_ble_eq_true rfl) dX9_sheet_44 (fun r_42 u_r_42 H locs hw_r_42 hP hD hS => ?_)
        have hP : va_P D vwCl [(ybi, .inl (cI, 4, .inl (fun _ => 0))), (ysi, .inl (cI, 4, .inl (fun _ => 0))), (ynu, .inl (cJ, 160, .inr (.inl (fun _ => 0))))] H := hP
        have hD : va_D A [(ybi, .inl (cI, 4, .inl (fun _ => 0))), (ysi, .inl (cI, 4, .inl (fun _ => 0))), (ynu, .inl (cJ, 160, .inr (.inl (fun _ => 0))))] := hD
        subst hw_r_42
        exact W.iret (v := (-1000000007)) hx hb hr (fun t ht hW => ⟨⟨(-1000000007), (), rfl, (p_sheet3 h_2 h_3 (by decide) (xlt c_7)), by rw [ht]; exact hP.sub [] rfl, hD.sub [] (by decide) rfl⟩, hS.F ht⟩) hS.2.2 dX9_sheet_47 hlk
    · skip
      refine lv_iload_n hx hb dX9_sheet_11 rfl (lv_at hl 2 rfl) ?_
      refine lv_bipush (v := 8) hx hb dX9_sheet_12 (by decide) ?_
      refine lv_icmp_eq (tgt := 36) hx hb dX9_sheet_14 (by decide) (fun c_43 => ?_) (fun c_43 => ?_)
      · skip
        subst c_43
        refine lv_iload_n hx hb dX9_sheet_36 rfl (lv_at hl 3 rfl) ?_
        refine lv_if_ge (tgt := 48) hx hb dX9_sheet_37 (by decide) (fun c_44 => ?_) (fun c_44 => ?_)
        · skip
          refine lv_iload_n hx hb dX9_sheet_48 rfl (lv_at hl 3 rfl) ?_
          refine lv_bipush (v := 40) hx hb dX9_sheet_49 (by decide) ?_
          refine lv_icmp_le (tgt := 61) hx hb dX9_sheet_51 (by decide) (fun c_45 => ?_) (fun c_45 => ?_)
          · skip
            rcases x_i4 h_2 h_3 with rfl | rfl | rfl | rfl
            · skip
              refine lv_aload_n hx hb dX9_sheet_61 rfl (lv_at hl 0 rfl) ?_
              refine xg hF kf_X9_43 hK hP 0 rfl rfl dX9_sheet_62 ?_
              refine lv_iload_n hx hb dX9_sheet_65 rfl (lv_at hl 1 rfl) ?_
              refine lv_iload_n hx hb dX9_sheet_66 rfl (lv_at hl 2 rfl) ?_
              refine va_iast hx hb hK hP hD hS 1 0 rfl rfl (xin 0 4 (by decide) (by decide)) dX9_sheet_67 (fun H locs hP hD hS => ?_)
              obtain ⟨f_46, ef_46⟩ : ∃ g, g = upd (fun _ => 0) (0 : Int32).toNatClampNeg 8 := ⟨_, rfl⟩
              rw [← ef_46] at hP hD
              have hP : va_P D vwCl [(h0, .inr (9, [.ref ys, .ref yk, .ref yo, .ref yt, .int 0, .ref yfa, .ref yfe, .int 0, .int 0, .int 0, .ref yro, .ref yhe, .ref ygr, .int 0, .int 0, .int 0, .ref yta, .int 0, .int 0, .int 0, .int 0, .int 0, .ref ywa, .ref ybi, .ref ysi, .ref ynu, .ref ymo])), (ybi, .inl (cI, 4, .inl f_46)), (ysi, .inl (cI, 4, .inl (fun _ => 0))), (ynu, .inl (cJ, 160, .inr (.inl (fun _ => 0)))), (yt, .inl (cI, 7, .inl (fun _ => 0)))] H := hP
              have hD : va_D A [(h0, .inr (9, [.ref ys, .ref yk, .ref yo, .ref yt, .int 0, .ref yfa, .ref yfe, .int 0, .int 0, .int 0, .ref yro, .ref yhe, .ref ygr, .int 0, .int 0, .int 0, .ref yta, .int 0, .int 0, .int 0, .int 0, .int 0, .ref ywa, .ref ybi, .ref ysi, .ref ynu, .ref ymo])), (ybi, .inl (cI, 4, .inl f_46)), (ysi, .inl (cI, 4, .inl (fun _ => 0))), (ynu, .inl (cJ, 160, .inr (.inl (fun _ => 0)))), (yt, .inl (cI, 7, .inl (fun _ => 0)))] := hD
              refine lv_aload_n hx hb dX9_sheet_68 rfl (lv_at hl 0 rfl) ?_
              refine xg hF kf_X9_46 hK hP 0 rfl rfl dX9_sheet_69 ?_
              refine lv_iload_n hx hb dX9_sheet_72 rfl (lv_at hl 1 rfl) ?_
              refine lv_iload_n hx hb dX9_sheet_73 rfl (lv_at hl 2 rfl) ?_
              refine lv_if_ne (tgt := 81) hx hb dX9_sheet_74 (by decide) (fun c_47 => ?_) (fun c_47 => absurd c_47 (by decide))
              refine lv_iload_n hx hb dX9_sheet_81 rfl (lv_at hl 3 rfl) ?_
              refine va_iast hx hb hK hP hD hS 2 0 rfl rfl (xin 0 4 (by decide) (by decide)) dX9_sheet_82 (fun H locs hP hD hS => ?_)
              obtain ⟨f_48, ef_48⟩ : ∃ g, g = upd (fun _ => 0) (0 : Int32).toNatClampNeg p2 := ⟨_, rfl⟩
              rw [← ef_48] at hP hD
              have hP : va_P D vwCl [(h0, .inr (9, [.ref ys, .ref yk, .ref yo, .ref yt, .int 0, .ref yfa, .ref yfe, .int 0, .int 0, .int 0, .ref yro, .ref yhe, .ref ygr, .int 0, .int 0, .int 0, .ref yta, .int 0, .int 0, .int 0, .int 0, .int 0, .ref ywa, .ref ybi, .ref ysi, .ref ynu, .ref ymo])), (ybi, .inl (cI, 4, .inl f_46)), (ysi, .inl (cI, 4, .inl f_48)), (ynu, .inl (cJ, 160, .inr (.inl (fun _ => 0)))), (yt, .inl (cI, 7, .inl (fun _ => 0)))] H := hP
              have hD : va_D A [(h0, .inr (9, [.ref ys, .ref yk, .ref yo, .ref yt, .int 0, .ref yfa, .ref yfe, .int 0, .int 0, .int 0, .ref yro, .ref yhe, .ref ygr, .int 0, .int 0, .int 0, .ref yta, .int 0, .int 0, .int 0, .int 0, .int 0, .ref ywa, .ref ybi, .ref ysi, .ref ynu, .ref ymo])), (ybi, .inl (cI, 4, .inl f_46)), (ysi, .inl (cI, 4, .inl f_48)), (ynu, .inl (cJ, 160, .inr (.inl (fun _ => 0)))), (yt, .inl (cI, 7, .inl (fun _ => 0)))] := hD
              refine lv_iconst (v := 0) hx hb dX9_sheet_83 (by decide) ?_
              refine lv_istore (lv' := [(4, .int 0), (0, .ref h0), (1, .int 0), (2, .int 8), (3, .int p2)]) hx hb dX9_sheet_84 hl (by decide) rfl (fun ls hl => ?_)
              suffices loop_50 : ∀ (n k_49 : Nat) (f9 : Nat → Int64) (H : Heap) (locs : List Loc) (ls : Array Slot), k_49 + n = 40 → va_P D vwCl [(h0, .inr (9, [.ref ys, .ref yk, .ref yo, .ref yt, .int 0, .ref yfa, .ref yfe, .int 0, .int 0, .int 0, .ref yro, .ref yhe, .ref ygr, .int 0, .int 0, .int 0, .ref yta, .int 0, .int 0, .int 0, .int 0, .int 0, .ref ywa, .ref ybi, .ref ysi, .ref ynu, .ref ymo])), (ybi, .inl (cI, 4, .inl f_46)), (ysi, .inl (cI, 4, .inl f_48)), (ynu, .inl (cJ, 160, .inr (.inl f9))), (yt, .inl (cI, 7, .inl (fun _ => 0)))] H → va_D A [(h0, .inr (9, [.ref ys, .ref yk, .ref yo, .ref yt, .int 0, .ref yfa, .ref yfe, .int 0, .int 0, .int 0, .ref yro, .ref yhe, .ref ygr, .int 0, .int 0, .int 0, .ref yta, .int 0, .int 0, .int 0, .int 0, .int 0, .ref ywa, .ref ybi, .ref ysi, .ref ynu, .ref ymo])), (ybi, .inl (cI, 4, .inl f_46)), (ysi, .inl (cI, 4, .inl f_48)), (ynu, .inl (cJ, 160, .inr (.inl f9))), (yt, .inl (cI, 7, .inl (fun _ => 0)))] → va_S A s.heap H locs → lv_has ls 5 [(4, .int (nI (k_49))), (0, .ref h0), (1, .int 0), (2, .int 8), (3, .int p2)] → W p l e ({ frames := 2, cells := 0, slots := 0, locals := 45 }) s m ([.ref h0, .int 0, .int 8, .int p2] : List Value).toArray below meth c H locs 0 0 (MQ below (XQi (fun (r : Int32) (_ : Unit) => r = a_sheet 0 8 p2) D (fun _ : Unit => []) A) ([.ref h0, .int 0, .int 8, .int p2] : List Value).toArray s 0 0 A) (F0 m 86 ls []) by
                exact loop_50 40 0 (fun _ => 0) _ _ _ (by decide) hP hD hS (lv_sub hl [0, 1, 2, 3, 4] rfl)
              intro n
              induction n with
              | zero =>
                intro k_49 f9 H locs ls hk hP hD hS hl 
                have hk2 : k_49 = 40 := by omega
                subst hk2
                have hl : lv_has ls 5 [(4, .int 40), (0, .ref h0), (1, .int 0), (2, .int 8), (3, .int p2)] := hl
                refine lv_iload hx hb dX9_sheet_86 (lv_at hl 0 rfl) ?_
                refine lv_bipush (v := 40) hx hb dX9_sheet_88 (by decide) ?_
                refine lv_icmp_ge (tgt := 112) hx hb dX9_sheet_90 (by decide) (fun c_51 => ?_) (fun c_51 => absurd (by decide) c_51)
                refine lv_aload_n hx hb dX9_sheet_112 rfl (lv_at hl 1 rfl) ?_
                refine xg hF kf_X9_46 hK hP 0 rfl rfl dX9_sheet_113 ?_
                refine lv_iload_n hx hb dX9_sheet_116 rfl (lv_at hl 2 rfl) ?_
                refine va_iald hx hb hK hP 2 0 rfl rfl (xin 0 4 (by decide) (by decide)) dX9_sheet_117 ?_
                refine xl_i (y := f_48 0) (congrArg f_48 rfl) ?_
                refine xl_i (y := p2) (by rw [ef_48]; rfl) ?_
                exact W.iret (v := p2) hx hb hr (fun t ht hW => ⟨⟨p2, (), rfl, (p_sheet6 (by decide) (by decide) (by decide) (fun h => absurd c_44 (Int32.not_le.mpr h)) (fun h => absurd c_45 (Int32.not_le.mpr h)) (by decide)), by rw [ht]; exact hP.sub [] rfl, hD.sub [] (by decide) rfl⟩, hS.F ht⟩) hS.2.2 dX9_sheet_118 hlk
              | succ n ih =>
                intro k_49 f9 H locs ls hk hP hD hS hl 
                have hlt_k_49 : k_49 < 40 := by omega
                refine lv_iload hx hb dX9_sheet_86 (lv_at hl 0 rfl) ?_
                refine lv_bipush (v := 40) hx hb dX9_sheet_88 (by decide) ?_
                refine lv_icmp_ge (tgt := 112) hx hb dX9_sheet_90 (by decide) (fun c_52 => absurd c_52 (nI_ge hlt_k_49 (by decide))) (fun c_52 => ?_)
                refine lv_aload_n hx hb dX9_sheet_93 rfl (lv_at hl 1 rfl) ?_
                refine xg hF kf_X9_49 hK hP 0 rfl rfl dX9_sheet_94 ?_
                refine lv_bipush (v := 40) hx hb dX9_sheet_97 (by decide) ?_
                refine lv_iload_n hx hb dX9_sheet_99 rfl (lv_at hl 2 rfl) ?_
                refine lv_imul hx hb dX9_sheet_100 ?_
                refine xl_i (y := 0) (by decide) ?_
                refine lv_iload hx hb dX9_sheet_101 (lv_at hl 0 rfl) ?_
                refine lv_iadd hx hb dX9_sheet_103 ?_
                refine xl_i (y := nI (0 + k_49)) (nI_add 0 k_49) ?_
                refine lv_lconst (v := 0) hx hb dX9_sheet_104 (by decide) ?_
                refine va_last hx hb hK hP hD hS 3 1 rfl rfl (vp_in_nI (show 0 + k_49 < 160 by omega) (by decide)) dX9_sheet_105 (fun H locs hP hD hS => ?_)
                obtain ⟨f_53, ef_53⟩ : ∃ g, g = vp_updL f9 (nI (0 + k_49)).toNatClampNeg 0 := ⟨_, rfl⟩
                rw [← ef_53] at hP hD
                have hP : va_P D vwCl [(h0, .inr (9, [.ref ys, .ref yk, .ref yo, .ref yt, .int 0, .ref yfa, .ref yfe, .int 0, .int 0, .int 0, .ref yro, .ref yhe, .ref ygr, .int 0, .int 0, .int 0, .ref yta, .int 0, .int 0, .int 0, .int 0, .int 0, .ref ywa, .ref ybi, .ref ysi, .ref ynu, .ref ymo])), (ybi, .inl (cI, 4, .inl f_46)), (ysi, .inl (cI, 4, .inl f_48)), (ynu, .inl (cJ, 160, .inr (.inl f_53))), (yt, .inl (cI, 7, .inl (fun _ => 0)))] H := hP
                have hD : va_D A [(h0, .inr (9, [.ref ys, .ref yk, .ref yo, .ref yt, .int 0, .ref yfa, .ref yfe, .int 0, .int 0, .int 0, .ref yro, .ref yhe, .ref ygr, .int 0, .int 0, .int 0, .ref yta, .int 0, .int 0, .int 0, .int 0, .int 0, .ref ywa, .ref ybi, .ref ysi, .ref ynu, .ref ymo])), (ybi, .inl (cI, 4, .inl f_46)), (ysi, .inl (cI, 4, .inl f_48)), (ynu, .inl (cJ, 160, .inr (.inl f_53))), (yt, .inl (cI, 7, .inl (fun _ => 0)))] := hD
                refine lv_iinc (v := nI (k_49 + 1)) (lv' := [(4, .int (nI (k_49 + 1))), (0, .ref h0), (1, .int 0), (2, .int 8), (3, .int p2)]) hx hb dX9_sheet_106 hl (k := 0) rfl (nI_1 (k_49)) (by decide) rfl (fun ls hl => ?_)
                refine lv_goto (tgt := 86) hx hb dX9_sheet_109 (by decide) ?_
                exact ih (k_49 + 1) f_53 _ _ _ (by omega) (hP.sub [0, 1, 2, 3, 4] rfl) (hD.sub [0, 1, 2, 3, 4] (by decide) rfl) hS (lv_sub hl [0, 1, 2, 3, 4] rfl)
            · skip
              refine lv_aload_n hx hb dX9_sheet_61 rfl (lv_at hl 0 rfl) ?_
              refine xg hF kf_X9_43 hK hP 0 rfl rfl dX9_sheet_62 ?_
              refine lv_iload_n hx hb dX9_sheet_65 rfl (lv_at hl 1 rfl) ?_
              refine lv_iload_n hx hb dX9_sheet_66 rfl (lv_at hl 2 rfl) ?_
              refine va_iast hx hb hK hP hD hS 1 0 rfl rfl (xin 1 4 (by decide) (by decide)) dX9_sheet_67 (fun H locs hP hD hS => ?_)
              obtain ⟨f_54, ef_54⟩ : ∃ g, g = upd (fun _ => 0) (1 : Int32).toNatClampNeg 8 := ⟨_, rfl⟩
              rw [← ef_54] at hP hD
              have hP : va_P D vwCl [(h0, .inr (9, [.ref ys, .ref yk, .ref yo, .ref yt, .int 0, .ref yfa, .ref yfe, .int 0, .int 0, .int 0, .ref yro, .ref yhe, .ref ygr, .int 0, .int 0, .int 0, .ref yta, .int 0, .int 0, .int 0, .int 0, .int 0, .ref ywa, .ref ybi, .ref ysi, .ref ynu, .ref ymo])), (ybi, .inl (cI, 4, .inl f_54)), (ysi, .inl (cI, 4, .inl (fun _ => 0))), (ynu, .inl (cJ, 160, .inr (.inl (fun _ => 0)))), (yt, .inl (cI, 7, .inl (fun _ => 0)))] H := hP
              have hD : va_D A [(h0, .inr (9, [.ref ys, .ref yk, .ref yo, .ref yt, .int 0, .ref yfa, .ref yfe, .int 0, .int 0, .int 0, .ref yro, .ref yhe, .ref ygr, .int 0, .int 0, .int 0, .ref yta, .int 0, .int 0, .int 0, .int 0, .int 0, .ref ywa, .ref ybi, .ref ysi, .ref ynu, .ref ymo])), (ybi, .inl (cI, 4, .inl f_54)), (ysi, .inl (cI, 4, .inl (fun _ => 0))), (ynu, .inl (cJ, 160, .inr (.inl (fun _ => 0)))), (yt, .inl (cI, 7, .inl (fun _ => 0)))] := hD
              refine lv_aload_n hx hb dX9_sheet_68 rfl (lv_at hl 0 rfl) ?_
              refine xg hF kf_X9_46 hK hP 0 rfl rfl dX9_sheet_69 ?_
              refine lv_iload_n hx hb dX9_sheet_72 rfl (lv_at hl 1 rfl) ?_
              refine lv_iload_n hx hb dX9_sheet_73 rfl (lv_at hl 2 rfl) ?_
              refine lv_if_ne (tgt := 81) hx hb dX9_sheet_74 (by decide) (fun c_55 => ?_) (fun c_55 => absurd c_55 (by decide))
              refine lv_iload_n hx hb dX9_sheet_81 rfl (lv_at hl 3 rfl) ?_
              refine va_iast hx hb hK hP hD hS 2 0 rfl rfl (xin 1 4 (by decide) (by decide)) dX9_sheet_82 (fun H locs hP hD hS => ?_)
              obtain ⟨f_56, ef_56⟩ : ∃ g, g = upd (fun _ => 0) (1 : Int32).toNatClampNeg p2 := ⟨_, rfl⟩
              rw [← ef_56] at hP hD
              have hP : va_P D vwCl [(h0, .inr (9, [.ref ys, .ref yk, .ref yo, .ref yt, .int 0, .ref yfa, .ref yfe, .int 0, .int 0, .int 0, .ref yro, .ref yhe, .ref ygr, .int 0, .int 0, .int 0, .ref yta, .int 0, .int 0, .int 0, .int 0, .int 0, .ref ywa, .ref ybi, .ref ysi, .ref ynu, .ref ymo])), (ybi, .inl (cI, 4, .inl f_54)), (ysi, .inl (cI, 4, .inl f_56)), (ynu, .inl (cJ, 160, .inr (.inl (fun _ => 0)))), (yt, .inl (cI, 7, .inl (fun _ => 0)))] H := hP
              have hD : va_D A [(h0, .inr (9, [.ref ys, .ref yk, .ref yo, .ref yt, .int 0, .ref yfa, .ref yfe, .int 0, .int 0, .int 0, .ref yro, .ref yhe, .ref ygr, .int 0, .int 0, .int 0, .ref yta, .int 0, .int 0, .int 0, .int 0, .int 0, .ref ywa, .ref ybi, .ref ysi, .ref ynu, .ref ymo])), (ybi, .inl (cI, 4, .inl f_54)), (ysi, .inl (cI, 4, .inl f_56)), (ynu, .inl (cJ, 160, .inr (.inl (fun _ => 0)))), (yt, .inl (cI, 7, .inl (fun _ => 0)))] := hD
              refine lv_iconst (v := 0) hx hb dX9_sheet_83 (by decide) ?_
              refine lv_istore (lv' := [(4, .int 0), (0, .ref h0), (1, .int 1), (2, .int 8), (3, .int p2)]) hx hb dX9_sheet_84 hl (by decide) rfl (fun ls hl => ?_)
              suffices loop_58 : ∀ (n k_57 : Nat) (f9 : Nat → Int64) (H : Heap) (locs : List Loc) (ls : Array Slot), k_57 + n = 40 → va_P D vwCl [(h0, .inr (9, [.ref ys, .ref yk, .ref yo, .ref yt, .int 0, .ref yfa, .ref yfe, .int 0, .int 0, .int 0, .ref yro, .ref yhe, .ref ygr, .int 0, .int 0, .int 0, .ref yta, .int 0, .int 0, .int 0, .int 0, .int 0, .ref ywa, .ref ybi, .ref ysi, .ref ynu, .ref ymo])), (ybi, .inl (cI, 4, .inl f_54)), (ysi, .inl (cI, 4, .inl f_56)), (ynu, .inl (cJ, 160, .inr (.inl f9))), (yt, .inl (cI, 7, .inl (fun _ => 0)))] H → va_D A [(h0, .inr (9, [.ref ys, .ref yk, .ref yo, .ref yt, .int 0, .ref yfa, .ref yfe, .int 0, .int 0, .int 0, .ref yro, .ref yhe, .ref ygr, .int 0, .int 0, .int 0, .ref yta, .int 0, .int 0, .int 0, .int 0, .int 0, .ref ywa, .ref ybi, .ref ysi, .ref ynu, .ref ymo])), (ybi, .inl (cI, 4, .inl f_54)), (ysi, .inl (cI, 4, .inl f_56)), (ynu, .inl (cJ, 160, .inr (.inl f9))), (yt, .inl (cI, 7, .inl (fun _ => 0)))] → va_S A s.heap H locs → lv_has ls 5 [(4, .int (nI (k_57))), (0, .ref h0), (1, .int 1), (2, .int 8), (3, .int p2)] → W p l e ({ frames := 2, cells := 0, slots := 0, locals := 45 }) s m ([.ref h0, .int 1, .int 8, .int p2] : List Value).toArray below meth c H locs 0 0 (MQ below (XQi (fun (r : Int32) (_ : Unit) => r = a_sheet 1 8 p2) D (fun _ : Unit => []) A) ([.ref h0, .int 1, .int 8, .int p2] : List Value).toArray s 0 0 A) (F0 m 86 ls []) by
                exact loop_58 40 0 (fun _ => 0) _ _ _ (by decide) hP hD hS (lv_sub hl [0, 1, 2, 3, 4] rfl)
              intro n
              induction n with
              | zero =>
                intro k_57 f9 H locs ls hk hP hD hS hl 
                have hk2 : k_57 = 40 := by omega
                subst hk2
                have hl : lv_has ls 5 [(4, .int 40), (0, .ref h0), (1, .int 1), (2, .int 8), (3, .int p2)] := hl
                refine lv_iload hx hb dX9_sheet_86 (lv_at hl 0 rfl) ?_
                refine lv_bipush (v := 40) hx hb dX9_sheet_88 (by decide) ?_
                refine lv_icmp_ge (tgt := 112) hx hb dX9_sheet_90 (by decide) (fun c_59 => ?_) (fun c_59 => absurd (by decide) c_59)
                refine lv_aload_n hx hb dX9_sheet_112 rfl (lv_at hl 1 rfl) ?_
                refine xg hF kf_X9_46 hK hP 0 rfl rfl dX9_sheet_113 ?_
                refine lv_iload_n hx hb dX9_sheet_116 rfl (lv_at hl 2 rfl) ?_
                refine va_iald hx hb hK hP 2 0 rfl rfl (xin 1 4 (by decide) (by decide)) dX9_sheet_117 ?_
                refine xl_i (y := f_56 1) (congrArg f_56 rfl) ?_
                refine xl_i (y := p2) (by rw [ef_56]; rfl) ?_
                exact W.iret (v := p2) hx hb hr (fun t ht hW => ⟨⟨p2, (), rfl, (p_sheet6 (by decide) (by decide) (by decide) (fun h => absurd c_44 (Int32.not_le.mpr h)) (fun h => absurd c_45 (Int32.not_le.mpr h)) (by decide)), by rw [ht]; exact hP.sub [] rfl, hD.sub [] (by decide) rfl⟩, hS.F ht⟩) hS.2.2 dX9_sheet_118 hlk
              | succ n ih =>
                intro k_57 f9 H locs ls hk hP hD hS hl 
                have hlt_k_57 : k_57 < 40 := by omega
                refine lv_iload hx hb dX9_sheet_86 (lv_at hl 0 rfl) ?_
                refine lv_bipush (v := 40) hx hb dX9_sheet_88 (by decide) ?_
                refine lv_icmp_ge (tgt := 112) hx hb dX9_sheet_90 (by decide) (fun c_60 => absurd c_60 (nI_ge hlt_k_57 (by decide))) (fun c_60 => ?_)
                refine lv_aload_n hx hb dX9_sheet_93 rfl (lv_at hl 1 rfl) ?_
                refine xg hF kf_X9_49 hK hP 0 rfl rfl dX9_sheet_94 ?_
                refine lv_bipush (v := 40) hx hb dX9_sheet_97 (by decide) ?_
                refine lv_iload_n hx hb dX9_sheet_99 rfl (lv_at hl 2 rfl) ?_
                refine lv_imul hx hb dX9_sheet_100 ?_
                refine xl_i (y := 40) (by decide) ?_
                refine lv_iload hx hb dX9_sheet_101 (lv_at hl 0 rfl) ?_
                refine lv_iadd hx hb dX9_sheet_103 ?_
                refine xl_i (y := nI (40 + k_57)) (nI_add 40 k_57) ?_
                refine lv_lconst (v := 0) hx hb dX9_sheet_104 (by decide) ?_
                refine va_last hx hb hK hP hD hS 3 1 rfl rfl (vp_in_nI (show 40 + k_57 < 160 by omega) (by decide)) dX9_sheet_105 (fun H locs hP hD hS => ?_)
                obtain ⟨f_61, ef_61⟩ : ∃ g, g = vp_updL f9 (nI (40 + k_57)).toNatClampNeg 0 := ⟨_, rfl⟩
                rw [← ef_61] at hP hD
                have hP : va_P D vwCl [(h0, .inr (9, [.ref ys, .ref yk, .ref yo, .ref yt, .int 0, .ref yfa, .ref yfe, .int 0, .int 0, .int 0, .ref yro, .ref yhe, .ref ygr, .int 0, .int 0, .int 0, .ref yta, .int 0, .int 0, .int 0, .int 0, .int 0, .ref ywa, .ref ybi, .ref ysi, .ref ynu, .ref ymo])), (ybi, .inl (cI, 4, .inl f_54)), (ysi, .inl (cI, 4, .inl f_56)), (ynu, .inl (cJ, 160, .inr (.inl f_61))), (yt, .inl (cI, 7, .inl (fun _ => 0)))] H := hP
                have hD : va_D A [(h0, .inr (9, [.ref ys, .ref yk, .ref yo, .ref yt, .int 0, .ref yfa, .ref yfe, .int 0, .int 0, .int 0, .ref yro, .ref yhe, .ref ygr, .int 0, .int 0, .int 0, .ref yta, .int 0, .int 0, .int 0, .int 0, .int 0, .ref ywa, .ref ybi, .ref ysi, .ref ynu, .ref ymo])), (ybi, .inl (cI, 4, .inl f_54)), (ysi, .inl (cI, 4, .inl f_56)), (ynu, .inl (cJ, 160, .inr (.inl f_61))), (yt, .inl (cI, 7, .inl (fun _ => 0)))] := hD
                refine lv_iinc (v := nI (k_57 + 1)) (lv' := [(4, .int (nI (k_57 + 1))), (0, .ref h0), (1, .int 1), (2, .int 8), (3, .int p2)]) hx hb dX9_sheet_106 hl (k := 0) rfl (nI_1 (k_57)) (by decide) rfl (fun ls hl => ?_)
                refine lv_goto (tgt := 86) hx hb dX9_sheet_109 (by decide) ?_
                exact ih (k_57 + 1) f_61 _ _ _ (by omega) (hP.sub [0, 1, 2, 3, 4] rfl) (hD.sub [0, 1, 2, 3, 4] (by decide) rfl) hS (lv_sub hl [0, 1, 2, 3, 4] rfl)
            · skip
              refine lv_aload_n hx hb dX9_sheet_61 rfl (lv_at hl 0 rfl) ?_
              refine xg hF kf_X9_43 hK hP 0 rfl rfl dX9_sheet_62 ?_
              refine lv_iload_n hx hb dX9_sheet_65 rfl (lv_at hl 1 rfl) ?_
              refine lv_iload_n hx hb dX9_sheet_66 rfl (lv_at hl 2 rfl) ?_
              refine va_iast hx hb hK hP hD hS 1 0 rfl rfl (xin 2 4 (by decide) (by decide)) dX9_sheet_67 (fun H locs hP hD hS => ?_)
              obtain ⟨f_62, ef_62⟩ : ∃ g, g = upd (fun _ => 0) (2 : Int32).toNatClampNeg 8 := ⟨_, rfl⟩
              rw [← ef_62] at hP hD
              have hP : va_P D vwCl [(h0, .inr (9, [.ref ys, .ref yk, .ref yo, .ref yt, .int 0, .ref yfa, .ref yfe, .int 0, .int 0, .int 0, .ref yro, .ref yhe, .ref ygr, .int 0, .int 0, .int 0, .ref yta, .int 0, .int 0, .int 0, .int 0, .int 0, .ref ywa, .ref ybi, .ref ysi, .ref ynu, .ref ymo])), (ybi, .inl (cI, 4, .inl f_62)), (ysi, .inl (cI, 4, .inl (fun _ => 0))), (ynu, .inl (cJ, 160, .inr (.inl (fun _ => 0)))), (yt, .inl (cI, 7, .inl (fun _ => 0)))] H := hP
              have hD : va_D A [(h0, .inr (9, [.ref ys, .ref yk, .ref yo, .ref yt, .int 0, .ref yfa, .ref yfe, .int 0, .int 0, .int 0, .ref yro, .ref yhe, .ref ygr, .int 0, .int 0, .int 0, .ref yta, .int 0, .int 0, .int 0, .int 0, .int 0, .ref ywa, .ref ybi, .ref ysi, .ref ynu, .ref ymo])), (ybi, .inl (cI, 4, .inl f_62)), (ysi, .inl (cI, 4, .inl (fun _ => 0))), (ynu, .inl (cJ, 160, .inr (.inl (fun _ => 0)))), (yt, .inl (cI, 7, .inl (fun _ => 0)))] := hD
              refine lv_aload_n hx hb dX9_sheet_68 rfl (lv_at hl 0 rfl) ?_
              refine xg hF kf_X9_46 hK hP 0 rfl rfl dX9_sheet_69 ?_
              refine lv_iload_n hx hb dX9_sheet_72 rfl (lv_at hl 1 rfl) ?_
              refine lv_iload_n hx hb dX9_sheet_73 rfl (lv_at hl 2 rfl) ?_
              refine lv_if_ne (tgt := 81) hx hb dX9_sheet_74 (by decide) (fun c_63 => ?_) (fun c_63 => absurd c_63 (by decide))
              refine lv_iload_n hx hb dX9_sheet_81 rfl (lv_at hl 3 rfl) ?_
              refine va_iast hx hb hK hP hD hS 2 0 rfl rfl (xin 2 4 (by decide) (by decide)) dX9_sheet_82 (fun H locs hP hD hS => ?_)
              obtain ⟨f_64, ef_64⟩ : ∃ g, g = upd (fun _ => 0) (2 : Int32).toNatClampNeg p2 := ⟨_, rfl⟩
              rw [← ef_64] at hP hD
              have hP : va_P D vwCl [(h0, .inr (9, [.ref ys, .ref yk, .ref yo, .ref yt, .int 0, .ref yfa, .ref yfe, .int 0, .int 0, .int 0, .ref yro, .ref yhe, .ref ygr, .int 0, .int 0, .int 0, .ref yta, .int 0, .int 0, .int 0, .int 0, .int 0, .ref ywa, .ref ybi, .ref ysi, .ref ynu, .ref ymo])), (ybi, .inl (cI, 4, .inl f_62)), (ysi, .inl (cI, 4, .inl f_64)), (ynu, .inl (cJ, 160, .inr (.inl (fun _ => 0)))), (yt, .inl (cI, 7, .inl (fun _ => 0)))] H := hP
              have hD : va_D A [(h0, .inr (9, [.ref ys, .ref yk, .ref yo, .ref yt, .int 0, .ref yfa, .ref yfe, .int 0, .int 0, .int 0, .ref yro, .ref yhe, .ref ygr, .int 0, .int 0, .int 0, .ref yta, .int 0, .int 0, .int 0, .int 0, .int 0, .ref ywa, .ref ybi, .ref ysi, .ref ynu, .ref ymo])), (ybi, .inl (cI, 4, .inl f_62)), (ysi, .inl (cI, 4, .inl f_64)), (ynu, .inl (cJ, 160, .inr (.inl (fun _ => 0)))), (yt, .inl (cI, 7, .inl (fun _ => 0)))] := hD
              refine lv_iconst (v := 0) hx hb dX9_sheet_83 (by decide) ?_
              refine lv_istore (lv' := [(4, .int 0), (0, .ref h0), (1, .int 2), (2, .int 8), (3, .int p2)]) hx hb dX9_sheet_84 hl (by decide) rfl (fun ls hl => ?_)
              suffices loop_66 : ∀ (n k_65 : Nat) (f9 : Nat → Int64) (H : Heap) (locs : List Loc) (ls : Array Slot), k_65 + n = 40 → va_P D vwCl [(h0, .inr (9, [.ref ys, .ref yk, .ref yo, .ref yt, .int 0, .ref yfa, .ref yfe, .int 0, .int 0, .int 0, .ref yro, .ref yhe, .ref ygr, .int 0, .int 0, .int 0, .ref yta, .int 0, .int 0, .int 0, .int 0, .int 0, .ref ywa, .ref ybi, .ref ysi, .ref ynu, .ref ymo])), (ybi, .inl (cI, 4, .inl f_62)), (ysi, .inl (cI, 4, .inl f_64)), (ynu, .inl (cJ, 160, .inr (.inl f9))), (yt, .inl (cI, 7, .inl (fun _ => 0)))] H → va_D A [(h0, .inr (9, [.ref ys, .ref yk, .ref yo, .ref yt, .int 0, .ref yfa, .ref yfe, .int 0, .int 0, .int 0, .ref yro, .ref yhe, .ref ygr, .int 0, .int 0, .int 0, .ref yta, .int 0, .int 0, .int 0, .int 0, .int 0, .ref ywa, .ref ybi, .ref ysi, .ref ynu, .ref ymo])), (ybi, .inl (cI, 4, .inl f_62)), (ysi, .inl (cI, 4, .inl f_64)), (ynu, .inl (cJ, 160, .inr (.inl f9))), (yt, .inl (cI, 7, .inl (fun _ => 0)))] → va_S A s.heap H locs → lv_has ls 5 [(4, .int (nI (k_65))), (0, .ref h0), (1, .int 2), (2, .int 8), (3, .int p2)] → W p l e ({ frames := 2, cells := 0, slots := 0, locals := 45 }) s m ([.ref h0, .int 2, .int 8, .int p2] : List Value).toArray below meth c H locs 0 0 (MQ below (XQi (fun (r : Int32) (_ : Unit) => r = a_sheet 2 8 p2) D (fun _ : Unit => []) A) ([.ref h0, .int 2, .int 8, .int p2] : List Value).toArray s 0 0 A) (F0 m 86 ls []) by
                exact loop_66 40 0 (fun _ => 0) _ _ _ (by decide) hP hD hS (lv_sub hl [0, 1, 2, 3, 4] rfl)
              intro n
              induction n with
              | zero =>
                intro k_65 f9 H locs ls hk hP hD hS hl 
                have hk2 : k_65 = 40 := by omega
                subst hk2
                have hl : lv_has ls 5 [(4, .int 40), (0, .ref h0), (1, .int 2), (2, .int 8), (3, .int p2)] := hl
                refine lv_iload hx hb dX9_sheet_86 (lv_at hl 0 rfl) ?_
                refine lv_bipush (v := 40) hx hb dX9_sheet_88 (by decide) ?_
                refine lv_icmp_ge (tgt := 112) hx hb dX9_sheet_90 (by decide) (fun c_67 => ?_) (fun c_67 => absurd (by decide) c_67)
                refine lv_aload_n hx hb dX9_sheet_112 rfl (lv_at hl 1 rfl) ?_
                refine xg hF kf_X9_46 hK hP 0 rfl rfl dX9_sheet_113 ?_
                refine lv_iload_n hx hb dX9_sheet_116 rfl (lv_at hl 2 rfl) ?_
                refine va_iald hx hb hK hP 2 0 rfl rfl (xin 2 4 (by decide) (by decide)) dX9_sheet_117 ?_
                refine xl_i (y := f_64 2) (congrArg f_64 rfl) ?_
                refine xl_i (y := p2) (by rw [ef_64]; rfl) ?_
                exact W.iret (v := p2) hx hb hr (fun t ht hW => ⟨⟨p2, (), rfl, (p_sheet6 (by decide) (by decide) (by decide) (fun h => absurd c_44 (Int32.not_le.mpr h)) (fun h => absurd c_45 (Int32.not_le.mpr h)) (by decide)), by rw [ht]; exact hP.sub [] rfl, hD.sub [] (by decide) rfl⟩, hS.F ht⟩) hS.2.2 dX9_sheet_118 hlk
              | succ n ih =>
                intro k_65 f9 H locs ls hk hP hD hS hl 
                have hlt_k_65 : k_65 < 40 := by omega
                refine lv_iload hx hb dX9_sheet_86 (lv_at hl 0 rfl) ?_
                refine lv_bipush (v := 40) hx hb dX9_sheet_88 (by decide) ?_
                refine lv_icmp_ge (tgt := 112) hx hb dX9_sheet_90 (by decide) (fun c_68 => absurd c_68 (nI_ge hlt_k_65 (by decide))) (fun c_68 => ?_)
                refine lv_aload_n hx hb dX9_sheet_93 rfl (lv_at hl 1 rfl) ?_
                refine xg hF kf_X9_49 hK hP 0 rfl rfl dX9_sheet_94 ?_
                refine lv_bipush (v := 40) hx hb dX9_sheet_97 (by decide) ?_
                refine lv_iload_n hx hb dX9_sheet_99 rfl (lv_at hl 2 rfl) ?_
                refine lv_imul hx hb dX9_sheet_100 ?_
                refine xl_i (y := 80) (by decide) ?_
                refine lv_iload hx hb dX9_sheet_101 (lv_at hl 0 rfl) ?_
                refine lv_iadd hx hb dX9_sheet_103 ?_
                refine xl_i (y := nI (80 + k_65)) (nI_add 80 k_65) ?_
                refine lv_lconst (v := 0) hx hb dX9_sheet_104 (by decide) ?_
                refine va_last hx hb hK hP hD hS 3 1 rfl rfl (vp_in_nI (show 80 + k_65 < 160 by omega) (by decide)) dX9_sheet_105 (fun H locs hP hD hS => ?_)
                obtain ⟨f_69, ef_69⟩ : ∃ g, g = vp_updL f9 (nI (80 + k_65)).toNatClampNeg 0 := ⟨_, rfl⟩
                rw [← ef_69] at hP hD
                have hP : va_P D vwCl [(h0, .inr (9, [.ref ys, .ref yk, .ref yo, .ref yt, .int 0, .ref yfa, .ref yfe, .int 0, .int 0, .int 0, .ref yro, .ref yhe, .ref ygr, .int 0, .int 0, .int 0, .ref yta, .int 0, .int 0, .int 0, .int 0, .int 0, .ref ywa, .ref ybi, .ref ysi, .ref ynu, .ref ymo])), (ybi, .inl (cI, 4, .inl f_62)), (ysi, .inl (cI, 4, .inl f_64)), (ynu, .inl (cJ, 160, .inr (.inl f_69))), (yt, .inl (cI, 7, .inl (fun _ => 0)))] H := hP
                have hD : va_D A [(h0, .inr (9, [.ref ys, .ref yk, .ref yo, .ref yt, .int 0, .ref yfa, .ref yfe, .int 0, .int 0, .int 0, .ref yro, .ref yhe, .ref ygr, .int 0, .int 0, .int 0, .ref yta, .int 0, .int 0, .int 0, .int 0, .int 0, .ref ywa, .ref ybi, .ref ysi, .ref ynu, .ref ymo])), (ybi, .inl (cI, 4, .inl f_62)), (ysi, .inl (cI, 4, .inl f_64)), (ynu, .inl (cJ, 160, .inr (.inl f_69))), (yt, .inl (cI, 7, .inl (fun _ => 0)))] := hD
                refine lv_iinc (v := nI (k_65 + 1)) (lv' := [(4, .int (nI (k_65 + 1))), (0, .ref h0), (1, .int 2), (2, .int 8), (3, .int p2)]) hx hb dX9_sheet_106 hl (k := 0) rfl (nI_1 (k_65)) (by decide) rfl (fun ls hl => ?_)
                refine lv_goto (tgt := 86) hx hb dX9_sheet_109 (by decide) ?_
                exact ih (k_65 + 1) f_69 _ _ _ (by omega) (hP.sub [0, 1, 2, 3, 4] rfl) (hD.sub [0, 1, 2, 3, 4] (by decide) rfl) hS (lv_sub hl [0, 1, 2, 3, 4] rfl)
            · skip
              refine lv_aload_n hx hb dX9_sheet_61 rfl (lv_at hl 0 rfl) ?_
              refine xg hF kf_X9_43 hK hP 0 rfl rfl dX9_sheet_62 ?_
              refine lv_iload_n hx hb dX9_sheet_65 rfl (lv_at hl 1 rfl) ?_
              refine lv_iload_n hx hb dX9_sheet_66 rfl (lv_at hl 2 rfl) ?_
              refine va_iast hx hb hK hP hD hS 1 0 rfl rfl (xin 3 4 (by decide) (by decide)) dX9_sheet_67 (fun H locs hP hD hS => ?_)
              obtain ⟨f_70, ef_70⟩ : ∃ g, g = upd (fun _ => 0) (3 : Int32).toNatClampNeg 8 := ⟨_, rfl⟩
              rw [← ef_70] at hP hD
              have hP : va_P D vwCl [(h0, .inr (9, [.ref ys, .ref yk, .ref yo, .ref yt, .int 0, .ref yfa, .ref yfe, .int 0, .int 0, .int 0, .ref yro, .ref yhe, .ref ygr, .int 0, .int 0, .int 0, .ref yta, .int 0, .int 0, .int 0, .int 0, .int 0, .ref ywa, .ref ybi, .ref ysi, .ref ynu, .ref ymo])), (ybi, .inl (cI, 4, .inl f_70)), (ysi, .inl (cI, 4, .inl (fun _ => 0))), (ynu, .inl (cJ, 160, .inr (.inl (fun _ => 0)))), (yt, .inl (cI, 7, .inl (fun _ => 0)))] H := hP
              have hD : va_D A [(h0, .inr (9, [.ref ys, .ref yk, .ref yo, .ref yt, .int 0, .ref yfa, .ref yfe, .int 0, .int 0, .int 0, .ref yro, .ref yhe, .ref ygr, .int 0, .int 0, .int 0, .ref yta, .int 0, .int 0, .int 0, .int 0, .int 0, .ref ywa, .ref ybi, .ref ysi, .ref ynu, .ref ymo])), (ybi, .inl (cI, 4, .inl f_70)), (ysi, .inl (cI, 4, .inl (fun _ => 0))), (ynu, .inl (cJ, 160, .inr (.inl (fun _ => 0)))), (yt, .inl (cI, 7, .inl (fun _ => 0)))] := hD
              refine lv_aload_n hx hb dX9_sheet_68 rfl (lv_at hl 0 rfl) ?_
              refine xg hF kf_X9_46 hK hP 0 rfl rfl dX9_sheet_69 ?_
              refine lv_iload_n hx hb dX9_sheet_72 rfl (lv_at hl 1 rfl) ?_
              refine lv_iload_n hx hb dX9_sheet_73 rfl (lv_at hl 2 rfl) ?_
              refine lv_if_ne (tgt := 81) hx hb dX9_sheet_74 (by decide) (fun c_71 => ?_) (fun c_71 => absurd c_71 (by decide))
              refine lv_iload_n hx hb dX9_sheet_81 rfl (lv_at hl 3 rfl) ?_
              refine va_iast hx hb hK hP hD hS 2 0 rfl rfl (xin 3 4 (by decide) (by decide)) dX9_sheet_82 (fun H locs hP hD hS => ?_)
              obtain ⟨f_72, ef_72⟩ : ∃ g, g = upd (fun _ => 0) (3 : Int32).toNatClampNeg p2 := ⟨_, rfl⟩
              rw [← ef_72] at hP hD
              have hP : va_P D vwCl [(h0, .inr (9, [.ref ys, .ref yk, .ref yo, .ref yt, .int 0, .ref yfa, .ref yfe, .int 0, .int 0, .int 0, .ref yro, .ref yhe, .ref ygr, .int 0, .int 0, .int 0, .ref yta, .int 0, .int 0, .int 0, .int 0, .int 0, .ref ywa, .ref ybi, .ref ysi, .ref ynu, .ref ymo])), (ybi, .inl (cI, 4, .inl f_70)), (ysi, .inl (cI, 4, .inl f_72)), (ynu, .inl (cJ, 160, .inr (.inl (fun _ => 0)))), (yt, .inl (cI, 7, .inl (fun _ => 0)))] H := hP
              have hD : va_D A [(h0, .inr (9, [.ref ys, .ref yk, .ref yo, .ref yt, .int 0, .ref yfa, .ref yfe, .int 0, .int 0, .int 0, .ref yro, .ref yhe, .ref ygr, .int 0, .int 0, .int 0, .ref yta, .int 0, .int 0, .int 0, .int 0, .int 0, .ref ywa, .ref ybi, .ref ysi, .ref ynu, .ref ymo])), (ybi, .inl (cI, 4, .inl f_70)), (ysi, .inl (cI, 4, .inl f_72)), (ynu, .inl (cJ, 160, .inr (.inl (fun _ => 0)))), (yt, .inl (cI, 7, .inl (fun _ => 0)))] := hD
              refine lv_iconst (v := 0) hx hb dX9_sheet_83 (by decide) ?_
              refine lv_istore (lv' := [(4, .int 0), (0, .ref h0), (1, .int 3), (2, .int 8), (3, .int p2)]) hx hb dX9_sheet_84 hl (by decide) rfl (fun ls hl => ?_)
              suffices loop_74 : ∀ (n k_73 : Nat) (f9 : Nat → Int64) (H : Heap) (locs : List Loc) (ls : Array Slot), k_73 + n = 40 → va_P D vwCl [(h0, .inr (9, [.ref ys, .ref yk, .ref yo, .ref yt, .int 0, .ref yfa, .ref yfe, .int 0, .int 0, .int 0, .ref yro, .ref yhe, .ref ygr, .int 0, .int 0, .int 0, .ref yta, .int 0, .int 0, .int 0, .int 0, .int 0, .ref ywa, .ref ybi, .ref ysi, .ref ynu, .ref ymo])), (ybi, .inl (cI, 4, .inl f_70)), (ysi, .inl (cI, 4, .inl f_72)), (ynu, .inl (cJ, 160, .inr (.inl f9))), (yt, .inl (cI, 7, .inl (fun _ => 0)))] H → va_D A [(h0, .inr (9, [.ref ys, .ref yk, .ref yo, .ref yt, .int 0, .ref yfa, .ref yfe, .int 0, .int 0, .int 0, .ref yro, .ref yhe, .ref ygr, .int 0, .int 0, .int 0, .ref yta, .int 0, .int 0, .int 0, .int 0, .int 0, .ref ywa, .ref ybi, .ref ysi, .ref ynu, .ref ymo])), (ybi, .inl (cI, 4, .inl f_70)), (ysi, .inl (cI, 4, .inl f_72)), (ynu, .inl (cJ, 160, .inr (.inl f9))), (yt, .inl (cI, 7, .inl (fun _ => 0)))] → va_S A s.heap H locs → lv_has ls 5 [(4, .int (nI (k_73))), (0, .ref h0), (1, .int 3), (2, .int 8), (3, .int p2)] → W p l e ({ frames := 2, cells := 0, slots := 0, locals := 45 }) s m ([.ref h0, .int 3, .int 8, .int p2] : List Value).toArray below meth c H locs 0 0 (MQ below (XQi (fun (r : Int32) (_ : Unit) => r = a_sheet 3 8 p2) D (fun _ : Unit => []) A) ([.ref h0, .int 3, .int 8, .int p2] : List Value).toArray s 0 0 A) (F0 m 86 ls []) by
                exact loop_74 40 0 (fun _ => 0) _ _ _ (by decide) hP hD hS (lv_sub hl [0, 1, 2, 3, 4] rfl)
              intro n
              induction n with
              | zero =>
                intro k_73 f9 H locs ls hk hP hD hS hl 
                have hk2 : k_73 = 40 := by omega
                subst hk2
                have hl : lv_has ls 5 [(4, .int 40), (0, .ref h0), (1, .int 3), (2, .int 8), (3, .int p2)] := hl
                refine lv_iload hx hb dX9_sheet_86 (lv_at hl 0 rfl) ?_
                refine lv_bipush (v := 40) hx hb dX9_sheet_88 (by decide) ?_
                refine lv_icmp_ge (tgt := 112) hx hb dX9_sheet_90 (by decide) (fun c_75 => ?_) (fun c_75 => absurd (by decide) c_75)
                refine lv_aload_n hx hb dX9_sheet_112 rfl (lv_at hl 1 rfl) ?_
                refine xg hF kf_X9_46 hK hP 0 rfl rfl dX9_sheet_113 ?_
                refine lv_iload_n hx hb dX9_sheet_116 rfl (lv_at hl 2 rfl) ?_
                refine va_iald hx hb hK hP 2 0 rfl rfl (xin 3 4 (by decide) (by decide)) dX9_sheet_117 ?_
                refine xl_i (y := f_72 3) (congrArg f_72 rfl) ?_
                refine xl_i (y := p2) (by rw [ef_72]; rfl) ?_
                exact W.iret (v := p2) hx hb hr (fun t ht hW => ⟨⟨p2, (), rfl, (p_sheet6 (by decide) (by decide) (by decide) (fun h => absurd c_44 (Int32.not_le.mpr h)) (fun h => absurd c_45 (Int32.not_le.mpr h)) (by decide)), by rw [ht]; exact hP.sub [] rfl, hD.sub [] (by decide) rfl⟩, hS.F ht⟩) hS.2.2 dX9_sheet_118 hlk
              | succ n ih =>
                intro k_73 f9 H locs ls hk hP hD hS hl 
                have hlt_k_73 : k_73 < 40 := by omega
                refine lv_iload hx hb dX9_sheet_86 (lv_at hl 0 rfl) ?_
                refine lv_bipush (v := 40) hx hb dX9_sheet_88 (by decide) ?_
                refine lv_icmp_ge (tgt := 112) hx hb dX9_sheet_90 (by decide) (fun c_76 => absurd c_76 (nI_ge hlt_k_73 (by decide))) (fun c_76 => ?_)
                refine lv_aload_n hx hb dX9_sheet_93 rfl (lv_at hl 1 rfl) ?_
                refine xg hF kf_X9_49 hK hP 0 rfl rfl dX9_sheet_94 ?_
                refine lv_bipush (v := 40) hx hb dX9_sheet_97 (by decide) ?_
                refine lv_iload_n hx hb dX9_sheet_99 rfl (lv_at hl 2 rfl) ?_
                refine lv_imul hx hb dX9_sheet_100 ?_
                refine xl_i (y := 120) (by decide) ?_
                refine lv_iload hx hb dX9_sheet_101 (lv_at hl 0 rfl) ?_
                refine lv_iadd hx hb dX9_sheet_103 ?_
                refine xl_i (y := nI (120 + k_73)) (nI_add 120 k_73) ?_
                refine lv_lconst (v := 0) hx hb dX9_sheet_104 (by decide) ?_
                refine va_last hx hb hK hP hD hS 3 1 rfl rfl (vp_in_nI (show 120 + k_73 < 160 by omega) (by decide)) dX9_sheet_105 (fun H locs hP hD hS => ?_)
                obtain ⟨f_77, ef_77⟩ : ∃ g, g = vp_updL f9 (nI (120 + k_73)).toNatClampNeg 0 := ⟨_, rfl⟩
                rw [← ef_77] at hP hD
                have hP : va_P D vwCl [(h0, .inr (9, [.ref ys, .ref yk, .ref yo, .ref yt, .int 0, .ref yfa, .ref yfe, .int 0, .int 0, .int 0, .ref yro, .ref yhe, .ref ygr, .int 0, .int 0, .int 0, .ref yta, .int 0, .int 0, .int 0, .int 0, .int 0, .ref ywa, .ref ybi, .ref ysi, .ref ynu, .ref ymo])), (ybi, .inl (cI, 4, .inl f_70)), (ysi, .inl (cI, 4, .inl f_72)), (ynu, .inl (cJ, 160, .inr (.inl f_77))), (yt, .inl (cI, 7, .inl (fun _ => 0)))] H := hP
                have hD : va_D A [(h0, .inr (9, [.ref ys, .ref yk, .ref yo, .ref yt, .int 0, .ref yfa, .ref yfe, .int 0, .int 0, .int 0, .ref yro, .ref yhe, .ref ygr, .int 0, .int 0, .int 0, .ref yta, .int 0, .int 0, .int 0, .int 0, .int 0, .ref ywa, .ref ybi, .ref ysi, .ref ynu, .ref ymo])), (ybi, .inl (cI, 4, .inl f_70)), (ysi, .inl (cI, 4, .inl f_72)), (ynu, .inl (cJ, 160, .inr (.inl f_77))), (yt, .inl (cI, 7, .inl (fun _ => 0)))] := hD
                refine lv_iinc (v := nI (k_73 + 1)) (lv' := [(4, .int (nI (k_73 + 1))), (0, .ref h0), (1, .int 3), (2, .int 8), (3, .int p2)]) hx hb dX9_sheet_106 hl (k := 0) rfl (nI_1 (k_73)) (by decide) rfl (fun ls hl => ?_)
                refine lv_goto (tgt := 86) hx hb dX9_sheet_109 (by decide) ?_
                exact ih (k_73 + 1) f_77 _ _ _ (by omega) (hP.sub [0, 1, 2, 3, 4] rfl) (hD.sub [0, 1, 2, 3, 4] (by decide) rfl) hS (lv_sub hl [0, 1, 2, 3, 4] rfl)
          · skip
            refine lv_aload_n hx hb dX9_sheet_54 rfl (lv_at hl 0 rfl) ?_
            refine lv_ldc (v := (-1000000001)) hx hb hown (hu _ uw352) dX9_sheet_55 ?_
            refine xc_Vi (wr := [(ybi, .inl (cI, 4, .inl (fun _ => 0))), (ysi, .inl (cI, 4, .inl (fun _ => 0))), (ynu, .inl (cJ, 160, .inr (.inl (fun _ => 0))))]) hF (c_X9_finds_B l D cI cJ cZ cS sa s.heap.size h0 ys yk yo yt yfa yfe yro yhe ygr yta ywa ybi ysi ynu ymo 0 0 0 (fun _ => 0) ) kv_X9_70 ⟨rfl, rfl, Nat.le_of_ble_eq_true rfl, Nat.le_of_ble_eq_true rfl⟩ ⟨Nat.le_of_ble_eq_true rfl, Nat.le_of_ble_eq_true rfl⟩ hK hN hP hD hS hA [0, 4] [1, 2, 3] rfl rfl rfl rfl (by decide) 0 rfl rfl rfl rfl hl.1 rfl (Nat.le_of_ble_eq_true rfl) dX9_sheet_57 (fun r_78 u_r_78 H locs hw_r_78 hP hD hS => ?_)
            have hP : va_P D vwCl [(ybi, .inl (cI, 4, .inl (fun _ => 0))), (ysi, .inl (cI, 4, .inl (fun _ => 0))), (ynu, .inl (cJ, 160, .inr (.inl (fun _ => 0))))] H := hP
            have hD : va_D A [(ybi, .inl (cI, 4, .inl (fun _ => 0))), (ysi, .inl (cI, 4, .inl (fun _ => 0))), (ynu, .inl (cJ, 160, .inr (.inl (fun _ => 0))))] := hD
            subst hw_r_78
            exact W.iret (v := (-1000000001)) hx hb hr (fun t ht hW => ⟨⟨(-1000000001), (), rfl, (p_sheet4 h_2 h_3 (by decide) (fun h => absurd c_44 (Int32.not_le.mpr h)) (xlt c_45)), by rw [ht]; exact hP.sub [] rfl, hD.sub [] (by decide) rfl⟩, hS.F ht⟩) hS.2.2 dX9_sheet_60 hlk
        · skip
          refine lv_aload_n hx hb dX9_sheet_40 rfl (lv_at hl 0 rfl) ?_
          refine lv_ldcw (v := (-1000000007)) hx hb hown (hu _ uw466) dX9_sheet_41 ?_
          refine xc_Vi (wr := [(ybi, .inl (cI, 4, .inl (fun _ => 0))), (ysi, .inl (cI, 4, .inl (fun _ => 0))), (ynu, .inl (cJ, 160, .inr (.inl (fun _ => 0))))]) hF (c_X9_finds_S l D cI cJ cZ cS sa s.heap.size h0 ys yk yo yt yfa yfe yro yhe ygr yta ywa ybi ysi ynu ymo 0 0 0 (fun _ => 0) ) kv_X9_70 ⟨rfl, rfl, Nat.le_of_ble_eq_true rfl, Nat.le_of_ble_eq_true rfl⟩ ⟨Nat.le_of_ble_eq_true rfl, Nat.le_of_ble_eq_true rfl⟩ hK hN hP hD hS hA [0, 4] [1, 2, 3] rfl rfl rfl rfl (by decide) 0 rfl rfl rfl rfl hl.1 rfl (Nat.le_of_ble_eq_true rfl) dX9_sheet_44 (fun r_79 u_r_79 H locs hw_r_79 hP hD hS => ?_)
          have hP : va_P D vwCl [(ybi, .inl (cI, 4, .inl (fun _ => 0))), (ysi, .inl (cI, 4, .inl (fun _ => 0))), (ynu, .inl (cJ, 160, .inr (.inl (fun _ => 0))))] H := hP
          have hD : va_D A [(ybi, .inl (cI, 4, .inl (fun _ => 0))), (ysi, .inl (cI, 4, .inl (fun _ => 0))), (ynu, .inl (cJ, 160, .inr (.inl (fun _ => 0))))] := hD
          subst hw_r_79
          exact W.iret (v := (-1000000007)) hx hb hr (fun t ht hW => ⟨⟨(-1000000007), (), rfl, (p_sheet3 h_2 h_3 (by decide) (xlt c_44)), by rw [ht]; exact hP.sub [] rfl, hD.sub [] (by decide) rfl⟩, hS.F ht⟩) hS.2.2 dX9_sheet_47 hlk
      · skip
        refine lv_iload_n hx hb dX9_sheet_17 rfl (lv_at hl 2 rfl) ?_
        refine lv_bipush (v := 16) hx hb dX9_sheet_18 (by decide) ?_
        refine lv_icmp_eq (tgt := 36) hx hb dX9_sheet_20 (by decide) (fun c_80 => ?_) (fun c_80 => ?_)
        · skip
          subst c_80
          refine lv_iload_n hx hb dX9_sheet_36 rfl (lv_at hl 3 rfl) ?_
          refine lv_if_ge (tgt := 48) hx hb dX9_sheet_37 (by decide) (fun c_81 => ?_) (fun c_81 => ?_)
          · skip
            refine lv_iload_n hx hb dX9_sheet_48 rfl (lv_at hl 3 rfl) ?_
            refine lv_bipush (v := 40) hx hb dX9_sheet_49 (by decide) ?_
            refine lv_icmp_le (tgt := 61) hx hb dX9_sheet_51 (by decide) (fun c_82 => ?_) (fun c_82 => ?_)
            · skip
              rcases x_i4 h_2 h_3 with rfl | rfl | rfl | rfl
              · skip
                refine lv_aload_n hx hb dX9_sheet_61 rfl (lv_at hl 0 rfl) ?_
                refine xg hF kf_X9_43 hK hP 0 rfl rfl dX9_sheet_62 ?_
                refine lv_iload_n hx hb dX9_sheet_65 rfl (lv_at hl 1 rfl) ?_
                refine lv_iload_n hx hb dX9_sheet_66 rfl (lv_at hl 2 rfl) ?_
                refine va_iast hx hb hK hP hD hS 1 0 rfl rfl (xin 0 4 (by decide) (by decide)) dX9_sheet_67 (fun H locs hP hD hS => ?_)
                obtain ⟨f_83, ef_83⟩ : ∃ g, g = upd (fun _ => 0) (0 : Int32).toNatClampNeg 16 := ⟨_, rfl⟩
                rw [← ef_83] at hP hD
                have hP : va_P D vwCl [(h0, .inr (9, [.ref ys, .ref yk, .ref yo, .ref yt, .int 0, .ref yfa, .ref yfe, .int 0, .int 0, .int 0, .ref yro, .ref yhe, .ref ygr, .int 0, .int 0, .int 0, .ref yta, .int 0, .int 0, .int 0, .int 0, .int 0, .ref ywa, .ref ybi, .ref ysi, .ref ynu, .ref ymo])), (ybi, .inl (cI, 4, .inl f_83)), (ysi, .inl (cI, 4, .inl (fun _ => 0))), (ynu, .inl (cJ, 160, .inr (.inl (fun _ => 0)))), (yt, .inl (cI, 7, .inl (fun _ => 0)))] H := hP
                have hD : va_D A [(h0, .inr (9, [.ref ys, .ref yk, .ref yo, .ref yt, .int 0, .ref yfa, .ref yfe, .int 0, .int 0, .int 0, .ref yro, .ref yhe, .ref ygr, .int 0, .int 0, .int 0, .ref yta, .int 0, .int 0, .int 0, .int 0, .int 0, .ref ywa, .ref ybi, .ref ysi, .ref ynu, .ref ymo])), (ybi, .inl (cI, 4, .inl f_83)), (ysi, .inl (cI, 4, .inl (fun _ => 0))), (ynu, .inl (cJ, 160, .inr (.inl (fun _ => 0)))), (yt, .inl (cI, 7, .inl (fun _ => 0)))] := hD
                refine lv_aload_n hx hb dX9_sheet_68 rfl (lv_at hl 0 rfl) ?_
                refine xg hF kf_X9_46 hK hP 0 rfl rfl dX9_sheet_69 ?_
                refine lv_iload_n hx hb dX9_sheet_72 rfl (lv_at hl 1 rfl) ?_
                refine lv_iload_n hx hb dX9_sheet_73 rfl (lv_at hl 2 rfl) ?_
                refine lv_if_ne (tgt := 81) hx hb dX9_sheet_74 (by decide) (fun c_84 => ?_) (fun c_84 => absurd c_84 (by decide))
                refine lv_iload_n hx hb dX9_sheet_81 rfl (lv_at hl 3 rfl) ?_
                refine va_iast hx hb hK hP hD hS 2 0 rfl rfl (xin 0 4 (by decide) (by decide)) dX9_sheet_82 (fun H locs hP hD hS => ?_)
                obtain ⟨f_85, ef_85⟩ : ∃ g, g = upd (fun _ => 0) (0 : Int32).toNatClampNeg p2 := ⟨_, rfl⟩
                rw [← ef_85] at hP hD
                have hP : va_P D vwCl [(h0, .inr (9, [.ref ys, .ref yk, .ref yo, .ref yt, .int 0, .ref yfa, .ref yfe, .int 0, .int 0, .int 0, .ref yro, .ref yhe, .ref ygr, .int 0, .int 0, .int 0, .ref yta, .int 0, .int 0, .int 0, .int 0, .int 0, .ref ywa, .ref ybi, .ref ysi, .ref ynu, .ref ymo])), (ybi, .inl (cI, 4, .inl f_83)), (ysi, .inl (cI, 4, .inl f_85)), (ynu, .inl (cJ, 160, .inr (.inl (fun _ => 0)))), (yt, .inl (cI, 7, .inl (fun _ => 0)))] H := hP
                have hD : va_D A [(h0, .inr (9, [.ref ys, .ref yk, .ref yo, .ref yt, .int 0, .ref yfa, .ref yfe, .int 0, .int 0, .int 0, .ref yro, .ref yhe, .ref ygr, .int 0, .int 0, .int 0, .ref yta, .int 0, .int 0, .int 0, .int 0, .int 0, .ref ywa, .ref ybi, .ref ysi, .ref ynu, .ref ymo])), (ybi, .inl (cI, 4, .inl f_83)), (ysi, .inl (cI, 4, .inl f_85)), (ynu, .inl (cJ, 160, .inr (.inl (fun _ => 0)))), (yt, .inl (cI, 7, .inl (fun _ => 0)))] := hD
                refine lv_iconst (v := 0) hx hb dX9_sheet_83 (by decide) ?_
                refine lv_istore (lv' := [(4, .int 0), (0, .ref h0), (1, .int 0), (2, .int 16), (3, .int p2)]) hx hb dX9_sheet_84 hl (by decide) rfl (fun ls hl => ?_)
                suffices loop_87 : ∀ (n k_86 : Nat) (f9 : Nat → Int64) (H : Heap) (locs : List Loc) (ls : Array Slot), k_86 + n = 40 → va_P D vwCl [(h0, .inr (9, [.ref ys, .ref yk, .ref yo, .ref yt, .int 0, .ref yfa, .ref yfe, .int 0, .int 0, .int 0, .ref yro, .ref yhe, .ref ygr, .int 0, .int 0, .int 0, .ref yta, .int 0, .int 0, .int 0, .int 0, .int 0, .ref ywa, .ref ybi, .ref ysi, .ref ynu, .ref ymo])), (ybi, .inl (cI, 4, .inl f_83)), (ysi, .inl (cI, 4, .inl f_85)), (ynu, .inl (cJ, 160, .inr (.inl f9))), (yt, .inl (cI, 7, .inl (fun _ => 0)))] H → va_D A [(h0, .inr (9, [.ref ys, .ref yk, .ref yo, .ref yt, .int 0, .ref yfa, .ref yfe, .int 0, .int 0, .int 0, .ref yro, .ref yhe, .ref ygr, .int 0, .int 0, .int 0, .ref yta, .int 0, .int 0, .int 0, .int 0, .int 0, .ref ywa, .ref ybi, .ref ysi, .ref ynu, .ref ymo])), (ybi, .inl (cI, 4, .inl f_83)), (ysi, .inl (cI, 4, .inl f_85)), (ynu, .inl (cJ, 160, .inr (.inl f9))), (yt, .inl (cI, 7, .inl (fun _ => 0)))] → va_S A s.heap H locs → lv_has ls 5 [(4, .int (nI (k_86))), (0, .ref h0), (1, .int 0), (2, .int 16), (3, .int p2)] → W p l e ({ frames := 2, cells := 0, slots := 0, locals := 45 }) s m ([.ref h0, .int 0, .int 16, .int p2] : List Value).toArray below meth c H locs 0 0 (MQ below (XQi (fun (r : Int32) (_ : Unit) => r = a_sheet 0 16 p2) D (fun _ : Unit => []) A) ([.ref h0, .int 0, .int 16, .int p2] : List Value).toArray s 0 0 A) (F0 m 86 ls []) by
                  exact loop_87 40 0 (fun _ => 0) _ _ _ (by decide) hP hD hS (lv_sub hl [0, 1, 2, 3, 4] rfl)
                intro n
                induction n with
                | zero =>
                  intro k_86 f9 H locs ls hk hP hD hS hl 
                  have hk2 : k_86 = 40 := by omega
                  subst hk2
                  have hl : lv_has ls 5 [(4, .int 40), (0, .ref h0), (1, .int 0), (2, .int 16), (3, .int p2)] := hl
                  refine lv_iload hx hb dX9_sheet_86 (lv_at hl 0 rfl) ?_
                  refine lv_bipush (v := 40) hx hb dX9_sheet_88 (by decide) ?_
                  refine lv_icmp_ge (tgt := 112) hx hb dX9_sheet_90 (by decide) (fun c_88 => ?_) (fun c_88 => absurd (by decide) c_88)
                  refine lv_aload_n hx hb dX9_sheet_112 rfl (lv_at hl 1 rfl) ?_
                  refine xg hF kf_X9_46 hK hP 0 rfl rfl dX9_sheet_113 ?_
                  refine lv_iload_n hx hb dX9_sheet_116 rfl (lv_at hl 2 rfl) ?_
                  refine va_iald hx hb hK hP 2 0 rfl rfl (xin 0 4 (by decide) (by decide)) dX9_sheet_117 ?_
                  refine xl_i (y := f_85 0) (congrArg f_85 rfl) ?_
                  refine xl_i (y := p2) (by rw [ef_85]; rfl) ?_
                  exact W.iret (v := p2) hx hb hr (fun t ht hW => ⟨⟨p2, (), rfl, (p_sheet6 (by decide) (by decide) (by decide) (fun h => absurd c_81 (Int32.not_le.mpr h)) (fun h => absurd c_82 (Int32.not_le.mpr h)) (by decide)), by rw [ht]; exact hP.sub [] rfl, hD.sub [] (by decide) rfl⟩, hS.F ht⟩) hS.2.2 dX9_sheet_118 hlk
                | succ n ih =>
                  intro k_86 f9 H locs ls hk hP hD hS hl 
                  have hlt_k_86 : k_86 < 40 := by omega
                  refine lv_iload hx hb dX9_sheet_86 (lv_at hl 0 rfl) ?_
                  refine lv_bipush (v := 40) hx hb dX9_sheet_88 (by decide) ?_
                  refine lv_icmp_ge (tgt := 112) hx hb dX9_sheet_90 (by decide) (fun c_89 => absurd c_89 (nI_ge hlt_k_86 (by decide))) (fun c_89 => ?_)
                  refine lv_aload_n hx hb dX9_sheet_93 rfl (lv_at hl 1 rfl) ?_
                  refine xg hF kf_X9_49 hK hP 0 rfl rfl dX9_sheet_94 ?_
                  refine lv_bipush (v := 40) hx hb dX9_sheet_97 (by decide) ?_
                  refine lv_iload_n hx hb dX9_sheet_99 rfl (lv_at hl 2 rfl) ?_
                  refine lv_imul hx hb dX9_sheet_100 ?_
                  refine xl_i (y := 0) (by decide) ?_
                  refine lv_iload hx hb dX9_sheet_101 (lv_at hl 0 rfl) ?_
                  refine lv_iadd hx hb dX9_sheet_103 ?_
                  refine xl_i (y := nI (0 + k_86)) (nI_add 0 k_86) ?_
                  refine lv_lconst (v := 0) hx hb dX9_sheet_104 (by decide) ?_
                  refine va_last hx hb hK hP hD hS 3 1 rfl rfl (vp_in_nI (show 0 + k_86 < 160 by omega) (by decide)) dX9_sheet_105 (fun H locs hP hD hS => ?_)
                  obtain ⟨f_90, ef_90⟩ : ∃ g, g = vp_updL f9 (nI (0 + k_86)).toNatClampNeg 0 := ⟨_, rfl⟩
                  rw [← ef_90] at hP hD
                  have hP : va_P D vwCl [(h0, .inr (9, [.ref ys, .ref yk, .ref yo, .ref yt, .int 0, .ref yfa, .ref yfe, .int 0, .int 0, .int 0, .ref yro, .ref yhe, .ref ygr, .int 0, .int 0, .int 0, .ref yta, .int 0, .int 0, .int 0, .int 0, .int 0, .ref ywa, .ref ybi, .ref ysi, .ref ynu, .ref ymo])), (ybi, .inl (cI, 4, .inl f_83)), (ysi, .inl (cI, 4, .inl f_85)), (ynu, .inl (cJ, 160, .inr (.inl f_90))), (yt, .inl (cI, 7, .inl (fun _ => 0)))] H := hP
                  have hD : va_D A [(h0, .inr (9, [.ref ys, .ref yk, .ref yo, .ref yt, .int 0, .ref yfa, .ref yfe, .int 0, .int 0, .int 0, .ref yro, .ref yhe, .ref ygr, .int 0, .int 0, .int 0, .ref yta, .int 0, .int 0, .int 0, .int 0, .int 0, .ref ywa, .ref ybi, .ref ysi, .ref ynu, .ref ymo])), (ybi, .inl (cI, 4, .inl f_83)), (ysi, .inl (cI, 4, .inl f_85)), (ynu, .inl (cJ, 160, .inr (.inl f_90))), (yt, .inl (cI, 7, .inl (fun _ => 0)))] := hD
                  refine lv_iinc (v := nI (k_86 + 1)) (lv' := [(4, .int (nI (k_86 + 1))), (0, .ref h0), (1, .int 0), (2, .int 16), (3, .int p2)]) hx hb dX9_sheet_106 hl (k := 0) rfl (nI_1 (k_86)) (by decide) rfl (fun ls hl => ?_)
                  refine lv_goto (tgt := 86) hx hb dX9_sheet_109 (by decide) ?_
                  exact ih (k_86 + 1) f_90 _ _ _ (by omega) (hP.sub [0, 1, 2, 3, 4] rfl) (hD.sub [0, 1, 2, 3, 4] (by decide) rfl) hS (lv_sub hl [0, 1, 2, 3, 4] rfl)
              · skip
                refine lv_aload_n hx hb dX9_sheet_61 rfl (lv_at hl 0 rfl) ?_
                refine xg hF kf_X9_43 hK hP 0 rfl rfl dX9_sheet_62 ?_
                refine lv_iload_n hx hb dX9_sheet_65 rfl (lv_at hl 1 rfl) ?_
                refine lv_iload_n hx hb dX9_sheet_66 rfl (lv_at hl 2 rfl) ?_
                refine va_iast hx hb hK hP hD hS 1 0 rfl rfl (xin 1 4 (by decide) (by decide)) dX9_sheet_67 (fun H locs hP hD hS => ?_)
                obtain ⟨f_91, ef_91⟩ : ∃ g, g = upd (fun _ => 0) (1 : Int32).toNatClampNeg 16 := ⟨_, rfl⟩
                rw [← ef_91] at hP hD
                have hP : va_P D vwCl [(h0, .inr (9, [.ref ys, .ref yk, .ref yo, .ref yt, .int 0, .ref yfa, .ref yfe, .int 0, .int 0, .int 0, .ref yro, .ref yhe, .ref ygr, .int 0, .int 0, .int 0, .ref yta, .int 0, .int 0, .int 0, .int 0, .int 0, .ref ywa, .ref ybi, .ref ysi, .ref ynu, .ref ymo])), (ybi, .inl (cI, 4, .inl f_91)), (ysi, .inl (cI, 4, .inl (fun _ => 0))), (ynu, .inl (cJ, 160, .inr (.inl (fun _ => 0)))), (yt, .inl (cI, 7, .inl (fun _ => 0)))] H := hP
                have hD : va_D A [(h0, .inr (9, [.ref ys, .ref yk, .ref yo, .ref yt, .int 0, .ref yfa, .ref yfe, .int 0, .int 0, .int 0, .ref yro, .ref yhe, .ref ygr, .int 0, .int 0, .int 0, .ref yta, .int 0, .int 0, .int 0, .int 0, .int 0, .ref ywa, .ref ybi, .ref ysi, .ref ynu, .ref ymo])), (ybi, .inl (cI, 4, .inl f_91)), (ysi, .inl (cI, 4, .inl (fun _ => 0))), (ynu, .inl (cJ, 160, .inr (.inl (fun _ => 0)))), (yt, .inl (cI, 7, .inl (fun _ => 0)))] := hD
                refine lv_aload_n hx hb dX9_sheet_68 rfl (lv_at hl 0 rfl) ?_
                refine xg hF kf_X9_46 hK hP 0 rfl rfl dX9_sheet_69 ?_
                refine lv_iload_n hx hb dX9_sheet_72 rfl (lv_at hl 1 rfl) ?_
                refine lv_iload_n hx hb dX9_sheet_73 rfl (lv_at hl 2 rfl) ?_
                refine lv_if_ne (tgt := 81) hx hb dX9_sheet_74 (by decide) (fun c_92 => ?_) (fun c_92 => absurd c_92 (by decide))
                refine lv_iload_n hx hb dX9_sheet_81 rfl (lv_at hl 3 rfl) ?_
                refine va_iast hx hb hK hP hD hS 2 0 rfl rfl (xin 1 4 (by decide) (by decide)) dX9_sheet_82 (fun H locs hP hD hS => ?_)
                obtain ⟨f_93, ef_93⟩ : ∃ g, g = upd (fun _ => 0) (1 : Int32).toNatClampNeg p2 := ⟨_, rfl⟩
                rw [← ef_93] at hP hD
                have hP : va_P D vwCl [(h0, .inr (9, [.ref ys, .ref yk, .ref yo, .ref yt, .int 0, .ref yfa, .ref yfe, .int 0, .int 0, .int 0, .ref yro, .ref yhe, .ref ygr, .int 0, .int 0, .int 0, .ref yta, .int 0, .int 0, .int 0, .int 0, .int 0, .ref ywa, .ref ybi, .ref ysi, .ref ynu, .ref ymo])), (ybi, .inl (cI, 4, .inl f_91)), (ysi, .inl (cI, 4, .inl f_93)), (ynu, .inl (cJ, 160, .inr (.inl (fun _ => 0)))), (yt, .inl (cI, 7, .inl (fun _ => 0)))] H := hP
                have hD : va_D A [(h0, .inr (9, [.ref ys, .ref yk, .ref yo, .ref yt, .int 0, .ref yfa, .ref yfe, .int 0, .int 0, .int 0, .ref yro, .ref yhe, .ref ygr, .int 0, .int 0, .int 0, .ref yta, .int 0, .int 0, .int 0, .int 0, .int 0, .ref ywa, .ref ybi, .ref ysi, .ref ynu, .ref ymo])), (ybi, .inl (cI, 4, .inl f_91)), (ysi, .inl (cI, 4, .inl f_93)), (ynu, .inl (cJ, 160, .inr (.inl (fun _ => 0)))), (yt, .inl (cI, 7, .inl (fun _ => 0)))] := hD
                refine lv_iconst (v := 0) hx hb dX9_sheet_83 (by decide) ?_
                refine lv_istore (lv' := [(4, .int 0), (0, .ref h0), (1, .int 1), (2, .int 16), (3, .int p2)]) hx hb dX9_sheet_84 hl (by decide) rfl (fun ls hl => ?_)
                suffices loop_95 : ∀ (n k_94 : Nat) (f9 : Nat → Int64) (H : Heap) (locs : List Loc) (ls : Array Slot), k_94 + n = 40 → va_P D vwCl [(h0, .inr (9, [.ref ys, .ref yk, .ref yo, .ref yt, .int 0, .ref yfa, .ref yfe, .int 0, .int 0, .int 0, .ref yro, .ref yhe, .ref ygr, .int 0, .int 0, .int 0, .ref yta, .int 0, .int 0, .int 0, .int 0, .int 0, .ref ywa, .ref ybi, .ref ysi, .ref ynu, .ref ymo])), (ybi, .inl (cI, 4, .inl f_91)), (ysi, .inl (cI, 4, .inl f_93)), (ynu, .inl (cJ, 160, .inr (.inl f9))), (yt, .inl (cI, 7, .inl (fun _ => 0)))] H → va_D A [(h0, .inr (9, [.ref ys, .ref yk, .ref yo, .ref yt, .int 0, .ref yfa, .ref yfe, .int 0, .int 0, .int 0, .ref yro, .ref yhe, .ref ygr, .int 0, .int 0, .int 0, .ref yta, .int 0, .int 0, .int 0, .int 0, .int 0, .ref ywa, .ref ybi, .ref ysi, .ref ynu, .ref ymo])), (ybi, .inl (cI, 4, .inl f_91)), (ysi, .inl (cI, 4, .inl f_93)), (ynu, .inl (cJ, 160, .inr (.inl f9))), (yt, .inl (cI, 7, .inl (fun _ => 0)))] → va_S A s.heap H locs → lv_has ls 5 [(4, .int (nI (k_94))), (0, .ref h0), (1, .int 1), (2, .int 16), (3, .int p2)] → W p l e ({ frames := 2, cells := 0, slots := 0, locals := 45 }) s m ([.ref h0, .int 1, .int 16, .int p2] : List Value).toArray below meth c H locs 0 0 (MQ below (XQi (fun (r : Int32) (_ : Unit) => r = a_sheet 1 16 p2) D (fun _ : Unit => []) A) ([.ref h0, .int 1, .int 16, .int p2] : List Value).toArray s 0 0 A) (F0 m 86 ls []) by
                  exact loop_95 40 0 (fun _ => 0) _ _ _ (by decide) hP hD hS (lv_sub hl [0, 1, 2, 3, 4] rfl)
                intro n
                induction n with
                | zero =>
                  intro k_94 f9 H locs ls hk hP hD hS hl 
                  have hk2 : k_94 = 40 := by omega
                  subst hk2
                  have hl : lv_has ls 5 [(4, .int 40), (0, .ref h0), (1, .int 1), (2, .int 16), (3, .int p2)] := hl
                  refine lv_iload hx hb dX9_sheet_86 (lv_at hl 0 rfl) ?_
                  refine lv_bipush (v := 40) hx hb dX9_sheet_88 (by decide) ?_
                  refine lv_icmp_ge (tgt := 112) hx hb dX9_sheet_90 (by decide) (fun c_96 => ?_) (fun c_96 => absurd (by decide) c_96)
                  refine lv_aload_n hx hb dX9_sheet_112 rfl (lv_at hl 1 rfl) ?_
                  refine xg hF kf_X9_46 hK hP 0 rfl rfl dX9_sheet_113 ?_
                  refine lv_iload_n hx hb dX9_sheet_116 rfl (lv_at hl 2 rfl) ?_
                  refine va_iald hx hb hK hP 2 0 rfl rfl (xin 1 4 (by decide) (by decide)) dX9_sheet_117 ?_
                  refine xl_i (y := f_93 1) (congrArg f_93 rfl) ?_
                  refine xl_i (y := p2) (by rw [ef_93]; rfl) ?_
                  exact W.iret (v := p2) hx hb hr (fun t ht hW => ⟨⟨p2, (), rfl, (p_sheet6 (by decide) (by decide) (by decide) (fun h => absurd c_81 (Int32.not_le.mpr h)) (fun h => absurd c_82 (Int32.not_le.mpr h)) (by decide)), by rw [ht]; exact hP.sub [] rfl, hD.sub [] (by decide) rfl⟩, hS.F ht⟩) hS.2.2 dX9_sheet_118 hlk
                | succ n ih =>
                  intro k_94 f9 H locs ls hk hP hD hS hl 
                  have hlt_k_94 : k_94 < 40 := by omega
                  refine lv_iload hx hb dX9_sheet_86 (lv_at hl 0 rfl) ?_
                  refine lv_bipush (v := 40) hx hb dX9_sheet_88 (by decide) ?_
                  refine lv_icmp_ge (tgt := 112) hx hb dX9_sheet_90 (by decide) (fun c_97 => absurd c_97 (nI_ge hlt_k_94 (by decide))) (fun c_97 => ?_)
                  refine lv_aload_n hx hb dX9_sheet_93 rfl (lv_at hl 1 rfl) ?_
                  refine xg hF kf_X9_49 hK hP 0 rfl rfl dX9_sheet_94 ?_
                  refine lv_bipush (v := 40) hx hb dX9_sheet_97 (by decide) ?_
                  refine lv_iload_n hx hb dX9_sheet_99 rfl (lv_at hl 2 rfl) ?_
                  refine lv_imul hx hb dX9_sheet_100 ?_
                  refine xl_i (y := 40) (by decide) ?_
                  refine lv_iload hx hb dX9_sheet_101 (lv_at hl 0 rfl) ?_
                  refine lv_iadd hx hb dX9_sheet_103 ?_
                  refine xl_i (y := nI (40 + k_94)) (nI_add 40 k_94) ?_
                  refine lv_lconst (v := 0) hx hb dX9_sheet_104 (by decide) ?_
                  refine va_last hx hb hK hP hD hS 3 1 rfl rfl (vp_in_nI (show 40 + k_94 < 160 by omega) (by decide)) dX9_sheet_105 (fun H locs hP hD hS => ?_)
                  obtain ⟨f_98, ef_98⟩ : ∃ g, g = vp_updL f9 (nI (40 + k_94)).toNatClampNeg 0 := ⟨_, rfl⟩
                  rw [← ef_98] at hP hD
                  have hP : va_P D vwCl [(h0, .inr (9, [.ref ys, .ref yk, .ref yo, .ref yt, .int 0, .ref yfa, .ref yfe, .int 0, .int 0, .int 0, .ref yro, .ref yhe, .ref ygr, .int 0, .int 0, .int 0, .ref yta, .int 0, .int 0, .int 0, .int 0, .int 0, .ref ywa, .ref ybi, .ref ysi, .ref ynu, .ref ymo])), (ybi, .inl (cI, 4, .inl f_91)), (ysi, .inl (cI, 4, .inl f_93)), (ynu, .inl (cJ, 160, .inr (.inl f_98))), (yt, .inl (cI, 7, .inl (fun _ => 0)))] H := hP
                  have hD : va_D A [(h0, .inr (9, [.ref ys, .ref yk, .ref yo, .ref yt, .int 0, .ref yfa, .ref yfe, .int 0, .int 0, .int 0, .ref yro, .ref yhe, .ref ygr, .int 0, .int 0, .int 0, .ref yta, .int 0, .int 0, .int 0, .int 0, .int 0, .ref ywa, .ref ybi, .ref ysi, .ref ynu, .ref ymo])), (ybi, .inl (cI, 4, .inl f_91)), (ysi, .inl (cI, 4, .inl f_93)), (ynu, .inl (cJ, 160, .inr (.inl f_98))), (yt, .inl (cI, 7, .inl (fun _ => 0)))] := hD
                  refine lv_iinc (v := nI (k_94 + 1)) (lv' := [(4, .int (nI (k_94 + 1))), (0, .ref h0), (1, .int 1), (2, .int 16), (3, .int p2)]) hx hb dX9_sheet_106 hl (k := 0) rfl (nI_1 (k_94)) (by decide) rfl (fun ls hl => ?_)
                  refine lv_goto (tgt := 86) hx hb dX9_sheet_109 (by decide) ?_
                  exact ih (k_94 + 1) f_98 _ _ _ (by omega) (hP.sub [0, 1, 2, 3, 4] rfl) (hD.sub [0, 1, 2, 3, 4] (by decide) rfl) hS (lv_sub hl [0, 1, 2, 3, 4] rfl)
              · skip
                refine lv_aload_n hx hb dX9_sheet_61 rfl (lv_at hl 0 rfl) ?_
                refine xg hF kf_X9_43 hK hP 0 rfl rfl dX9_sheet_62 ?_
                refine lv_iload_n hx hb dX9_sheet_65 rfl (lv_at hl 1 rfl) ?_
                refine lv_iload_n hx hb dX9_sheet_66 rfl (lv_at hl 2 rfl) ?_
                refine va_iast hx hb hK hP hD hS 1 0 rfl rfl (xin 2 4 (by decide) (by decide)) dX9_sheet_67 (fun H locs hP hD hS => ?_)
                obtain ⟨f_99, ef_99⟩ : ∃ g, g = upd (fun _ => 0) (2 : Int32).toNatClampNeg 16 := ⟨_, rfl⟩
                rw [← ef_99] at hP hD
                have hP : va_P D vwCl [(h0, .inr (9, [.ref ys, .ref yk, .ref yo, .ref yt, .int 0, .ref yfa, .ref yfe, .int 0, .int 0, .int 0, .ref yro, .ref yhe, .ref ygr, .int 0, .int 0, .int 0, .ref yta, .int 0, .int 0, .int 0, .int 0, .int 0, .ref ywa, .ref ybi, .ref ysi, .ref ynu, .ref ymo])), (ybi, .inl (cI, 4, .inl f_99)), (ysi, .inl (cI, 4, .inl (fun _ => 0))), (ynu, .inl (cJ, 160, .inr (.inl (fun _ => 0)))), (yt, .inl (cI, 7, .inl (fun _ => 0)))] H := hP
                have hD : va_D A [(h0, .inr (9, [.ref ys, .ref yk, .ref yo, .ref yt, .int 0, .ref yfa, .ref yfe, .int 0, .int 0, .int 0, .ref yro, .ref yhe, .ref ygr, .int 0, .int 0, .int 0, .ref yta, .int 0, .int 0, .int 0, .int 0, .int 0, .ref ywa, .ref ybi, .ref ysi, .ref ynu, .ref ymo])), (ybi, .inl (cI, 4, .inl f_99)), (ysi, .inl (cI, 4, .inl (fun _ => 0))), (ynu, .inl (cJ, 160, .inr (.inl (fun _ => 0)))), (yt, .inl (cI, 7, .inl (fun _ => 0)))] := hD
                refine lv_aload_n hx hb dX9_sheet_68 rfl (lv_at hl 0 rfl) ?_
                refine xg hF kf_X9_46 hK hP 0 rfl rfl dX9_sheet_69 ?_
                refine lv_iload_n hx hb dX9_sheet_72 rfl (lv_at hl 1 rfl) ?_
                refine lv_iload_n hx hb dX9_sheet_73 rfl (lv_at hl 2 rfl) ?_
                refine lv_if_ne (tgt := 81) hx hb dX9_sheet_74 (by decide) (fun c_100 => ?_) (fun c_100 => absurd c_100 (by decide))
                refine lv_iload_n hx hb dX9_sheet_81 rfl (lv_at hl 3 rfl) ?_
                refine va_iast hx hb hK hP hD hS 2 0 rfl rfl (xin 2 4 (by decide) (by decide)) dX9_sheet_82 (fun H locs hP hD hS => ?_)
                obtain ⟨f_101, ef_101⟩ : ∃ g, g = upd (fun _ => 0) (2 : Int32).toNatClampNeg p2 := ⟨_, rfl⟩
                rw [← ef_101] at hP hD
                have hP : va_P D vwCl [(h0, .inr (9, [.ref ys, .ref yk, .ref yo, .ref yt, .int 0, .ref yfa, .ref yfe, .int 0, .int 0, .int 0, .ref yro, .ref yhe, .ref ygr, .int 0, .int 0, .int 0, .ref yta, .int 0, .int 0, .int 0, .int 0, .int 0, .ref ywa, .ref ybi, .ref ysi, .ref ynu, .ref ymo])), (ybi, .inl (cI, 4, .inl f_99)), (ysi, .inl (cI, 4, .inl f_101)), (ynu, .inl (cJ, 160, .inr (.inl (fun _ => 0)))), (yt, .inl (cI, 7, .inl (fun _ => 0)))] H := hP
                have hD : va_D A [(h0, .inr (9, [.ref ys, .ref yk, .ref yo, .ref yt, .int 0, .ref yfa, .ref yfe, .int 0, .int 0, .int 0, .ref yro, .ref yhe, .ref ygr, .int 0, .int 0, .int 0, .ref yta, .int 0, .int 0, .int 0, .int 0, .int 0, .ref ywa, .ref ybi, .ref ysi, .ref ynu, .ref ymo])), (ybi, .inl (cI, 4, .inl f_99)), (ysi, .inl (cI, 4, .inl f_101)), (ynu, .inl (cJ, 160, .inr (.inl (fun _ => 0)))), (yt, .inl (cI, 7, .inl (fun _ => 0)))] := hD
                refine lv_iconst (v := 0) hx hb dX9_sheet_83 (by decide) ?_
                refine lv_istore (lv' := [(4, .int 0), (0, .ref h0), (1, .int 2), (2, .int 16), (3, .int p2)]) hx hb dX9_sheet_84 hl (by decide) rfl (fun ls hl => ?_)
                suffices loop_103 : ∀ (n k_102 : Nat) (f9 : Nat → Int64) (H : Heap) (locs : List Loc) (ls : Array Slot), k_102 + n = 40 → va_P D vwCl [(h0, .inr (9, [.ref ys, .ref yk, .ref yo, .ref yt, .int 0, .ref yfa, .ref yfe, .int 0, .int 0, .int 0, .ref yro, .ref yhe, .ref ygr, .int 0, .int 0, .int 0, .ref yta, .int 0, .int 0, .int 0, .int 0, .int 0, .ref ywa, .ref ybi, .ref ysi, .ref ynu, .ref ymo])), (ybi, .inl (cI, 4, .inl f_99)), (ysi, .inl (cI, 4, .inl f_101)), (ynu, .inl (cJ, 160, .inr (.inl f9))), (yt, .inl (cI, 7, .inl (fun _ => 0)))] H → va_D A [(h0, .inr (9, [.ref ys, .ref yk, .ref yo, .ref yt, .int 0, .ref yfa, .ref yfe, .int 0, .int 0, .int 0, .ref yro, .ref yhe, .ref ygr, .int 0, .int 0, .int 0, .ref yta, .int 0, .int 0, .int 0, .int 0, .int 0, .ref ywa, .ref ybi, .ref ysi, .ref ynu, .ref ymo])), (ybi, .inl (cI, 4, .inl f_99)), (ysi, .inl (cI, 4, .inl f_101)), (ynu, .inl (cJ, 160, .inr (.inl f9))), (yt, .inl (cI, 7, .inl (fun _ => 0)))] → va_S A s.heap H locs → lv_has ls 5 [(4, .int (nI (k_102))), (0, .ref h0), (1, .int 2), (2, .int 16), (3, .int p2)] → W p l e ({ frames := 2, cells := 0, slots := 0, locals := 45 }) s m ([.ref h0, .int 2, .int 16, .int p2] : List Value).toArray below meth c H locs 0 0 (MQ below (XQi (fun (r : Int32) (_ : Unit) => r = a_sheet 2 16 p2) D (fun _ : Unit => []) A) ([.ref h0, .int 2, .int 16, .int p2] : List Value).toArray s 0 0 A) (F0 m 86 ls []) by
                  exact loop_103 40 0 (fun _ => 0) _ _ _ (by decide) hP hD hS (lv_sub hl [0, 1, 2, 3, 4] rfl)
                intro n
                induction n with
                | zero =>
                  intro k_102 f9 H locs ls hk hP hD hS hl 
                  have hk2 : k_102 = 40 := by omega
                  subst hk2
                  have hl : lv_has ls 5 [(4, .int 40), (0, .ref h0), (1, .int 2), (2, .int 16), (3, .int p2)] := hl
                  refine lv_iload hx hb dX9_sheet_86 (lv_at hl 0 rfl) ?_
                  refine lv_bipush (v := 40) hx hb dX9_sheet_88 (by decide) ?_
                  refine lv_icmp_ge (tgt := 112) hx hb dX9_sheet_90 (by decide) (fun c_104 => ?_) (fun c_104 => absurd (by decide) c_104)
                  refine lv_aload_n hx hb dX9_sheet_112 rfl (lv_at hl 1 rfl) ?_
                  refine xg hF kf_X9_46 hK hP 0 rfl rfl dX9_sheet_113 ?_
                  refine lv_iload_n hx hb dX9_sheet_116 rfl (lv_at hl 2 rfl) ?_
                  refine va_iald hx hb hK hP 2 0 rfl rfl (xin 2 4 (by decide) (by decide)) dX9_sheet_117 ?_
                  refine xl_i (y := f_101 2) (congrArg f_101 rfl) ?_
                  refine xl_i (y := p2) (by rw [ef_101]; rfl) ?_
                  exact W.iret (v := p2) hx hb hr (fun t ht hW => ⟨⟨p2, (), rfl, (p_sheet6 (by decide) (by decide) (by decide) (fun h => absurd c_81 (Int32.not_le.mpr h)) (fun h => absurd c_82 (Int32.not_le.mpr h)) (by decide)), by rw [ht]; exact hP.sub [] rfl, hD.sub [] (by decide) rfl⟩, hS.F ht⟩) hS.2.2 dX9_sheet_118 hlk
                | succ n ih =>
                  intro k_102 f9 H locs ls hk hP hD hS hl 
                  have hlt_k_102 : k_102 < 40 := by omega
                  refine lv_iload hx hb dX9_sheet_86 (lv_at hl 0 rfl) ?_
                  refine lv_bipush (v := 40) hx hb dX9_sheet_88 (by decide) ?_
                  refine lv_icmp_ge (tgt := 112) hx hb dX9_sheet_90 (by decide) (fun c_105 => absurd c_105 (nI_ge hlt_k_102 (by decide))) (fun c_105 => ?_)
                  refine lv_aload_n hx hb dX9_sheet_93 rfl (lv_at hl 1 rfl) ?_
                  refine xg hF kf_X9_49 hK hP 0 rfl rfl dX9_sheet_94 ?_
                  refine lv_bipush (v := 40) hx hb dX9_sheet_97 (by decide) ?_
                  refine lv_iload_n hx hb dX9_sheet_99 rfl (lv_at hl 2 rfl) ?_
                  refine lv_imul hx hb dX9_sheet_100 ?_
                  refine xl_i (y := 80) (by decide) ?_
                  refine lv_iload hx hb dX9_sheet_101 (lv_at hl 0 rfl) ?_
                  refine lv_iadd hx hb dX9_sheet_103 ?_
                  refine xl_i (y := nI (80 + k_102)) (nI_add 80 k_102) ?_
                  refine lv_lconst (v := 0) hx hb dX9_sheet_104 (by decide) ?_
                  refine va_last hx hb hK hP hD hS 3 1 rfl rfl (vp_in_nI (show 80 + k_102 < 160 by omega) (by decide)) dX9_sheet_105 (fun H locs hP hD hS => ?_)
                  obtain ⟨f_106, ef_106⟩ : ∃ g, g = vp_updL f9 (nI (80 + k_102)).toNatClampNeg 0 := ⟨_, rfl⟩
                  rw [← ef_106] at hP hD
                  have hP : va_P D vwCl [(h0, .inr (9, [.ref ys, .ref yk, .ref yo, .ref yt, .int 0, .ref yfa, .ref yfe, .int 0, .int 0, .int 0, .ref yro, .ref yhe, .ref ygr, .int 0, .int 0, .int 0, .ref yta, .int 0, .int 0, .int 0, .int 0, .int 0, .ref ywa, .ref ybi, .ref ysi, .ref ynu, .ref ymo])), (ybi, .inl (cI, 4, .inl f_99)), (ysi, .inl (cI, 4, .inl f_101)), (ynu, .inl (cJ, 160, .inr (.inl f_106))), (yt, .inl (cI, 7, .inl (fun _ => 0)))] H := hP
                  have hD : va_D A [(h0, .inr (9, [.ref ys, .ref yk, .ref yo, .ref yt, .int 0, .ref yfa, .ref yfe, .int 0, .int 0, .int 0, .ref yro, .ref yhe, .ref ygr, .int 0, .int 0, .int 0, .ref yta, .int 0, .int 0, .int 0, .int 0, .int 0, .ref ywa, .ref ybi, .ref ysi, .ref ynu, .ref ymo])), (ybi, .inl (cI, 4, .inl f_99)), (ysi, .inl (cI, 4, .inl f_101)), (ynu, .inl (cJ, 160, .inr (.inl f_106))), (yt, .inl (cI, 7, .inl (fun _ => 0)))] := hD
                  refine lv_iinc (v := nI (k_102 + 1)) (lv' := [(4, .int (nI (k_102 + 1))), (0, .ref h0), (1, .int 2), (2, .int 16), (3, .int p2)]) hx hb dX9_sheet_106 hl (k := 0) rfl (nI_1 (k_102)) (by decide) rfl (fun ls hl => ?_)
                  refine lv_goto (tgt := 86) hx hb dX9_sheet_109 (by decide) ?_
                  exact ih (k_102 + 1) f_106 _ _ _ (by omega) (hP.sub [0, 1, 2, 3, 4] rfl) (hD.sub [0, 1, 2, 3, 4] (by decide) rfl) hS (lv_sub hl [0, 1, 2, 3, 4] rfl)
              · skip
                refine lv_aload_n hx hb dX9_sheet_61 rfl (lv_at hl 0 rfl) ?_
                refine xg hF kf_X9_43 hK hP 0 rfl rfl dX9_sheet_62 ?_
                refine lv_iload_n hx hb dX9_sheet_65 rfl (lv_at hl 1 rfl) ?_
                refine lv_iload_n hx hb dX9_sheet_66 rfl (lv_at hl 2 rfl) ?_
                refine va_iast hx hb hK hP hD hS 1 0 rfl rfl (xin 3 4 (by decide) (by decide)) dX9_sheet_67 (fun H locs hP hD hS => ?_)
                obtain ⟨f_107, ef_107⟩ : ∃ g, g = upd (fun _ => 0) (3 : Int32).toNatClampNeg 16 := ⟨_, rfl⟩
                rw [← ef_107] at hP hD
                have hP : va_P D vwCl [(h0, .inr (9, [.ref ys, .ref yk, .ref yo, .ref yt, .int 0, .ref yfa, .ref yfe, .int 0, .int 0, .int 0, .ref yro, .ref yhe, .ref ygr, .int 0, .int 0, .int 0, .ref yta, .int 0, .int 0, .int 0, .int 0, .int 0, .ref ywa, .ref ybi, .ref ysi, .ref ynu, .ref ymo])), (ybi, .inl (cI, 4, .inl f_107)), (ysi, .inl (cI, 4, .inl (fun _ => 0))), (ynu, .inl (cJ, 160, .inr (.inl (fun _ => 0)))), (yt, .inl (cI, 7, .inl (fun _ => 0)))] H := hP
                have hD : va_D A [(h0, .inr (9, [.ref ys, .ref yk, .ref yo, .ref yt, .int 0, .ref yfa, .ref yfe, .int 0, .int 0, .int 0, .ref yro, .ref yhe, .ref ygr, .int 0, .int 0, .int 0, .ref yta, .int 0, .int 0, .int 0, .int 0, .int 0, .ref ywa, .ref ybi, .ref ysi, .ref ynu, .ref ymo])), (ybi, .inl (cI, 4, .inl f_107)), (ysi, .inl (cI, 4, .inl (fun _ => 0))), (ynu, .inl (cJ, 160, .inr (.inl (fun _ => 0)))), (yt, .inl (cI, 7, .inl (fun _ => 0)))] := hD
                refine lv_aload_n hx hb dX9_sheet_68 rfl (lv_at hl 0 rfl) ?_
                refine xg hF kf_X9_46 hK hP 0 rfl rfl dX9_sheet_69 ?_
                refine lv_iload_n hx hb dX9_sheet_72 rfl (lv_at hl 1 rfl) ?_
                refine lv_iload_n hx hb dX9_sheet_73 rfl (lv_at hl 2 rfl) ?_
                refine lv_if_ne (tgt := 81) hx hb dX9_sheet_74 (by decide) (fun c_108 => ?_) (fun c_108 => absurd c_108 (by decide))
                refine lv_iload_n hx hb dX9_sheet_81 rfl (lv_at hl 3 rfl) ?_
                refine va_iast hx hb hK hP hD hS 2 0 rfl rfl (xin 3 4 (by decide) (by decide)) dX9_sheet_82 (fun H locs hP hD hS => ?_)
                obtain ⟨f_109, ef_109⟩ : ∃ g, g = upd (fun _ => 0) (3 : Int32).toNatClampNeg p2 := ⟨_, rfl⟩
                rw [← ef_109] at hP hD
                have hP : va_P D vwCl [(h0, .inr (9, [.ref ys, .ref yk, .ref yo, .ref yt, .int 0, .ref yfa, .ref yfe, .int 0, .int 0, .int 0, .ref yro, .ref yhe, .ref ygr, .int 0, .int 0, .int 0, .ref yta, .int 0, .int 0, .int 0, .int 0, .int 0, .ref ywa, .ref ybi, .ref ysi, .ref ynu, .ref ymo])), (ybi, .inl (cI, 4, .inl f_107)), (ysi, .inl (cI, 4, .inl f_109)), (ynu, .inl (cJ, 160, .inr (.inl (fun _ => 0)))), (yt, .inl (cI, 7, .inl (fun _ => 0)))] H := hP
                have hD : va_D A [(h0, .inr (9, [.ref ys, .ref yk, .ref yo, .ref yt, .int 0, .ref yfa, .ref yfe, .int 0, .int 0, .int 0, .ref yro, .ref yhe, .ref ygr, .int 0, .int 0, .int 0, .ref yta, .int 0, .int 0, .int 0, .int 0, .int 0, .ref ywa, .ref ybi, .ref ysi, .ref ynu, .ref ymo])), (ybi, .inl (cI, 4, .inl f_107)), (ysi, .inl (cI, 4, .inl f_109)), (ynu, .inl (cJ, 160, .inr (.inl (fun _ => 0)))), (yt, .inl (cI, 7, .inl (fun _ => 0)))] := hD
                refine lv_iconst (v := 0) hx hb dX9_sheet_83 (by decide) ?_
                refine lv_istore (lv' := [(4, .int 0), (0, .ref h0), (1, .int 3), (2, .int 16), (3, .int p2)]) hx hb dX9_sheet_84 hl (by decide) rfl (fun ls hl => ?_)
                suffices loop_111 : ∀ (n k_110 : Nat) (f9 : Nat → Int64) (H : Heap) (locs : List Loc) (ls : Array Slot), k_110 + n = 40 → va_P D vwCl [(h0, .inr (9, [.ref ys, .ref yk, .ref yo, .ref yt, .int 0, .ref yfa, .ref yfe, .int 0, .int 0, .int 0, .ref yro, .ref yhe, .ref ygr, .int 0, .int 0, .int 0, .ref yta, .int 0, .int 0, .int 0, .int 0, .int 0, .ref ywa, .ref ybi, .ref ysi, .ref ynu, .ref ymo])), (ybi, .inl (cI, 4, .inl f_107)), (ysi, .inl (cI, 4, .inl f_109)), (ynu, .inl (cJ, 160, .inr (.inl f9))), (yt, .inl (cI, 7, .inl (fun _ => 0)))] H → va_D A [(h0, .inr (9, [.ref ys, .ref yk, .ref yo, .ref yt, .int 0, .ref yfa, .ref yfe, .int 0, .int 0, .int 0, .ref yro, .ref yhe, .ref ygr, .int 0, .int 0, .int 0, .ref yta, .int 0, .int 0, .int 0, .int 0, .int 0, .ref ywa, .ref ybi, .ref ysi, .ref ynu, .ref ymo])), (ybi, .inl (cI, 4, .inl f_107)), (ysi, .inl (cI, 4, .inl f_109)), (ynu, .inl (cJ, 160, .inr (.inl f9))), (yt, .inl (cI, 7, .inl (fun _ => 0)))] → va_S A s.heap H locs → lv_has ls 5 [(4, .int (nI (k_110))), (0, .ref h0), (1, .int 3), (2, .int 16), (3, .int p2)] → W p l e ({ frames := 2, cells := 0, slots := 0, locals := 45 }) s m ([.ref h0, .int 3, .int 16, .int p2] : List Value).toArray below meth c H locs 0 0 (MQ below (XQi (fun (r : Int32) (_ : Unit) => r = a_sheet 3 16 p2) D (fun _ : Unit => []) A) ([.ref h0, .int 3, .int 16, .int p2] : List Value).toArray s 0 0 A) (F0 m 86 ls []) by
                  exact loop_111 40 0 (fun _ => 0) _ _ _ (by decide) hP hD hS (lv_sub hl [0, 1, 2, 3, 4] rfl)
                intro n
                induction n with
                | zero =>
                  intro k_110 f9 H locs ls hk hP hD hS hl 
                  have hk2 : k_110 = 40 := by omega
                  subst hk2
                  have hl : lv_has ls 5 [(4, .int 40), (0, .ref h0), (1, .int 3), (2, .int 16), (3, .int p2)] := hl
                  refine lv_iload hx hb dX9_sheet_86 (lv_at hl 0 rfl) ?_
                  refine lv_bipush (v := 40) hx hb dX9_sheet_88 (by decide) ?_
                  refine lv_icmp_ge (tgt := 112) hx hb dX9_sheet_90 (by decide) (fun c_112 => ?_) (fun c_112 => absurd (by decide) c_112)
                  refine lv_aload_n hx hb dX9_sheet_112 rfl (lv_at hl 1 rfl) ?_
                  refine xg hF kf_X9_46 hK hP 0 rfl rfl dX9_sheet_113 ?_
                  refine lv_iload_n hx hb dX9_sheet_116 rfl (lv_at hl 2 rfl) ?_
                  refine va_iald hx hb hK hP 2 0 rfl rfl (xin 3 4 (by decide) (by decide)) dX9_sheet_117 ?_
                  refine xl_i (y := f_109 3) (congrArg f_109 rfl) ?_
                  refine xl_i (y := p2) (by rw [ef_109]; rfl) ?_
                  exact W.iret (v := p2) hx hb hr (fun t ht hW => ⟨⟨p2, (), rfl, (p_sheet6 (by decide) (by decide) (by decide) (fun h => absurd c_81 (Int32.not_le.mpr h)) (fun h => absurd c_82 (Int32.not_le.mpr h)) (by decide)), by rw [ht]; exact hP.sub [] rfl, hD.sub [] (by decide) rfl⟩, hS.F ht⟩) hS.2.2 dX9_sheet_118 hlk
                | succ n ih =>
                  intro k_110 f9 H locs ls hk hP hD hS hl 
                  have hlt_k_110 : k_110 < 40 := by omega
                  refine lv_iload hx hb dX9_sheet_86 (lv_at hl 0 rfl) ?_
                  refine lv_bipush (v := 40) hx hb dX9_sheet_88 (by decide) ?_
                  refine lv_icmp_ge (tgt := 112) hx hb dX9_sheet_90 (by decide) (fun c_113 => absurd c_113 (nI_ge hlt_k_110 (by decide))) (fun c_113 => ?_)
                  refine lv_aload_n hx hb dX9_sheet_93 rfl (lv_at hl 1 rfl) ?_
                  refine xg hF kf_X9_49 hK hP 0 rfl rfl dX9_sheet_94 ?_
                  refine lv_bipush (v := 40) hx hb dX9_sheet_97 (by decide) ?_
                  refine lv_iload_n hx hb dX9_sheet_99 rfl (lv_at hl 2 rfl) ?_
                  refine lv_imul hx hb dX9_sheet_100 ?_
                  refine xl_i (y := 120) (by decide) ?_
                  refine lv_iload hx hb dX9_sheet_101 (lv_at hl 0 rfl) ?_
                  refine lv_iadd hx hb dX9_sheet_103 ?_
                  refine xl_i (y := nI (120 + k_110)) (nI_add 120 k_110) ?_
                  refine lv_lconst (v := 0) hx hb dX9_sheet_104 (by decide) ?_
                  refine va_last hx hb hK hP hD hS 3 1 rfl rfl (vp_in_nI (show 120 + k_110 < 160 by omega) (by decide)) dX9_sheet_105 (fun H locs hP hD hS => ?_)
                  obtain ⟨f_114, ef_114⟩ : ∃ g, g = vp_updL f9 (nI (120 + k_110)).toNatClampNeg 0 := ⟨_, rfl⟩
                  rw [← ef_114] at hP hD
                  have hP : va_P D vwCl [(h0, .inr (9, [.ref ys, .ref yk, .ref yo, .ref yt, .int 0, .ref yfa, .ref yfe, .int 0, .int 0, .int 0, .ref yro, .ref yhe, .ref ygr, .int 0, .int 0, .int 0, .ref yta, .int 0, .int 0, .int 0, .int 0, .int 0, .ref ywa, .ref ybi, .ref ysi, .ref ynu, .ref ymo])), (ybi, .inl (cI, 4, .inl f_107)), (ysi, .inl (cI, 4, .inl f_109)), (ynu, .inl (cJ, 160, .inr (.inl f_114))), (yt, .inl (cI, 7, .inl (fun _ => 0)))] H := hP
                  have hD : va_D A [(h0, .inr (9, [.ref ys, .ref yk, .ref yo, .ref yt, .int 0, .ref yfa, .ref yfe, .int 0, .int 0, .int 0, .ref yro, .ref yhe, .ref ygr, .int 0, .int 0, .int 0, .ref yta, .int 0, .int 0, .int 0, .int 0, .int 0, .ref ywa, .ref ybi, .ref ysi, .ref ynu, .ref ymo])), (ybi, .inl (cI, 4, .inl f_107)), (ysi, .inl (cI, 4, .inl f_109)), (ynu, .inl (cJ, 160, .inr (.inl f_114))), (yt, .inl (cI, 7, .inl (fun _ => 0)))] := hD
                  refine lv_iinc (v := nI (k_110 + 1)) (lv' := [(4, .int (nI (k_110 + 1))), (0, .ref h0), (1, .int 3), (2, .int 16), (3, .int p2)]) hx hb dX9_sheet_106 hl (k := 0) rfl (nI_1 (k_110)) (by decide) rfl (fun ls hl => ?_)
                  refine lv_goto (tgt := 86) hx hb dX9_sheet_109 (by decide) ?_
                  exact ih (k_110 + 1) f_114 _ _ _ (by omega) (hP.sub [0, 1, 2, 3, 4] rfl) (hD.sub [0, 1, 2, 3, 4] (by decide) rfl) hS (lv_sub hl [0, 1, 2, 3, 4] rfl)
            · skip
              refine lv_aload_n hx hb dX9_sheet_54 rfl (lv_at hl 0 rfl) ?_
              refine lv_ldc (v := (-1000000001)) hx hb hown (hu _ uw352) dX9_sheet_55 ?_
              refine xc_Vi (wr := [(ybi, .inl (cI, 4, .inl (fun _ => 0))), (ysi, .inl (cI, 4, .inl (fun _ => 0))), (ynu, .inl (cJ, 160, .inr (.inl (fun _ => 0))))]) hF (c_X9_finds_B l D cI cJ cZ cS sa s.heap.size h0 ys yk yo yt yfa yfe yro yhe ygr yta ywa ybi ysi ynu ymo 0 0 0 (fun _ => 0) ) kv_X9_70 ⟨rfl, rfl, Nat.le_of_ble_eq_true rfl, Nat.le_of_ble_eq_true rfl⟩ ⟨Nat.le_of_ble_eq_true rfl, Nat.le_of_ble_eq_true rfl⟩ hK hN hP hD hS hA [0, 4] [1, 2, 3] rfl rfl rfl rfl (by decide) 0 rfl rfl rfl rfl hl.1 rfl (Nat.le_of_ble_eq_true rfl) dX9_sheet_57 (fun r_115 u_r_115 H locs hw_r_115 hP hD hS => ?_)
              have hP : va_P D vwCl [(ybi, .inl (cI, 4, .inl (fun _ => 0))), (ysi, .inl (cI, 4, .inl (fun _ => 0))), (ynu, .inl (cJ, 160, .inr (.inl (fun _ => 0))))] H := hP
              have hD : va_D A [(ybi, .inl (cI, 4, .inl (fun _ => 0))), (ysi, .inl (cI, 4, .inl (fun _ => 0))), (ynu, .inl (cJ, 160, .inr (.inl (fun _ => 0))))] := hD
              subst hw_r_115
              exact W.iret (v := (-1000000001)) hx hb hr (fun t ht hW => ⟨⟨(-1000000001), (), rfl, (p_sheet4 h_2 h_3 (by decide) (fun h => absurd c_81 (Int32.not_le.mpr h)) (xlt c_82)), by rw [ht]; exact hP.sub [] rfl, hD.sub [] (by decide) rfl⟩, hS.F ht⟩) hS.2.2 dX9_sheet_60 hlk
          · skip
            refine lv_aload_n hx hb dX9_sheet_40 rfl (lv_at hl 0 rfl) ?_
            refine lv_ldcw (v := (-1000000007)) hx hb hown (hu _ uw466) dX9_sheet_41 ?_
            refine xc_Vi (wr := [(ybi, .inl (cI, 4, .inl (fun _ => 0))), (ysi, .inl (cI, 4, .inl (fun _ => 0))), (ynu, .inl (cJ, 160, .inr (.inl (fun _ => 0))))]) hF (c_X9_finds_S l D cI cJ cZ cS sa s.heap.size h0 ys yk yo yt yfa yfe yro yhe ygr yta ywa ybi ysi ynu ymo 0 0 0 (fun _ => 0) ) kv_X9_70 ⟨rfl, rfl, Nat.le_of_ble_eq_true rfl, Nat.le_of_ble_eq_true rfl⟩ ⟨Nat.le_of_ble_eq_true rfl, Nat.le_of_ble_eq_true rfl⟩ hK hN hP hD hS hA [0, 4] [1, 2, 3] rfl rfl rfl rfl (by decide) 0 rfl rfl rfl rfl hl.1 rfl (Nat.le_of_ble_eq_true rfl) dX9_sheet_44 (fun r_116 u_r_116 H locs hw_r_116 hP hD hS => ?_)
            have hP : va_P D vwCl [(ybi, .inl (cI, 4, .inl (fun _ => 0))), (ysi, .inl (cI, 4, .inl (fun _ => 0))), (ynu, .inl (cJ, 160, .inr (.inl (fun _ => 0))))] H := hP
            have hD : va_D A [(ybi, .inl (cI, 4, .inl (fun _ => 0))), (ysi, .inl (cI, 4, .inl (fun _ => 0))), (ynu, .inl (cJ, 160, .inr (.inl (fun _ => 0))))] := hD
            subst hw_r_116
            exact W.iret (v := (-1000000007)) hx hb hr (fun t ht hW => ⟨⟨(-1000000007), (), rfl, (p_sheet3 h_2 h_3 (by decide) (xlt c_81)), by rw [ht]; exact hP.sub [] rfl, hD.sub [] (by decide) rfl⟩, hS.F ht⟩) hS.2.2 dX9_sheet_47 hlk
        · skip
          refine lv_iload_n hx hb dX9_sheet_23 rfl (lv_at hl 2 rfl) ?_
          refine lv_bipush (v := 64) hx hb dX9_sheet_24 (by decide) ?_
          refine lv_icmp_eq (tgt := 36) hx hb dX9_sheet_26 (by decide) (fun c_117 => ?_) (fun c_117 => ?_)
          · skip
            subst c_117
            refine lv_iload_n hx hb dX9_sheet_36 rfl (lv_at hl 3 rfl) ?_
            refine lv_if_ge (tgt := 48) hx hb dX9_sheet_37 (by decide) (fun c_118 => ?_) (fun c_118 => ?_)
            · skip
              refine lv_iload_n hx hb dX9_sheet_48 rfl (lv_at hl 3 rfl) ?_
              refine lv_bipush (v := 40) hx hb dX9_sheet_49 (by decide) ?_
              refine lv_icmp_le (tgt := 61) hx hb dX9_sheet_51 (by decide) (fun c_119 => ?_) (fun c_119 => ?_)
              · skip
                rcases x_i4 h_2 h_3 with rfl | rfl | rfl | rfl
                · skip
                  refine lv_aload_n hx hb dX9_sheet_61 rfl (lv_at hl 0 rfl) ?_
                  refine xg hF kf_X9_43 hK hP 0 rfl rfl dX9_sheet_62 ?_
                  refine lv_iload_n hx hb dX9_sheet_65 rfl (lv_at hl 1 rfl) ?_
                  refine lv_iload_n hx hb dX9_sheet_66 rfl (lv_at hl 2 rfl) ?_
                  refine va_iast hx hb hK hP hD hS 1 0 rfl rfl (xin 0 4 (by decide) (by decide)) dX9_sheet_67 (fun H locs hP hD hS => ?_)
                  obtain ⟨f_120, ef_120⟩ : ∃ g, g = upd (fun _ => 0) (0 : Int32).toNatClampNeg 64 := ⟨_, rfl⟩
                  rw [← ef_120] at hP hD
                  have hP : va_P D vwCl [(h0, .inr (9, [.ref ys, .ref yk, .ref yo, .ref yt, .int 0, .ref yfa, .ref yfe, .int 0, .int 0, .int 0, .ref yro, .ref yhe, .ref ygr, .int 0, .int 0, .int 0, .ref yta, .int 0, .int 0, .int 0, .int 0, .int 0, .ref ywa, .ref ybi, .ref ysi, .ref ynu, .ref ymo])), (ybi, .inl (cI, 4, .inl f_120)), (ysi, .inl (cI, 4, .inl (fun _ => 0))), (ynu, .inl (cJ, 160, .inr (.inl (fun _ => 0)))), (yt, .inl (cI, 7, .inl (fun _ => 0)))] H := hP
                  have hD : va_D A [(h0, .inr (9, [.ref ys, .ref yk, .ref yo, .ref yt, .int 0, .ref yfa, .ref yfe, .int 0, .int 0, .int 0, .ref yro, .ref yhe, .ref ygr, .int 0, .int 0, .int 0, .ref yta, .int 0, .int 0, .int 0, .int 0, .int 0, .ref ywa, .ref ybi, .ref ysi, .ref ynu, .ref ymo])), (ybi, .inl (cI, 4, .inl f_120)), (ysi, .inl (cI, 4, .inl (fun _ => 0))), (ynu, .inl (cJ, 160, .inr (.inl (fun _ => 0)))), (yt, .inl (cI, 7, .inl (fun _ => 0)))] := hD
                  refine lv_aload_n hx hb dX9_sheet_68 rfl (lv_at hl 0 rfl) ?_
                  refine xg hF kf_X9_46 hK hP 0 rfl rfl dX9_sheet_69 ?_
                  refine lv_iload_n hx hb dX9_sheet_72 rfl (lv_at hl 1 rfl) ?_
                  refine lv_iload_n hx hb dX9_sheet_73 rfl (lv_at hl 2 rfl) ?_
                  refine lv_if_ne (tgt := 81) hx hb dX9_sheet_74 (by decide) (fun c_121 => ?_) (fun c_121 => absurd c_121 (by decide))
                  refine lv_iload_n hx hb dX9_sheet_81 rfl (lv_at hl 3 rfl) ?_
                  refine va_iast hx hb hK hP hD hS 2 0 rfl rfl (xin 0 4 (by decide) (by decide)) dX9_sheet_82 (fun H locs hP hD hS => ?_)
                  obtain ⟨f_122, ef_122⟩ : ∃ g, g = upd (fun _ => 0) (0 : Int32).toNatClampNeg p2 := ⟨_, rfl⟩
                  rw [← ef_122] at hP hD
                  have hP : va_P D vwCl [(h0, .inr (9, [.ref ys, .ref yk, .ref yo, .ref yt, .int 0, .ref yfa, .ref yfe, .int 0, .int 0, .int 0, .ref yro, .ref yhe, .ref ygr, .int 0, .int 0, .int 0, .ref yta, .int 0, .int 0, .int 0, .int 0, .int 0, .ref ywa, .ref ybi, .ref ysi, .ref ynu, .ref ymo])), (ybi, .inl (cI, 4, .inl f_120)), (ysi, .inl (cI, 4, .inl f_122)), (ynu, .inl (cJ, 160, .inr (.inl (fun _ => 0)))), (yt, .inl (cI, 7, .inl (fun _ => 0)))] H := hP
                  have hD : va_D A [(h0, .inr (9, [.ref ys, .ref yk, .ref yo, .ref yt, .int 0, .ref yfa, .ref yfe, .int 0, .int 0, .int 0, .ref yro, .ref yhe, .ref ygr, .int 0, .int 0, .int 0, .ref yta, .int 0, .int 0, .int 0, .int 0, .int 0, .ref ywa, .ref ybi, .ref ysi, .ref ynu, .ref ymo])), (ybi, .inl (cI, 4, .inl f_120)), (ysi, .inl (cI, 4, .inl f_122)), (ynu, .inl (cJ, 160, .inr (.inl (fun _ => 0)))), (yt, .inl (cI, 7, .inl (fun _ => 0)))] := hD
                  refine lv_iconst (v := 0) hx hb dX9_sheet_83 (by decide) ?_
                  refine lv_istore (lv' := [(4, .int 0), (0, .ref h0), (1, .int 0), (2, .int 64), (3, .int p2)]) hx hb dX9_sheet_84 hl (by decide) rfl (fun ls hl => ?_)
                  suffices loop_124 : ∀ (n k_123 : Nat) (f9 : Nat → Int64) (H : Heap) (locs : List Loc) (ls : Array Slot), k_123 + n = 40 → va_P D vwCl [(h0, .inr (9, [.ref ys, .ref yk, .ref yo, .ref yt, .int 0, .ref yfa, .ref yfe, .int 0, .int 0, .int 0, .ref yro, .ref yhe, .ref ygr, .int 0, .int 0, .int 0, .ref yta, .int 0, .int 0, .int 0, .int 0, .int 0, .ref ywa, .ref ybi, .ref ysi, .ref ynu, .ref ymo])), (ybi, .inl (cI, 4, .inl f_120)), (ysi, .inl (cI, 4, .inl f_122)), (ynu, .inl (cJ, 160, .inr (.inl f9))), (yt, .inl (cI, 7, .inl (fun _ => 0)))] H → va_D A [(h0, .inr (9, [.ref ys, .ref yk, .ref yo, .ref yt, .int 0, .ref yfa, .ref yfe, .int 0, .int 0, .int 0, .ref yro, .ref yhe, .ref ygr, .int 0, .int 0, .int 0, .ref yta, .int 0, .int 0, .int 0, .int 0, .int 0, .ref ywa, .ref ybi, .ref ysi, .ref ynu, .ref ymo])), (ybi, .inl (cI, 4, .inl f_120)), (ysi, .inl (cI, 4, .inl f_122)), (ynu, .inl (cJ, 160, .inr (.inl f9))), (yt, .inl (cI, 7, .inl (fun _ => 0)))] → va_S A s.heap H locs → lv_has ls 5 [(4, .int (nI (k_123))), (0, .ref h0), (1, .int 0), (2, .int 64), (3, .int p2)] → W p l e ({ frames := 2, cells := 0, slots := 0, locals := 45 }) s m ([.ref h0, .int 0, .int 64, .int p2] : List Value).toArray below meth c H locs 0 0 (MQ below (XQi (fun (r : Int32) (_ : Unit) => r = a_sheet 0 64 p2) D (fun _ : Unit => []) A) ([.ref h0, .int 0, .int 64, .int p2] : List Value).toArray s 0 0 A) (F0 m 86 ls []) by
                    exact loop_124 40 0 (fun _ => 0) _ _ _ (by decide) hP hD hS (lv_sub hl [0, 1, 2, 3, 4] rfl)
                  intro n
                  induction n with
                  | zero =>
                    intro k_123 f9 H locs ls hk hP hD hS hl 
                    have hk2 : k_123 = 40 := by omega
                    subst hk2
                    have hl : lv_has ls 5 [(4, .int 40), (0, .ref h0), (1, .int 0), (2, .int 64), (3, .int p2)] := hl
                    refine lv_iload hx hb dX9_sheet_86 (lv_at hl 0 rfl) ?_
                    refine lv_bipush (v := 40) hx hb dX9_sheet_88 (by decide) ?_
                    refine lv_icmp_ge (tgt := 112) hx hb dX9_sheet_90 (by decide) (fun c_125 => ?_) (fun c_125 => absurd (by decide) c_125)
                    refine lv_aload_n hx hb dX9_sheet_112 rfl (lv_at hl 1 rfl) ?_
                    refine xg hF kf_X9_46 hK hP 0 rfl rfl dX9_sheet_113 ?_
                    refine lv_iload_n hx hb dX9_sheet_116 rfl (lv_at hl 2 rfl) ?_
                    refine va_iald hx hb hK hP 2 0 rfl rfl (xin 0 4 (by decide) (by decide)) dX9_sheet_117 ?_
                    refine xl_i (y := f_122 0) (congrArg f_122 rfl) ?_
                    refine xl_i (y := p2) (by rw [ef_122]; rfl) ?_
                    exact W.iret (v := p2) hx hb hr (fun t ht hW => ⟨⟨p2, (), rfl, (p_sheet6 (by decide) (by decide) (by decide) (fun h => absurd c_118 (Int32.not_le.mpr h)) (fun h => absurd c_119 (Int32.not_le.mpr h)) (by decide)), by rw [ht]; exact hP.sub [] rfl, hD.sub [] (by decide) rfl⟩, hS.F ht⟩) hS.2.2 dX9_sheet_118 hlk
                  | succ n ih =>
                    intro k_123 f9 H locs ls hk hP hD hS hl 
                    have hlt_k_123 : k_123 < 40 := by omega
                    refine lv_iload hx hb dX9_sheet_86 (lv_at hl 0 rfl) ?_
                    refine lv_bipush (v := 40) hx hb dX9_sheet_88 (by decide) ?_
                    refine lv_icmp_ge (tgt := 112) hx hb dX9_sheet_90 (by decide) (fun c_126 => absurd c_126 (nI_ge hlt_k_123 (by decide))) (fun c_126 => ?_)
                    refine lv_aload_n hx hb dX9_sheet_93 rfl (lv_at hl 1 rfl) ?_
                    refine xg hF kf_X9_49 hK hP 0 rfl rfl dX9_sheet_94 ?_
                    refine lv_bipush (v := 40) hx hb dX9_sheet_97 (by decide) ?_
                    refine lv_iload_n hx hb dX9_sheet_99 rfl (lv_at hl 2 rfl) ?_
                    refine lv_imul hx hb dX9_sheet_100 ?_
                    refine xl_i (y := 0) (by decide) ?_
                    refine lv_iload hx hb dX9_sheet_101 (lv_at hl 0 rfl) ?_
                    refine lv_iadd hx hb dX9_sheet_103 ?_
                    refine xl_i (y := nI (0 + k_123)) (nI_add 0 k_123) ?_
                    refine lv_lconst (v := 0) hx hb dX9_sheet_104 (by decide) ?_
                    refine va_last hx hb hK hP hD hS 3 1 rfl rfl (vp_in_nI (show 0 + k_123 < 160 by omega) (by decide)) dX9_sheet_105 (fun H locs hP hD hS => ?_)
                    obtain ⟨f_127, ef_127⟩ : ∃ g, g = vp_updL f9 (nI (0 + k_123)).toNatClampNeg 0 := ⟨_, rfl⟩
                    rw [← ef_127] at hP hD
                    have hP : va_P D vwCl [(h0, .inr (9, [.ref ys, .ref yk, .ref yo, .ref yt, .int 0, .ref yfa, .ref yfe, .int 0, .int 0, .int 0, .ref yro, .ref yhe, .ref ygr, .int 0, .int 0, .int 0, .ref yta, .int 0, .int 0, .int 0, .int 0, .int 0, .ref ywa, .ref ybi, .ref ysi, .ref ynu, .ref ymo])), (ybi, .inl (cI, 4, .inl f_120)), (ysi, .inl (cI, 4, .inl f_122)), (ynu, .inl (cJ, 160, .inr (.inl f_127))), (yt, .inl (cI, 7, .inl (fun _ => 0)))] H := hP
                    have hD : va_D A [(h0, .inr (9, [.ref ys, .ref yk, .ref yo, .ref yt, .int 0, .ref yfa, .ref yfe, .int 0, .int 0, .int 0, .ref yro, .ref yhe, .ref ygr, .int 0, .int 0, .int 0, .ref yta, .int 0, .int 0, .int 0, .int 0, .int 0, .ref ywa, .ref ybi, .ref ysi, .ref ynu, .ref ymo])), (ybi, .inl (cI, 4, .inl f_120)), (ysi, .inl (cI, 4, .inl f_122)), (ynu, .inl (cJ, 160, .inr (.inl f_127))), (yt, .inl (cI, 7, .inl (fun _ => 0)))] := hD
                    refine lv_iinc (v := nI (k_123 + 1)) (lv' := [(4, .int (nI (k_123 + 1))), (0, .ref h0), (1, .int 0), (2, .int 64), (3, .int p2)]) hx hb dX9_sheet_106 hl (k := 0) rfl (nI_1 (k_123)) (by decide) rfl (fun ls hl => ?_)
                    refine lv_goto (tgt := 86) hx hb dX9_sheet_109 (by decide) ?_
                    exact ih (k_123 + 1) f_127 _ _ _ (by omega) (hP.sub [0, 1, 2, 3, 4] rfl) (hD.sub [0, 1, 2, 3, 4] (by decide) rfl) hS (lv_sub hl [0, 1, 2, 3, 4] rfl)
                · skip
                  refine lv_aload_n hx hb dX9_sheet_61 rfl (lv_at hl 0 rfl) ?_
                  refine xg hF kf_X9_43 hK hP 0 rfl rfl dX9_sheet_62 ?_
                  refine lv_iload_n hx hb dX9_sheet_65 rfl (lv_at hl 1 rfl) ?_
                  refine lv_iload_n hx hb dX9_sheet_66 rfl (lv_at hl 2 rfl) ?_
                  refine va_iast hx hb hK hP hD hS 1 0 rfl rfl (xin 1 4 (by decide) (by decide)) dX9_sheet_67 (fun H locs hP hD hS => ?_)
                  obtain ⟨f_128, ef_128⟩ : ∃ g, g = upd (fun _ => 0) (1 : Int32).toNatClampNeg 64 := ⟨_, rfl⟩
                  rw [← ef_128] at hP hD
                  have hP : va_P D vwCl [(h0, .inr (9, [.ref ys, .ref yk, .ref yo, .ref yt, .int 0, .ref yfa, .ref yfe, .int 0, .int 0, .int 0, .ref yro, .ref yhe, .ref ygr, .int 0, .int 0, .int 0, .ref yta, .int 0, .int 0, .int 0, .int 0, .int 0, .ref ywa, .ref ybi, .ref ysi, .ref ynu, .ref ymo])), (ybi, .inl (cI, 4, .inl f_128)), (ysi, .inl (cI, 4, .inl (fun _ => 0))), (ynu, .inl (cJ, 160, .inr (.inl (fun _ => 0)))), (yt, .inl (cI, 7, .inl (fun _ => 0)))] H := hP
                  have hD : va_D A [(h0, .inr (9, [.ref ys, .ref yk, .ref yo, .ref yt, .int 0, .ref yfa, .ref yfe, .int 0, .int 0, .int 0, .ref yro, .ref yhe, .ref ygr, .int 0, .int 0, .int 0, .ref yta, .int 0, .int 0, .int 0, .int 0, .int 0, .ref ywa, .ref ybi, .ref ysi, .ref ynu, .ref ymo])), (ybi, .inl (cI, 4, .inl f_128)), (ysi, .inl (cI, 4, .inl (fun _ => 0))), (ynu, .inl (cJ, 160, .inr (.inl (fun _ => 0)))), (yt, .inl (cI, 7, .inl (fun _ => 0)))] := hD
                  refine lv_aload_n hx hb dX9_sheet_68 rfl (lv_at hl 0 rfl) ?_
                  refine xg hF kf_X9_46 hK hP 0 rfl rfl dX9_sheet_69 ?_
                  refine lv_iload_n hx hb dX9_sheet_72 rfl (lv_at hl 1 rfl) ?_
                  refine lv_iload_n hx hb dX9_sheet_73 rfl (lv_at hl 2 rfl) ?_
                  refine lv_if_ne (tgt := 81) hx hb dX9_sheet_74 (by decide) (fun c_129 => ?_) (fun c_129 => absurd c_129 (by decide))
                  refine lv_iload_n hx hb dX9_sheet_81 rfl (lv_at hl 3 rfl) ?_
                  refine va_iast hx hb hK hP hD hS 2 0 rfl rfl (xin 1 4 (by decide) (by decide)) dX9_sheet_82 (fun H locs hP hD hS => ?_)
                  obtain ⟨f_130, ef_130⟩ : ∃ g, g = upd (fun _ => 0) (1 : Int32).toNatClampNeg p2 := ⟨_, rfl⟩
                  rw [← ef_130] at hP hD
                  have hP : va_P D vwCl [(h0, .inr (9, [.ref ys, .ref yk, .ref yo, .ref yt, .int 0, .ref yfa, .ref yfe, .int 0, .int 0, .int 0, .ref yro, .ref yhe, .ref ygr, .int 0, .int 0, .int 0, .ref yta, .int 0, .int 0, .int 0, .int 0, .int 0, .ref ywa, .ref ybi, .ref ysi, .ref ynu, .ref ymo])), (ybi, .inl (cI, 4, .inl f_128)), (ysi, .inl (cI, 4, .inl f_130)), (ynu, .inl (cJ, 160, .inr (.inl (fun _ => 0)))), (yt, .inl (cI, 7, .inl (fun _ => 0)))] H := hP
                  have hD : va_D A [(h0, .inr (9, [.ref ys, .ref yk, .ref yo, .ref yt, .int 0, .ref yfa, .ref yfe, .int 0, .int 0, .int 0, .ref yro, .ref yhe, .ref ygr, .int 0, .int 0, .int 0, .ref yta, .int 0, .int 0, .int 0, .int 0, .int 0, .ref ywa, .ref ybi, .ref ysi, .ref ynu, .ref ymo])), (ybi, .inl (cI, 4, .inl f_128)), (ysi, .inl (cI, 4, .inl f_130)), (ynu, .inl (cJ, 160, .inr (.inl (fun _ => 0)))), (yt, .inl (cI, 7, .inl (fun _ => 0)))] := hD
                  refine lv_iconst (v := 0) hx hb dX9_sheet_83 (by decide) ?_
                  refine lv_istore (lv' := [(4, .int 0), (0, .ref h0), (1, .int 1), (2, .int 64), (3, .int p2)]) hx hb dX9_sheet_84 hl (by decide) rfl (fun ls hl => ?_)
                  suffices loop_132 : ∀ (n k_131 : Nat) (f9 : Nat → Int64) (H : Heap) (locs : List Loc) (ls : Array Slot), k_131 + n = 40 → va_P D vwCl [(h0, .inr (9, [.ref ys, .ref yk, .ref yo, .ref yt, .int 0, .ref yfa, .ref yfe, .int 0, .int 0, .int 0, .ref yro, .ref yhe, .ref ygr, .int 0, .int 0, .int 0, .ref yta, .int 0, .int 0, .int 0, .int 0, .int 0, .ref ywa, .ref ybi, .ref ysi, .ref ynu, .ref ymo])), (ybi, .inl (cI, 4, .inl f_128)), (ysi, .inl (cI, 4, .inl f_130)), (ynu, .inl (cJ, 160, .inr (.inl f9))), (yt, .inl (cI, 7, .inl (fun _ => 0)))] H → va_D A [(h0, .inr (9, [.ref ys, .ref yk, .ref yo, .ref yt, .int 0, .ref yfa, .ref yfe, .int 0, .int 0, .int 0, .ref yro, .ref yhe, .ref ygr, .int 0, .int 0, .int 0, .ref yta, .int 0, .int 0, .int 0, .int 0, .int 0, .ref ywa, .ref ybi, .ref ysi, .ref ynu, .ref ymo])), (ybi, .inl (cI, 4, .inl f_128)), (ysi, .inl (cI, 4, .inl f_130)), (ynu, .inl (cJ, 160, .inr (.inl f9))), (yt, .inl (cI, 7, .inl (fun _ => 0)))] → va_S A s.heap H locs → lv_has ls 5 [(4, .int (nI (k_131))), (0, .ref h0), (1, .int 1), (2, .int 64), (3, .int p2)] → W p l e ({ frames := 2, cells := 0, slots := 0, locals := 45 }) s m ([.ref h0, .int 1, .int 64, .int p2] : List Value).toArray below meth c H locs 0 0 (MQ below (XQi (fun (r : Int32) (_ : Unit) => r = a_sheet 1 64 p2) D (fun _ : Unit => []) A) ([.ref h0, .int 1, .int 64, .int p2] : List Value).toArray s 0 0 A) (F0 m 86 ls []) by
                    exact loop_132 40 0 (fun _ => 0) _ _ _ (by decide) hP hD hS (lv_sub hl [0, 1, 2, 3, 4] rfl)
                  intro n
                  induction n with
                  | zero =>
                    intro k_131 f9 H locs ls hk hP hD hS hl 
                    have hk2 : k_131 = 40 := by omega
                    subst hk2
                    have hl : lv_has ls 5 [(4, .int 40), (0, .ref h0), (1, .int 1), (2, .int 64), (3, .int p2)] := hl
                    refine lv_iload hx hb dX9_sheet_86 (lv_at hl 0 rfl) ?_
                    refine lv_bipush (v := 40) hx hb dX9_sheet_88 (by decide) ?_
                    refine lv_icmp_ge (tgt := 112) hx hb dX9_sheet_90 (by decide) (fun c_133 => ?_) (fun c_133 => absurd (by decide) c_133)
                    refine lv_aload_n hx hb dX9_sheet_112 rfl (lv_at hl 1 rfl) ?_
                    refine xg hF kf_X9_46 hK hP 0 rfl rfl dX9_sheet_113 ?_
                    refine lv_iload_n hx hb dX9_sheet_116 rfl (lv_at hl 2 rfl) ?_
                    refine va_iald hx hb hK hP 2 0 rfl rfl (xin 1 4 (by decide) (by decide)) dX9_sheet_117 ?_
                    refine xl_i (y := f_130 1) (congrArg f_130 rfl) ?_
                    refine xl_i (y := p2) (by rw [ef_130]; rfl) ?_
                    exact W.iret (v := p2) hx hb hr (fun t ht hW => ⟨⟨p2, (), rfl, (p_sheet6 (by decide) (by decide) (by decide) (fun h => absurd c_118 (Int32.not_le.mpr h)) (fun h => absurd c_119 (Int32.not_le.mpr h)) (by decide)), by rw [ht]; exact hP.sub [] rfl, hD.sub [] (by decide) rfl⟩, hS.F ht⟩) hS.2.2 dX9_sheet_118 hlk
                  | succ n ih =>
                    intro k_131 f9 H locs ls hk hP hD hS hl 
                    have hlt_k_131 : k_131 < 40 := by omega
                    refine lv_iload hx hb dX9_sheet_86 (lv_at hl 0 rfl) ?_
                    refine lv_bipush (v := 40) hx hb dX9_sheet_88 (by decide) ?_
                    refine lv_icmp_ge (tgt := 112) hx hb dX9_sheet_90 (by decide) (fun c_134 => absurd c_134 (nI_ge hlt_k_131 (by decide))) (fun c_134 => ?_)
                    refine lv_aload_n hx hb dX9_sheet_93 rfl (lv_at hl 1 rfl) ?_
                    refine xg hF kf_X9_49 hK hP 0 rfl rfl dX9_sheet_94 ?_
                    refine lv_bipush (v := 40) hx hb dX9_sheet_97 (by decide) ?_
                    refine lv_iload_n hx hb dX9_sheet_99 rfl (lv_at hl 2 rfl) ?_
                    refine lv_imul hx hb dX9_sheet_100 ?_
                    refine xl_i (y := 40) (by decide) ?_
                    refine lv_iload hx hb dX9_sheet_101 (lv_at hl 0 rfl) ?_
                    refine lv_iadd hx hb dX9_sheet_103 ?_
                    refine xl_i (y := nI (40 + k_131)) (nI_add 40 k_131) ?_
                    refine lv_lconst (v := 0) hx hb dX9_sheet_104 (by decide) ?_
                    refine va_last hx hb hK hP hD hS 3 1 rfl rfl (vp_in_nI (show 40 + k_131 < 160 by omega) (by decide)) dX9_sheet_105 (fun H locs hP hD hS => ?_)
                    obtain ⟨f_135, ef_135⟩ : ∃ g, g = vp_updL f9 (nI (40 + k_131)).toNatClampNeg 0 := ⟨_, rfl⟩
                    rw [← ef_135] at hP hD
                    have hP : va_P D vwCl [(h0, .inr (9, [.ref ys, .ref yk, .ref yo, .ref yt, .int 0, .ref yfa, .ref yfe, .int 0, .int 0, .int 0, .ref yro, .ref yhe, .ref ygr, .int 0, .int 0, .int 0, .ref yta, .int 0, .int 0, .int 0, .int 0, .int 0, .ref ywa, .ref ybi, .ref ysi, .ref ynu, .ref ymo])), (ybi, .inl (cI, 4, .inl f_128)), (ysi, .inl (cI, 4, .inl f_130)), (ynu, .inl (cJ, 160, .inr (.inl f_135))), (yt, .inl (cI, 7, .inl (fun _ => 0)))] H := hP
                    have hD : va_D A [(h0, .inr (9, [.ref ys, .ref yk, .ref yo, .ref yt, .int 0, .ref yfa, .ref yfe, .int 0, .int 0, .int 0, .ref yro, .ref yhe, .ref ygr, .int 0, .int 0, .int 0, .ref yta, .int 0, .int 0, .int 0, .int 0, .int 0, .ref ywa, .ref ybi, .ref ysi, .ref ynu, .ref ymo])), (ybi, .inl (cI, 4, .inl f_128)), (ysi, .inl (cI, 4, .inl f_130)), (ynu, .inl (cJ, 160, .inr (.inl f_135))), (yt, .inl (cI, 7, .inl (fun _ => 0)))] := hD
                    refine lv_iinc (v := nI (k_131 + 1)) (lv' := [(4, .int (nI (k_131 + 1))), (0, .ref h0), (1, .int 1), (2, .int 64), (3, .int p2)]) hx hb dX9_sheet_106 hl (k := 0) rfl (nI_1 (k_131)) (by decide) rfl (fun ls hl => ?_)
                    refine lv_goto (tgt := 86) hx hb dX9_sheet_109 (by decide) ?_
                    exact ih (k_131 + 1) f_135 _ _ _ (by omega) (hP.sub [0, 1, 2, 3, 4] rfl) (hD.sub [0, 1, 2, 3, 4] (by decide) rfl) hS (lv_sub hl [0, 1, 2, 3, 4] rfl)
                · skip
                  refine lv_aload_n hx hb dX9_sheet_61 rfl (lv_at hl 0 rfl) ?_
                  refine xg hF kf_X9_43 hK hP 0 rfl rfl dX9_sheet_62 ?_
                  refine lv_iload_n hx hb dX9_sheet_65 rfl (lv_at hl 1 rfl) ?_
                  refine lv_iload_n hx hb dX9_sheet_66 rfl (lv_at hl 2 rfl) ?_
                  refine va_iast hx hb hK hP hD hS 1 0 rfl rfl (xin 2 4 (by decide) (by decide)) dX9_sheet_67 (fun H locs hP hD hS => ?_)
                  obtain ⟨f_136, ef_136⟩ : ∃ g, g = upd (fun _ => 0) (2 : Int32).toNatClampNeg 64 := ⟨_, rfl⟩
                  rw [← ef_136] at hP hD
                  have hP : va_P D vwCl [(h0, .inr (9, [.ref ys, .ref yk, .ref yo, .ref yt, .int 0, .ref yfa, .ref yfe, .int 0, .int 0, .int 0, .ref yro, .ref yhe, .ref ygr, .int 0, .int 0, .int 0, .ref yta, .int 0, .int 0, .int 0, .int 0, .int 0, .ref ywa, .ref ybi, .ref ysi, .ref ynu, .ref ymo])), (ybi, .inl (cI, 4, .inl f_136)), (ysi, .inl (cI, 4, .inl (fun _ => 0))), (ynu, .inl (cJ, 160, .inr (.inl (fun _ => 0)))), (yt, .inl (cI, 7, .inl (fun _ => 0)))] H := hP
                  have hD : va_D A [(h0, .inr (9, [.ref ys, .ref yk, .ref yo, .ref yt, .int 0, .ref yfa, .ref yfe, .int 0, .int 0, .int 0, .ref yro, .ref yhe, .ref ygr, .int 0, .int 0, .int 0, .ref yta, .int 0, .int 0, .int 0, .int 0, .int 0, .ref ywa, .ref ybi, .ref ysi, .ref ynu, .ref ymo])), (ybi, .inl (cI, 4, .inl f_136)), (ysi, .inl (cI, 4, .inl (fun _ => 0))), (ynu, .inl (cJ, 160, .inr (.inl (fun _ => 0)))), (yt, .inl (cI, 7, .inl (fun _ => 0)))] := hD
                  refine lv_aload_n hx hb dX9_sheet_68 rfl (lv_at hl 0 rfl) ?_
                  refine xg hF kf_X9_46 hK hP 0 rfl rfl dX9_sheet_69 ?_
                  refine lv_iload_n hx hb dX9_sheet_72 rfl (lv_at hl 1 rfl) ?_
                  refine lv_iload_n hx hb dX9_sheet_73 rfl (lv_at hl 2 rfl) ?_
                  refine lv_if_ne (tgt := 81) hx hb dX9_sheet_74 (by decide) (fun c_137 => ?_) (fun c_137 => absurd c_137 (by decide))
                  refine lv_iload_n hx hb dX9_sheet_81 rfl (lv_at hl 3 rfl) ?_
                  refine va_iast hx hb hK hP hD hS 2 0 rfl rfl (xin 2 4 (by decide) (by decide)) dX9_sheet_82 (fun H locs hP hD hS => ?_)
                  obtain ⟨f_138, ef_138⟩ : ∃ g, g = upd (fun _ => 0) (2 : Int32).toNatClampNeg p2 := ⟨_, rfl⟩
                  rw [← ef_138] at hP hD
                  have hP : va_P D vwCl [(h0, .inr (9, [.ref ys, .ref yk, .ref yo, .ref yt, .int 0, .ref yfa, .ref yfe, .int 0, .int 0, .int 0, .ref yro, .ref yhe, .ref ygr, .int 0, .int 0, .int 0, .ref yta, .int 0, .int 0, .int 0, .int 0, .int 0, .ref ywa, .ref ybi, .ref ysi, .ref ynu, .ref ymo])), (ybi, .inl (cI, 4, .inl f_136)), (ysi, .inl (cI, 4, .inl f_138)), (ynu, .inl (cJ, 160, .inr (.inl (fun _ => 0)))), (yt, .inl (cI, 7, .inl (fun _ => 0)))] H := hP
                  have hD : va_D A [(h0, .inr (9, [.ref ys, .ref yk, .ref yo, .ref yt, .int 0, .ref yfa, .ref yfe, .int 0, .int 0, .int 0, .ref yro, .ref yhe, .ref ygr, .int 0, .int 0, .int 0, .ref yta, .int 0, .int 0, .int 0, .int 0, .int 0, .ref ywa, .ref ybi, .ref ysi, .ref ynu, .ref ymo])), (ybi, .inl (cI, 4, .inl f_136)), (ysi, .inl (cI, 4, .inl f_138)), (ynu, .inl (cJ, 160, .inr (.inl (fun _ => 0)))), (yt, .inl (cI, 7, .inl (fun _ => 0)))] := hD
                  refine lv_iconst (v := 0) hx hb dX9_sheet_83 (by decide) ?_
                  refine lv_istore (lv' := [(4, .int 0), (0, .ref h0), (1, .int 2), (2, .int 64), (3, .int p2)]) hx hb dX9_sheet_84 hl (by decide) rfl (fun ls hl => ?_)
                  suffices loop_140 : ∀ (n k_139 : Nat) (f9 : Nat → Int64) (H : Heap) (locs : List Loc) (ls : Array Slot), k_139 + n = 40 → va_P D vwCl [(h0, .inr (9, [.ref ys, .ref yk, .ref yo, .ref yt, .int 0, .ref yfa, .ref yfe, .int 0, .int 0, .int 0, .ref yro, .ref yhe, .ref ygr, .int 0, .int 0, .int 0, .ref yta, .int 0, .int 0, .int 0, .int 0, .int 0, .ref ywa, .ref ybi, .ref ysi, .ref ynu, .ref ymo])), (ybi, .inl (cI, 4, .inl f_136)), (ysi, .inl (cI, 4, .inl f_138)), (ynu, .inl (cJ, 160, .inr (.inl f9))), (yt, .inl (cI, 7, .inl (fun _ => 0)))] H → va_D A [(h0, .inr (9, [.ref ys, .ref yk, .ref yo, .ref yt, .int 0, .ref yfa, .ref yfe, .int 0, .int 0, .int 0, .ref yro, .ref yhe, .ref ygr, .int 0, .int 0, .int 0, .ref yta, .int 0, .int 0, .int 0, .int 0, .int 0, .ref ywa, .ref ybi, .ref ysi, .ref ynu, .ref ymo])), (ybi, .inl (cI, 4, .inl f_136)), (ysi, .inl (cI, 4, .inl f_138)), (ynu, .inl (cJ, 160, .inr (.inl f9))), (yt, .inl (cI, 7, .inl (fun _ => 0)))] → va_S A s.heap H locs → lv_has ls 5 [(4, .int (nI (k_139))), (0, .ref h0), (1, .int 2), (2, .int 64), (3, .int p2)] → W p l e ({ frames := 2, cells := 0, slots := 0, locals := 45 }) s m ([.ref h0, .int 2, .int 64, .int p2] : List Value).toArray below meth c H locs 0 0 (MQ below (XQi (fun (r : Int32) (_ : Unit) => r = a_sheet 2 64 p2) D (fun _ : Unit => []) A) ([.ref h0, .int 2, .int 64, .int p2] : List Value).toArray s 0 0 A) (F0 m 86 ls []) by
                    exact loop_140 40 0 (fun _ => 0) _ _ _ (by decide) hP hD hS (lv_sub hl [0, 1, 2, 3, 4] rfl)
                  intro n
                  induction n with
                  | zero =>
                    intro k_139 f9 H locs ls hk hP hD hS hl 
                    have hk2 : k_139 = 40 := by omega
                    subst hk2
                    have hl : lv_has ls 5 [(4, .int 40), (0, .ref h0), (1, .int 2), (2, .int 64), (3, .int p2)] := hl
                    refine lv_iload hx hb dX9_sheet_86 (lv_at hl 0 rfl) ?_
                    refine lv_bipush (v := 40) hx hb dX9_sheet_88 (by decide) ?_
                    refine lv_icmp_ge (tgt := 112) hx hb dX9_sheet_90 (by decide) (fun c_141 => ?_) (fun c_141 => absurd (by decide) c_141)
                    refine lv_aload_n hx hb dX9_sheet_112 rfl (lv_at hl 1 rfl) ?_
                    refine xg hF kf_X9_46 hK hP 0 rfl rfl dX9_sheet_113 ?_
                    refine lv_iload_n hx hb dX9_sheet_116 rfl (lv_at hl 2 rfl) ?_
                    refine va_iald hx hb hK hP 2 0 rfl rfl (xin 2 4 (by decide) (by decide)) dX9_sheet_117 ?_
                    refine xl_i (y := f_138 2) (congrArg f_138 rfl) ?_
                    refine xl_i (y := p2) (by rw [ef_138]; rfl) ?_
                    exact W.iret (v := p2) hx hb hr (fun t ht hW => ⟨⟨p2, (), rfl, (p_sheet6 (by decide) (by decide) (by decide) (fun h => absurd c_118 (Int32.not_le.mpr h)) (fun h => absurd c_119 (Int32.not_le.mpr h)) (by decide)), by rw [ht]; exact hP.sub [] rfl, hD.sub [] (by decide) rfl⟩, hS.F ht⟩) hS.2.2 dX9_sheet_118 hlk
                  | succ n ih =>
                    intro k_139 f9 H locs ls hk hP hD hS hl 
                    have hlt_k_139 : k_139 < 40 := by omega
                    refine lv_iload hx hb dX9_sheet_86 (lv_at hl 0 rfl) ?_
                    refine lv_bipush (v := 40) hx hb dX9_sheet_88 (by decide) ?_
                    refine lv_icmp_ge (tgt := 112) hx hb dX9_sheet_90 (by decide) (fun c_142 => absurd c_142 (nI_ge hlt_k_139 (by decide))) (fun c_142 => ?_)
                    refine lv_aload_n hx hb dX9_sheet_93 rfl (lv_at hl 1 rfl) ?_
                    refine xg hF kf_X9_49 hK hP 0 rfl rfl dX9_sheet_94 ?_
                    refine lv_bipush (v := 40) hx hb dX9_sheet_97 (by decide) ?_
                    refine lv_iload_n hx hb dX9_sheet_99 rfl (lv_at hl 2 rfl) ?_
                    refine lv_imul hx hb dX9_sheet_100 ?_
                    refine xl_i (y := 80) (by decide) ?_
                    refine lv_iload hx hb dX9_sheet_101 (lv_at hl 0 rfl) ?_
                    refine lv_iadd hx hb dX9_sheet_103 ?_
                    refine xl_i (y := nI (80 + k_139)) (nI_add 80 k_139) ?_
                    refine lv_lconst (v := 0) hx hb dX9_sheet_104 (by decide) ?_
                    refine va_last hx hb hK hP hD hS 3 1 rfl rfl (vp_in_nI (show 80 + k_139 < 160 by omega) (by decide)) dX9_sheet_105 (fun H locs hP hD hS => ?_)
                    obtain ⟨f_143, ef_143⟩ : ∃ g, g = vp_updL f9 (nI (80 + k_139)).toNatClampNeg 0 := ⟨_, rfl⟩
                    rw [← ef_143] at hP hD
                    have hP : va_P D vwCl [(h0, .inr (9, [.ref ys, .ref yk, .ref yo, .ref yt, .int 0, .ref yfa, .ref yfe, .int 0, .int 0, .int 0, .ref yro, .ref yhe, .ref ygr, .int 0, .int 0, .int 0, .ref yta, .int 0, .int 0, .int 0, .int 0, .int 0, .ref ywa, .ref ybi, .ref ysi, .ref ynu, .ref ymo])), (ybi, .inl (cI, 4, .inl f_136)), (ysi, .inl (cI, 4, .inl f_138)), (ynu, .inl (cJ, 160, .inr (.inl f_143))), (yt, .inl (cI, 7, .inl (fun _ => 0)))] H := hP
                    have hD : va_D A [(h0, .inr (9, [.ref ys, .ref yk, .ref yo, .ref yt, .int 0, .ref yfa, .ref yfe, .int 0, .int 0, .int 0, .ref yro, .ref yhe, .ref ygr, .int 0, .int 0, .int 0, .ref yta, .int 0, .int 0, .int 0, .int 0, .int 0, .ref ywa, .ref ybi, .ref ysi, .ref ynu, .ref ymo])), (ybi, .inl (cI, 4, .inl f_136)), (ysi, .inl (cI, 4, .inl f_138)), (ynu, .inl (cJ, 160, .inr (.inl f_143))), (yt, .inl (cI, 7, .inl (fun _ => 0)))] := hD
                    refine lv_iinc (v := nI (k_139 + 1)) (lv' := [(4, .int (nI (k_139 + 1))), (0, .ref h0), (1, .int 2), (2, .int 64), (3, .int p2)]) hx hb dX9_sheet_106 hl (k := 0) rfl (nI_1 (k_139)) (by decide) rfl (fun ls hl => ?_)
                    refine lv_goto (tgt := 86) hx hb dX9_sheet_109 (by decide) ?_
                    exact ih (k_139 + 1) f_143 _ _ _ (by omega) (hP.sub [0, 1, 2, 3, 4] rfl) (hD.sub [0, 1, 2, 3, 4] (by decide) rfl) hS (lv_sub hl [0, 1, 2, 3, 4] rfl)
                · skip
                  refine lv_aload_n hx hb dX9_sheet_61 rfl (lv_at hl 0 rfl) ?_
                  refine xg hF kf_X9_43 hK hP 0 rfl rfl dX9_sheet_62 ?_
                  refine lv_iload_n hx hb dX9_sheet_65 rfl (lv_at hl 1 rfl) ?_
                  refine lv_iload_n hx hb dX9_sheet_66 rfl (lv_at hl 2 rfl) ?_
                  refine va_iast hx hb hK hP hD hS 1 0 rfl rfl (xin 3 4 (by decide) (by decide)) dX9_sheet_67 (fun H locs hP hD hS => ?_)
                  obtain ⟨f_144, ef_144⟩ : ∃ g, g = upd (fun _ => 0) (3 : Int32).toNatClampNeg 64 := ⟨_, rfl⟩
                  rw [← ef_144] at hP hD
                  have hP : va_P D vwCl [(h0, .inr (9, [.ref ys, .ref yk, .ref yo, .ref yt, .int 0, .ref yfa, .ref yfe, .int 0, .int 0, .int 0, .ref yro, .ref yhe, .ref ygr, .int 0, .int 0, .int 0, .ref yta, .int 0, .int 0, .int 0, .int 0, .int 0, .ref ywa, .ref ybi, .ref ysi, .ref ynu, .ref ymo])), (ybi, .inl (cI, 4, .inl f_144)), (ysi, .inl (cI, 4, .inl (fun _ => 0))), (ynu, .inl (cJ, 160, .inr (.inl (fun _ => 0)))), (yt, .inl (cI, 7, .inl (fun _ => 0)))] H := hP
                  have hD : va_D A [(h0, .inr (9, [.ref ys, .ref yk, .ref yo, .ref yt, .int 0, .ref yfa, .ref yfe, .int 0, .int 0, .int 0, .ref yro, .ref yhe, .ref ygr, .int 0, .int 0, .int 0, .ref yta, .int 0, .int 0, .int 0, .int 0, .int 0, .ref ywa, .ref ybi, .ref ysi, .ref ynu, .ref ymo])), (ybi, .inl (cI, 4, .inl f_144)), (ysi, .inl (cI, 4, .inl (fun _ => 0))), (ynu, .inl (cJ, 160, .inr (.inl (fun _ => 0)))), (yt, .inl (cI, 7, .inl (fun _ => 0)))] := hD
                  refine lv_aload_n hx hb dX9_sheet_68 rfl (lv_at hl 0 rfl) ?_
                  refine xg hF kf_X9_46 hK hP 0 rfl rfl dX9_sheet_69 ?_
                  refine lv_iload_n hx hb dX9_sheet_72 rfl (lv_at hl 1 rfl) ?_
                  refine lv_iload_n hx hb dX9_sheet_73 rfl (lv_at hl 2 rfl) ?_
                  refine lv_if_ne (tgt := 81) hx hb dX9_sheet_74 (by decide) (fun c_145 => ?_) (fun c_145 => absurd c_145 (by decide))
                  refine lv_iload_n hx hb dX9_sheet_81 rfl (lv_at hl 3 rfl) ?_
                  refine va_iast hx hb hK hP hD hS 2 0 rfl rfl (xin 3 4 (by decide) (by decide)) dX9_sheet_82 (fun H locs hP hD hS => ?_)
                  obtain ⟨f_146, ef_146⟩ : ∃ g, g = upd (fun _ => 0) (3 : Int32).toNatClampNeg p2 := ⟨_, rfl⟩
                  rw [← ef_146] at hP hD
                  have hP : va_P D vwCl [(h0, .inr (9, [.ref ys, .ref yk, .ref yo, .ref yt, .int 0, .ref yfa, .ref yfe, .int 0, .int 0, .int 0, .ref yro, .ref yhe, .ref ygr, .int 0, .int 0, .int 0, .ref yta, .int 0, .int 0, .int 0, .int 0, .int 0, .ref ywa, .ref ybi, .ref ysi, .ref ynu, .ref ymo])), (ybi, .inl (cI, 4, .inl f_144)), (ysi, .inl (cI, 4, .inl f_146)), (ynu, .inl (cJ, 160, .inr (.inl (fun _ => 0)))), (yt, .inl (cI, 7, .inl (fun _ => 0)))] H := hP
                  have hD : va_D A [(h0, .inr (9, [.ref ys, .ref yk, .ref yo, .ref yt, .int 0, .ref yfa, .ref yfe, .int 0, .int 0, .int 0, .ref yro, .ref yhe, .ref ygr, .int 0, .int 0, .int 0, .ref yta, .int 0, .int 0, .int 0, .int 0, .int 0, .ref ywa, .ref ybi, .ref ysi, .ref ynu, .ref ymo])), (ybi, .inl (cI, 4, .inl f_144)), (ysi, .inl (cI, 4, .inl f_146)), (ynu, .inl (cJ, 160, .inr (.inl (fun _ => 0)))), (yt, .inl (cI, 7, .inl (fun _ => 0)))] := hD
                  refine lv_iconst (v := 0) hx hb dX9_sheet_83 (by decide) ?_
                  refine lv_istore (lv' := [(4, .int 0), (0, .ref h0), (1, .int 3), (2, .int 64), (3, .int p2)]) hx hb dX9_sheet_84 hl (by decide) rfl (fun ls hl => ?_)
                  suffices loop_148 : ∀ (n k_147 : Nat) (f9 : Nat → Int64) (H : Heap) (locs : List Loc) (ls : Array Slot), k_147 + n = 40 → va_P D vwCl [(h0, .inr (9, [.ref ys, .ref yk, .ref yo, .ref yt, .int 0, .ref yfa, .ref yfe, .int 0, .int 0, .int 0, .ref yro, .ref yhe, .ref ygr, .int 0, .int 0, .int 0, .ref yta, .int 0, .int 0, .int 0, .int 0, .int 0, .ref ywa, .ref ybi, .ref ysi, .ref ynu, .ref ymo])), (ybi, .inl (cI, 4, .inl f_144)), (ysi, .inl (cI, 4, .inl f_146)), (ynu, .inl (cJ, 160, .inr (.inl f9))), (yt, .inl (cI, 7, .inl (fun _ => 0)))] H → va_D A [(h0, .inr (9, [.ref ys, .ref yk, .ref yo, .ref yt, .int 0, .ref yfa, .ref yfe, .int 0, .int 0, .int 0, .ref yro, .ref yhe, .ref ygr, .int 0, .int 0, .int 0, .ref yta, .int 0, .int 0, .int 0, .int 0, .int 0, .ref ywa, .ref ybi, .ref ysi, .ref ynu, .ref ymo])), (ybi, .inl (cI, 4, .inl f_144)), (ysi, .inl (cI, 4, .inl f_146)), (ynu, .inl (cJ, 160, .inr (.inl f9))), (yt, .inl (cI, 7, .inl (fun _ => 0)))] → va_S A s.heap H locs → lv_has ls 5 [(4, .int (nI (k_147))), (0, .ref h0), (1, .int 3), (2, .int 64), (3, .int p2)] → W p l e ({ frames := 2, cells := 0, slots := 0, locals := 45 }) s m ([.ref h0, .int 3, .int 64, .int p2] : List Value).toArray below meth c H locs 0 0 (MQ below (XQi (fun (r : Int32) (_ : Unit) => r = a_sheet 3 64 p2) D (fun _ : Unit => []) A) ([.ref h0, .int 3, .int 64, .int p2] : List Value).toArray s 0 0 A) (F0 m 86 ls []) by
                    exact loop_148 40 0 (fun _ => 0) _ _ _ (by decide) hP hD hS (lv_sub hl [0, 1, 2, 3, 4] rfl)
                  intro n
                  induction n with
                  | zero =>
                    intro k_147 f9 H locs ls hk hP hD hS hl 
                    have hk2 : k_147 = 40 := by omega
                    subst hk2
                    have hl : lv_has ls 5 [(4, .int 40), (0, .ref h0), (1, .int 3), (2, .int 64), (3, .int p2)] := hl
                    refine lv_iload hx hb dX9_sheet_86 (lv_at hl 0 rfl) ?_
                    refine lv_bipush (v := 40) hx hb dX9_sheet_88 (by decide) ?_
                    refine lv_icmp_ge (tgt := 112) hx hb dX9_sheet_90 (by decide) (fun c_149 => ?_) (fun c_149 => absurd (by decide) c_149)
                    refine lv_aload_n hx hb dX9_sheet_112 rfl (lv_at hl 1 rfl) ?_
                    refine xg hF kf_X9_46 hK hP 0 rfl rfl dX9_sheet_113 ?_
                    refine lv_iload_n hx hb dX9_sheet_116 rfl (lv_at hl 2 rfl) ?_
                    refine va_iald hx hb hK hP 2 0 rfl rfl (xin 3 4 (by decide) (by decide)) dX9_sheet_117 ?_
                    refine xl_i (y := f_146 3) (congrArg f_146 rfl) ?_
                    refine xl_i (y := p2) (by rw [ef_146]; rfl) ?_
                    exact W.iret (v := p2) hx hb hr (fun t ht hW => ⟨⟨p2, (), rfl, (p_sheet6 (by decide) (by decide) (by decide) (fun h => absurd c_118 (Int32.not_le.mpr h)) (fun h => absurd c_119 (Int32.not_le.mpr h)) (by decide)), by rw [ht]; exact hP.sub [] rfl, hD.sub [] (by decide) rfl⟩, hS.F ht⟩) hS.2.2 dX9_sheet_118 hlk
                  | succ n ih =>
                    intro k_147 f9 H locs ls hk hP hD hS hl 
                    have hlt_k_147 : k_147 < 40 := by omega
                    refine lv_iload hx hb dX9_sheet_86 (lv_at hl 0 rfl) ?_
                    refine lv_bipush (v := 40) hx hb dX9_sheet_88 (by decide) ?_
                    refine lv_icmp_ge (tgt := 112) hx hb dX9_sheet_90 (by decide) (fun c_150 => absurd c_150 (nI_ge hlt_k_147 (by decide))) (fun c_150 => ?_)
                    refine lv_aload_n hx hb dX9_sheet_93 rfl (lv_at hl 1 rfl) ?_
                    refine xg hF kf_X9_49 hK hP 0 rfl rfl dX9_sheet_94 ?_
                    refine lv_bipush (v := 40) hx hb dX9_sheet_97 (by decide) ?_
                    refine lv_iload_n hx hb dX9_sheet_99 rfl (lv_at hl 2 rfl) ?_
                    refine lv_imul hx hb dX9_sheet_100 ?_
                    refine xl_i (y := 120) (by decide) ?_
                    refine lv_iload hx hb dX9_sheet_101 (lv_at hl 0 rfl) ?_
                    refine lv_iadd hx hb dX9_sheet_103 ?_
                    refine xl_i (y := nI (120 + k_147)) (nI_add 120 k_147) ?_
                    refine lv_lconst (v := 0) hx hb dX9_sheet_104 (by decide) ?_
                    refine va_last hx hb hK hP hD hS 3 1 rfl rfl (vp_in_nI (show 120 + k_147 < 160 by omega) (by decide)) dX9_sheet_105 (fun H locs hP hD hS => ?_)
                    obtain ⟨f_151, ef_151⟩ : ∃ g, g = vp_updL f9 (nI (120 + k_147)).toNatClampNeg 0 := ⟨_, rfl⟩
                    rw [← ef_151] at hP hD
                    have hP : va_P D vwCl [(h0, .inr (9, [.ref ys, .ref yk, .ref yo, .ref yt, .int 0, .ref yfa, .ref yfe, .int 0, .int 0, .int 0, .ref yro, .ref yhe, .ref ygr, .int 0, .int 0, .int 0, .ref yta, .int 0, .int 0, .int 0, .int 0, .int 0, .ref ywa, .ref ybi, .ref ysi, .ref ynu, .ref ymo])), (ybi, .inl (cI, 4, .inl f_144)), (ysi, .inl (cI, 4, .inl f_146)), (ynu, .inl (cJ, 160, .inr (.inl f_151))), (yt, .inl (cI, 7, .inl (fun _ => 0)))] H := hP
                    have hD : va_D A [(h0, .inr (9, [.ref ys, .ref yk, .ref yo, .ref yt, .int 0, .ref yfa, .ref yfe, .int 0, .int 0, .int 0, .ref yro, .ref yhe, .ref ygr, .int 0, .int 0, .int 0, .ref yta, .int 0, .int 0, .int 0, .int 0, .int 0, .ref ywa, .ref ybi, .ref ysi, .ref ynu, .ref ymo])), (ybi, .inl (cI, 4, .inl f_144)), (ysi, .inl (cI, 4, .inl f_146)), (ynu, .inl (cJ, 160, .inr (.inl f_151))), (yt, .inl (cI, 7, .inl (fun _ => 0)))] := hD
                    refine lv_iinc (v := nI (k_147 + 1)) (lv' := [(4, .int (nI (k_147 + 1))), (0, .ref h0), (1, .int 3), (2, .int 64), (3, .int p2)]) hx hb dX9_sheet_106 hl (k := 0) rfl (nI_1 (k_147)) (by decide) rfl (fun ls hl => ?_)
                    refine lv_goto (tgt := 86) hx hb dX9_sheet_109 (by decide) ?_
                    exact ih (k_147 + 1) f_151 _ _ _ (by omega) (hP.sub [0, 1, 2, 3, 4] rfl) (hD.sub [0, 1, 2, 3, 4] (by decide) rfl) hS (lv_sub hl [0, 1, 2, 3, 4] rfl)
              · skip
                refine lv_aload_n hx hb dX9_sheet_54 rfl (lv_at hl 0 rfl) ?_
                refine lv_ldc (v := (-1000000001)) hx hb hown (hu _ uw352) dX9_sheet_55 ?_
                refine xc_Vi (wr := [(ybi, .inl (cI, 4, .inl (fun _ => 0))), (ysi, .inl (cI, 4, .inl (fun _ => 0))), (ynu, .inl (cJ, 160, .inr (.inl (fun _ => 0))))]) hF (c_X9_finds_B l D cI cJ cZ cS sa s.heap.size h0 ys yk yo yt yfa yfe yro yhe ygr yta ywa ybi ysi ynu ymo 0 0 0 (fun _ => 0) ) kv_X9_70 ⟨rfl, rfl, Nat.le_of_ble_eq_true rfl, Nat.le_of_ble_eq_true rfl⟩ ⟨Nat.le_of_ble_eq_true rfl, Nat.le_of_ble_eq_true rfl⟩ hK hN hP hD hS hA [0, 4] [1, 2, 3] rfl rfl rfl rfl (by decide) 0 rfl rfl rfl rfl hl.1 rfl (Nat.le_of_ble_eq_true rfl) dX9_sheet_57 (fun r_152 u_r_152 H locs hw_r_152 hP hD hS => ?_)
                have hP : va_P D vwCl [(ybi, .inl (cI, 4, .inl (fun _ => 0))), (ysi, .inl (cI, 4, .inl (fun _ => 0))), (ynu, .inl (cJ, 160, .inr (.inl (fun _ => 0))))] H := hP
                have hD : va_D A [(ybi, .inl (cI, 4, .inl (fun _ => 0))), (ysi, .inl (cI, 4, .inl (fun _ => 0))), (ynu, .inl (cJ, 160, .inr (.inl (fun _ => 0))))] := hD
                subst hw_r_152
                exact W.iret (v := (-1000000001)) hx hb hr (fun t ht hW => ⟨⟨(-1000000001), (), rfl, (p_sheet4 h_2 h_3 (by decide) (fun h => absurd c_118 (Int32.not_le.mpr h)) (xlt c_119)), by rw [ht]; exact hP.sub [] rfl, hD.sub [] (by decide) rfl⟩, hS.F ht⟩) hS.2.2 dX9_sheet_60 hlk
            · skip
              refine lv_aload_n hx hb dX9_sheet_40 rfl (lv_at hl 0 rfl) ?_
              refine lv_ldcw (v := (-1000000007)) hx hb hown (hu _ uw466) dX9_sheet_41 ?_
              refine xc_Vi (wr := [(ybi, .inl (cI, 4, .inl (fun _ => 0))), (ysi, .inl (cI, 4, .inl (fun _ => 0))), (ynu, .inl (cJ, 160, .inr (.inl (fun _ => 0))))]) hF (c_X9_finds_S l D cI cJ cZ cS sa s.heap.size h0 ys yk yo yt yfa yfe yro yhe ygr yta ywa ybi ysi ynu ymo 0 0 0 (fun _ => 0) ) kv_X9_70 ⟨rfl, rfl, Nat.le_of_ble_eq_true rfl, Nat.le_of_ble_eq_true rfl⟩ ⟨Nat.le_of_ble_eq_true rfl, Nat.le_of_ble_eq_true rfl⟩ hK hN hP hD hS hA [0, 4] [1, 2, 3] rfl rfl rfl rfl (by decide) 0 rfl rfl rfl rfl hl.1 rfl (Nat.le_of_ble_eq_true rfl) dX9_sheet_44 (fun r_153 u_r_153 H locs hw_r_153 hP hD hS => ?_)
              have hP : va_P D vwCl [(ybi, .inl (cI, 4, .inl (fun _ => 0))), (ysi, .inl (cI, 4, .inl (fun _ => 0))), (ynu, .inl (cJ, 160, .inr (.inl (fun _ => 0))))] H := hP
              have hD : va_D A [(ybi, .inl (cI, 4, .inl (fun _ => 0))), (ysi, .inl (cI, 4, .inl (fun _ => 0))), (ynu, .inl (cJ, 160, .inr (.inl (fun _ => 0))))] := hD
              subst hw_r_153
              exact W.iret (v := (-1000000007)) hx hb hr (fun t ht hW => ⟨⟨(-1000000007), (), rfl, (p_sheet3 h_2 h_3 (by decide) (xlt c_118)), by rw [ht]; exact hP.sub [] rfl, hD.sub [] (by decide) rfl⟩, hS.F ht⟩) hS.2.2 dX9_sheet_47 hlk
          · skip
            refine lv_aload_n hx hb dX9_sheet_29 rfl (lv_at hl 0 rfl) ?_
            refine lv_ldc (v := (-1000000001)) hx hb hown (hu _ uw352) dX9_sheet_30 ?_
            refine xc_Vi (wr := [(ybi, .inl (cI, 4, .inl (fun _ => 0))), (ysi, .inl (cI, 4, .inl (fun _ => 0))), (ynu, .inl (cJ, 160, .inr (.inl (fun _ => 0))))]) hF (c_X9_finds_B l D cI cJ cZ cS sa s.heap.size h0 ys yk yo yt yfa yfe yro yhe ygr yta ywa ybi ysi ynu ymo 0 0 0 (fun _ => 0) ) kv_X9_70 ⟨rfl, rfl, Nat.le_of_ble_eq_true rfl, Nat.le_of_ble_eq_true rfl⟩ ⟨Nat.le_of_ble_eq_true rfl, Nat.le_of_ble_eq_true rfl⟩ hK hN hP hD hS hA [0, 4] [1, 2, 3] rfl rfl rfl rfl (by decide) 0 rfl rfl rfl rfl hl.1 rfl (Nat.le_of_ble_eq_true rfl) dX9_sheet_32 (fun r_154 u_r_154 H locs hw_r_154 hP hD hS => ?_)
            have hP : va_P D vwCl [(ybi, .inl (cI, 4, .inl (fun _ => 0))), (ysi, .inl (cI, 4, .inl (fun _ => 0))), (ynu, .inl (cJ, 160, .inr (.inl (fun _ => 0))))] H := hP
            have hD : va_D A [(ybi, .inl (cI, 4, .inl (fun _ => 0))), (ysi, .inl (cI, 4, .inl (fun _ => 0))), (ynu, .inl (cJ, 160, .inr (.inl (fun _ => 0))))] := hD
            subst hw_r_154
            exact W.iret (v := (-1000000001)) hx hb hr (fun t ht hW => ⟨⟨(-1000000001), (), rfl, (p_sheet2 h_2 h_3 c_6 c_43 c_80 c_117), by rw [ht]; exact hP.sub [] rfl, hD.sub [] (by decide) rfl⟩, hS.F ht⟩) hS.2.2 dX9_sheet_35 hlk
  · skip
    refine lv_if_eq (tgt := 29) hx hb dX9_sheet_4 (by decide) (fun c_155 => ?_) (fun c_155 => absurd (by decide) c_155)
    refine lv_aload_n hx hb dX9_sheet_29 rfl (lv_at hl 0 rfl) ?_
    refine lv_ldc (v := (-1000000001)) hx hb hown (hu _ uw352) dX9_sheet_30 ?_
    refine xc_Vi (wr := [(ybi, .inl (cI, 4, .inl (fun _ => 0))), (ysi, .inl (cI, 4, .inl (fun _ => 0))), (ynu, .inl (cJ, 160, .inr (.inl (fun _ => 0))))]) hF (c_X9_finds_B l D cI cJ cZ cS sa s.heap.size h0 ys yk yo yt yfa yfe yro yhe ygr yta ywa ybi ysi ynu ymo 0 0 0 (fun _ => 0) ) kv_X9_70 ⟨rfl, rfl, Nat.le_of_ble_eq_true rfl, Nat.le_of_ble_eq_true rfl⟩ ⟨Nat.le_of_ble_eq_true rfl, Nat.le_of_ble_eq_true rfl⟩ hK hN hP hD hS hA [0, 4] [1, 2, 3] rfl rfl rfl rfl (by decide) 0 rfl rfl rfl rfl hl.1 rfl (Nat.le_of_ble_eq_true rfl) dX9_sheet_32 (fun r_156 u_r_156 H locs hw_r_156 hP hD hS => ?_)
    have hP : va_P D vwCl [(ybi, .inl (cI, 4, .inl (fun _ => 0))), (ysi, .inl (cI, 4, .inl (fun _ => 0))), (ynu, .inl (cJ, 160, .inr (.inl (fun _ => 0))))] H := hP
    have hD : va_D A [(ybi, .inl (cI, 4, .inl (fun _ => 0))), (ysi, .inl (cI, 4, .inl (fun _ => 0))), (ynu, .inl (cJ, 160, .inr (.inl (fun _ => 0))))] := hD
    subst hw_r_156
    exact W.iret (v := (-1000000001)) hx hb hr (fun t ht hW => ⟨⟨(-1000000001), (), rfl, (p_sheet1 h_4), by rw [ht]; exact hP.sub [] rfl, hD.sub [] (by decide) rfl⟩, hS.F ht⟩) hS.2.2 dX9_sheet_35 hlk
set_option maxHeartbeats 4000000 in
set_option maxRecDepth 100000 in
theorem c_X9_count (l : Launch) (D : va_G) (cI cJ cZ cS : ClassId) (sa : Nat → Nat) (sz : Nat) (h0 : Nat) (ys : Nat) (yk : Nat) (yo : Nat) (yt : Nat) (yfa : Nat) (yfe : Nat) (yro : Nat) (yhe : Nat) (ygr : Nat) (yta : Nat) (ywa : Nat) (ybi : Nat) (ysi : Nat) (ynu : Nat) (ymo : Nat) (p0 : Int32) : Met l yX9_count (Cond.code yX9_count cX9_count 4 (some .int) :: wsU) ({ frames := 2, cells := 0, slots := 0, locals := 51 }) (va_Pc [.ref h0, .int p0] (XW D (xT cI cJ cZ cS) sa [(h0, .inr (9, [.ref ys, .ref yk, .ref yo, .ref yt, .int 0, .ref yfa, .ref yfe, .int 0, .int 0, .int 0, .ref yro, .ref yhe, .ref ygr, .int 0, .int 0, .int 0, .ref yta, .int 0, .int 0, .int 0, .int 0, .int 0, .ref ywa, .ref ybi, .ref ysi, .ref ynu, .ref ymo])), (ys, .inl (cI, 449, .inl (fun _ => 0))), (yt, .inl (cI, 7, .inl (fun _ => 0)))] sz)) (XQi (fun (r : Int32) (_ : Unit) => r = a_count p0) D (fun _ : Unit => []) (va_A [(h0, .inr (9, [.ref ys, .ref yk, .ref yo, .ref yt, .int 0, .ref yfa, .ref yfe, .int 0, .int 0, .int 0, .ref yro, .ref yhe, .ref ygr, .int 0, .int 0, .int 0, .ref yta, .int 0, .int 0, .int 0, .int 0, .int 0, .ref ywa, .ref ybi, .ref ysi, .ref ynu, .ref ymo])), (ys, .inl (cI, 449, .inl (fun _ => 0))), (yt, .inl (cI, 7, .inl (fun _ => 0)))] sz)) 0 0 (va_A [(h0, .inr (9, [.ref ys, .ref yk, .ref yo, .ref yt, .int 0, .ref yfa, .ref yfe, .int 0, .int 0, .int 0, .ref yro, .ref yhe, .ref ygr, .int 0, .int 0, .int 0, .ref yta, .int 0, .int 0, .int 0, .int 0, .int 0, .ref ywa, .ref ybi, .ref ysi, .ref ynu, .ref ymo])), (ys, .inl (cI, 449, .inl (fun _ => 0))), (yt, .inl (cI, 7, .inl (fun _ => 0)))] sz) := by
  refine xhw (QA := fun A => XQi (fun (r : Int32) (_ : Unit) => r = a_count p0) D (fun _ : Unit => []) A) (by decide) (Nat.le_of_ble_eq_true rfl) ?_
  intro p e s m below meth c ls A hF hr hlk hin hsz hP hK hD hN hA hS hl
  have hF : CallFix p m c cX9_count 4 s _ _ RX9 := hF
  have hx := hF.1
  have hb := hF.2.1
  have hml := hF.2.2.1
  have hown := hF.2.2.2.1
  have hu : ∀ w ∈ wsU, w.before _ s = true := fun w h => hF.2.2.2.2 w (List.mem_cons_of_mem _ h)
  have hl : lv_has ls 4 [(0, .ref h0), (1, .int p0)] := hl
  refine lv_iconst (v := 0) hx hb dX9_count_0 (by decide) ?_
  refine lv_istore_n (lv' := [(2, .int 0), (0, .ref h0), (1, .int p0)]) hx hb dX9_count_1 rfl hl (by decide) rfl (fun ls hl => ?_)
  refine lv_iload_n hx hb dX9_count_2 rfl (lv_at hl 2 rfl) ?_
  rcases x_s6 p0 with h_1 | rfl | rfl | rfl | rfl | rfl | rfl
  · refine lv_tableOut (tgt := 103) hx hb dX9_count_3 h_1 (by decide) ?_
    refine lv_aload_n hx hb dX9_count_103 rfl (lv_at hl 1 rfl) ?_
    refine lv_ldc (v := (-1000000001)) hx hb hown (hu _ uw352) dX9_count_104 ?_
    refine xc_Vi (wr := [(ys, .inl (cI, 449, .inl (fun _ => 0)))]) hF (c_X9_finds_B l D cI cJ cZ cS sa s.heap.size h0 ys yk yo yt yfa yfe yro yhe ygr yta ywa ybi ysi ynu ymo 0 0 0 (fun _ => 0) ) kv_X9_70 ⟨rfl, rfl, Nat.le_of_ble_eq_true rfl, Nat.le_of_ble_eq_true rfl⟩ ⟨Nat.le_of_ble_eq_true rfl, Nat.le_of_ble_eq_true rfl⟩ hK hN hP hD hS hA [0, 2] [1] rfl rfl rfl rfl (by decide) 0 rfl rfl rfl rfl hl.1 rfl (Nat.le_of_ble_eq_true rfl) dX9_count_106 (fun r_2 u_r_2 H locs hw_r_2 hP hD hS => ?_)
    have hP : va_P D vwCl [(ys, .inl (cI, 449, .inl (fun _ => 0)))] H := hP
    have hD : va_D A [(ys, .inl (cI, 449, .inl (fun _ => 0)))] := hD
    subst hw_r_2
    exact W.iret (v := (-1000000001)) hx hb hr (fun t ht hW => ⟨⟨(-1000000001), (), rfl, (if_pos h_1).symm, by rw [ht]; exact hP.sub [] rfl, hD.sub [] (by decide) rfl⟩, hS.F ht⟩) hS.2.2 dX9_count_109 hlk
  · refine lv_tableIn (tgt := 40) hx hb dX9_count_3 (by decide) (by decide) rfl (by decide) ?_
    refine lv_aload_n hx hb dX9_count_40 rfl (lv_at hl 1 rfl) ?_
    refine xg hF kf_X9_7 hK hP 0 rfl rfl dX9_count_41 ?_
    refine lv_iconst (v := 0) hx hb dX9_count_44 (by decide) ?_
    refine va_iald hx hb hK hP 1 0 rfl rfl (xin 0 449 (by decide) (by decide)) dX9_count_45 ?_
    refine xl_i (y := 0) rfl ?_
    exact W.iret (v := 0) hx hb hr (fun t ht hW => ⟨⟨0, (), rfl, (by first | rfl | decide | simp), by rw [ht]; exact hP.sub [] rfl, hD.sub [] (by decide) rfl⟩, hS.F ht⟩) hS.2.2 dX9_count_46 hlk
  · refine lv_tableIn (tgt := 47) hx hb dX9_count_3 (by decide) (by decide) rfl (by decide) ?_
    refine lv_aload_n hx hb dX9_count_47 rfl (lv_at hl 1 rfl) ?_
    refine lv_iconst (v := 0) hx hb dX9_count_48 (by decide) ?_
    refine xc_Vi (wr := []) hF (c_X9_known l D cI cJ cZ cS sa s.heap.size h0 ys yk yo yt yfa yfe yro yhe ygr yta ywa ybi ysi ynu ymo 0 ) kv_X9_320 ⟨rfl, rfl, Nat.le_of_ble_eq_true rfl, Nat.le_of_ble_eq_true rfl⟩ ⟨Nat.le_of_ble_eq_true rfl, Nat.le_of_ble_eq_true rfl⟩ hK hN hP hD hS hA [0, 1, 2] [] rfl rfl rfl rfl (by decide) 0 rfl rfl rfl rfl hl.1 rfl (Nat.le_of_ble_eq_true rfl) dX9_count_49 (fun r_3 u_r_3 H locs hw_r_3 hP hD hS => ?_)
    have hP : va_P D vwCl [] H := hP
    have hD : va_D A [] := hD
    subst hw_r_3
    exact W.iret (v := a_known 0) hx hb hr (fun t ht hW => ⟨⟨a_known 0, (), rfl, (by first | rfl | decide | simp), by rw [ht]; exact hP.sub [] rfl, hD.sub [] (by decide) rfl⟩, hS.F ht⟩) hS.2.2 dX9_count_52 hlk
  · refine lv_tableIn (tgt := 53) hx hb dX9_count_3 (by decide) (by decide) rfl (by decide) ?_
    refine lv_aload_n hx hb dX9_count_53 rfl (lv_at hl 1 rfl) ?_
    refine xg hF kf_X9_7 hK hP 0 rfl rfl dX9_count_54 ?_
    refine lv_iconst (v := 1) hx hb dX9_count_57 (by decide) ?_
    refine va_iald hx hb hK hP 1 0 rfl rfl (xin 1 449 (by decide) (by decide)) dX9_count_58 ?_
    refine xl_i (y := 0) rfl ?_
    exact W.iret (v := 0) hx hb hr (fun t ht hW => ⟨⟨0, (), rfl, (by first | rfl | decide | simp), by rw [ht]; exact hP.sub [] rfl, hD.sub [] (by decide) rfl⟩, hS.F ht⟩) hS.2.2 dX9_count_59 hlk
  · refine lv_tableIn (tgt := 60) hx hb dX9_count_3 (by decide) (by decide) rfl (by decide) ?_
    refine lv_aload_n hx hb dX9_count_60 rfl (lv_at hl 1 rfl) ?_
    refine xg hF kf_X9_7 hK hP 0 rfl rfl dX9_count_61 ?_
    refine lv_iconst (v := 2) hx hb dX9_count_64 (by decide) ?_
    refine va_iald hx hb hK hP 1 0 rfl rfl (xin 2 449 (by decide) (by decide)) dX9_count_65 ?_
    refine xl_i (y := 0) rfl ?_
    exact W.iret (v := 0) hx hb hr (fun t ht hW => ⟨⟨0, (), rfl, (by first | rfl | decide | simp), by rw [ht]; exact hP.sub [] rfl, hD.sub [] (by decide) rfl⟩, hS.F ht⟩) hS.2.2 dX9_count_66 hlk
  · refine lv_tableIn (tgt := 67) hx hb dX9_count_3 (by decide) (by decide) rfl (by decide) ?_
    refine lv_aload_n hx hb dX9_count_67 rfl (lv_at hl 1 rfl) ?_
    refine xg hF kf_X9_240 hK hP 0 rfl rfl dX9_count_68 ?_
    exact W.iret (v := 0) hx hb hr (fun t ht hW => ⟨⟨0, (), rfl, (by first | rfl | decide | simp), by rw [ht]; exact hP.sub [] rfl, hD.sub [] (by decide) rfl⟩, hS.F ht⟩) hS.2.2 dX9_count_71 hlk
  · refine lv_tableIn (tgt := 72) hx hb dX9_count_3 (by decide) (by decide) rfl (by decide) ?_
    refine lv_iconst (v := 0) hx hb dX9_count_72 (by decide) ?_
    refine lv_istore_n (lv' := [(3, .int 0), (2, .int 0), (0, .ref h0), (1, .int 5)]) hx hb dX9_count_73 rfl hl (by decide) rfl (fun ls hl => ?_)
    refine lv_iload_n hx hb dX9_count_74 rfl (lv_at hl 0 rfl) ?_
    refine lv_aload_n hx hb dX9_count_75 rfl (lv_at hl 2 rfl) ?_
    refine xg hF kf_X9_7 hK hP 0 rfl rfl dX9_count_76 ?_
    refine lv_iconst (v := 0) hx hb dX9_count_79 (by decide) ?_
    refine va_iald hx hb hK hP 1 0 rfl rfl (xin 0 449 (by decide) (by decide)) dX9_count_80 ?_
    refine xl_i (y := 0) rfl ?_
    refine lv_icmp_ge (tgt := 101) hx hb dX9_count_81 (by decide) (fun c_4 => ?_) (fun c_4 => absurd (by decide) c_4)
    refine lv_iload_n hx hb dX9_count_101 rfl (lv_at hl 1 rfl) ?_
    exact W.iret (v := 0) hx hb hr (fun t ht hW => ⟨⟨0, (), rfl, (by first | rfl | decide | simp), by rw [ht]; exact hP.sub [] rfl, hD.sub [] (by decide) rfl⟩, hS.F ht⟩) hS.2.2 dX9_count_102 hlk
set_option maxHeartbeats 4000000 in
set_option maxRecDepth 100000 in
theorem c_X9_status (l : Launch) (D : va_G) (cI cJ cZ cS : ClassId) (sa : Nat → Nat) (sz : Nat) (h0 : Nat) (ys : Nat) (yk : Nat) (yo : Nat) (yt : Nat) (yfa : Nat) (yfe : Nat) (yro : Nat) (yhe : Nat) (ygr : Nat) (yta : Nat) (ywa : Nat) (ybi : Nat) (ysi : Nat) (ynu : Nat) (ymo : Nat) (p0 : Int32) : Met l yX9_status (Cond.code yX9_status cX9_status 4 (some .int) :: wsU) ({ frames := 1, cells := 0, slots := 0, locals := 25 }) (va_Pc [.ref h0, .int p0] (XW D (xT cI cJ cZ cS) sa [(h0, .inr (9, [.ref ys, .ref yk, .ref yo, .ref yt, .int 0, .ref yfa, .ref yfe, .int 0, .int 0, .int 0, .ref yro, .ref yhe, .ref ygr, .int 0, .int 0, .int 0, .ref yta, .int 0, .int 0, .int 0, .int 0, .int 0, .ref ywa, .ref ybi, .ref ysi, .ref ynu, .ref ymo])), (yt, .inl (cI, 7, .inl (fun _ => 0)))] sz)) (XQi (fun (r : Int32) (_ : Unit) => r = a_status p0) D (fun _ : Unit => []) (va_A [(h0, .inr (9, [.ref ys, .ref yk, .ref yo, .ref yt, .int 0, .ref yfa, .ref yfe, .int 0, .int 0, .int 0, .ref yro, .ref yhe, .ref ygr, .int 0, .int 0, .int 0, .ref yta, .int 0, .int 0, .int 0, .int 0, .int 0, .ref ywa, .ref ybi, .ref ysi, .ref ynu, .ref ymo])), (yt, .inl (cI, 7, .inl (fun _ => 0)))] sz)) 0 0 (va_A [(h0, .inr (9, [.ref ys, .ref yk, .ref yo, .ref yt, .int 0, .ref yfa, .ref yfe, .int 0, .int 0, .int 0, .ref yro, .ref yhe, .ref ygr, .int 0, .int 0, .int 0, .ref yta, .int 0, .int 0, .int 0, .int 0, .int 0, .ref ywa, .ref ybi, .ref ysi, .ref ynu, .ref ymo])), (yt, .inl (cI, 7, .inl (fun _ => 0)))] sz) := by
  refine xhw (QA := fun A => XQi (fun (r : Int32) (_ : Unit) => r = a_status p0) D (fun _ : Unit => []) A) (by decide) (Nat.le_of_ble_eq_true rfl) ?_
  intro p e s m below meth c ls A hF hr hlk hin hsz hP hK hD hN hA hS hl
  have hF : CallFix p m c cX9_status 4 s _ _ RX9 := hF
  have hx := hF.1
  have hb := hF.2.1
  have hml := hF.2.2.1
  have hown := hF.2.2.2.1
  have hu : ∀ w ∈ wsU, w.before _ s = true := fun w h => hF.2.2.2.2 w (List.mem_cons_of_mem _ h)
  have hl : lv_has ls 4 [(0, .ref h0), (1, .int p0)] := hl
  refine lv_iload_n hx hb dX9_status_0 rfl (lv_at hl 1 rfl) ?_
  refine lv_i2l (v := p0.toInt64) hx hb dX9_status_1 rfl ?_
  refine lv_ldc2 (v := (-1)) hx hb hown (hu _ uw471) dX9_status_2 ?_
  refine xl_l (y := (-1 : Int32).toInt64) (by decide) ?_
  refine lv_ldc2 (v := 6) hx hb hown (hu _ uw417) dX9_status_5 ?_
  refine xl_l (y := (6 : Int32).toInt64) (by decide) ?_
  refine xc_Sr hF (c_X9_in l D cI cJ cZ cS sa s.heap.size p0 (-1) 6 ) ks_X9_57 ⟨rfl, rfl, Nat.le_of_ble_eq_true rfl, Nat.le_of_ble_eq_true rfl⟩ ⟨Nat.le_of_ble_eq_true rfl, Nat.le_of_ble_eq_true rfl⟩ hK hN hP hD [] rfl rfl rfl hl.1 rfl (Nat.le_of_ble_eq_true rfl) dX9_status_8 (fun r_1 hw_r_1 => ?_)
  rcases hw_r_1 with ⟨rfl, h_2, h_3⟩ | ⟨rfl, h_4⟩
  · skip
    refine lv_if_ne (tgt := 21) hx hb dX9_status_11 (by decide) (fun c_5 => ?_) (fun c_5 => absurd c_5 (by decide))
    refine lv_iconst (v := 0) hx hb dX9_status_21 (by decide) ?_
    refine lv_istore_n (lv' := [(2, .int 0), (0, .ref h0), (1, .int p0)]) hx hb dX9_status_22 rfl hl (by decide) rfl (fun ls hl => ?_)
    refine lv_iconst (v := 0) hx hb dX9_status_23 (by decide) ?_
    refine lv_istore_n (lv' := [(3, .int 0), (2, .int 0), (0, .ref h0), (1, .int p0)]) hx hb dX9_status_24 rfl hl (by decide) rfl (fun ls hl => ?_)
    suffices loop_7 : ∀ (n k_6 : Nat) (H : Heap) (locs : List Loc) (ls : Array Slot), k_6 + n = 7 → va_P D vwCl [(h0, .inr (9, [.ref ys, .ref yk, .ref yo, .ref yt, .int 0, .ref yfa, .ref yfe, .int 0, .int 0, .int 0, .ref yro, .ref yhe, .ref ygr, .int 0, .int 0, .int 0, .ref yta, .int 0, .int 0, .int 0, .int 0, .int 0, .ref ywa, .ref ybi, .ref ysi, .ref ynu, .ref ymo])), (yt, .inl (cI, 7, .inl (fun _ => 0)))] H → va_D A [(h0, .inr (9, [.ref ys, .ref yk, .ref yo, .ref yt, .int 0, .ref yfa, .ref yfe, .int 0, .int 0, .int 0, .ref yro, .ref yhe, .ref ygr, .int 0, .int 0, .int 0, .ref yta, .int 0, .int 0, .int 0, .int 0, .int 0, .ref ywa, .ref ybi, .ref ysi, .ref ynu, .ref ymo])), (yt, .inl (cI, 7, .inl (fun _ => 0)))] → va_S A s.heap H locs → lv_has ls 4 [(3, .int (nI (k_6))), (2, .int 0), (0, .ref h0), (1, .int p0)] → W p l e ({ frames := 1, cells := 0, slots := 0, locals := 25 }) s m ([.ref h0, .int p0] : List Value).toArray below meth c H locs 0 0 (MQ below (XQi (fun (r : Int32) (_ : Unit) => r = a_status p0) D (fun _ : Unit => []) A) ([.ref h0, .int p0] : List Value).toArray s 0 0 A) (F0 m 25 ls []) by
      exact loop_7 7 0  _ _ _ (by decide) hP hD hS (lv_sub hl [0, 1, 2, 3] rfl)
    intro n
    induction n with
    | zero =>
      intro k_6  H locs ls hk hP hD hS hl 
      have hk2 : k_6 = 7 := by omega
      subst hk2
      have hl : lv_has ls 4 [(3, .int 7), (2, .int 0), (0, .ref h0), (1, .int p0)] := hl
      refine lv_iload_n hx hb dX9_status_25 rfl (lv_at hl 0 rfl) ?_
      refine lv_bipush (v := 7) hx hb dX9_status_26 (by decide) ?_
      refine lv_icmp_ge (tgt := 59) hx hb dX9_status_28 (by decide) (fun c_8 => ?_) (fun c_8 => absurd (by decide) c_8)
      refine lv_iload_n hx hb dX9_status_59 rfl (lv_at hl 1 rfl) ?_
      exact W.iret (v := 0) hx hb hr (fun t ht hW => ⟨⟨0, (), rfl, (p_status2 h_2 h_3), by rw [ht]; exact hP.sub [] rfl, hD.sub [] (by decide) rfl⟩, hS.F ht⟩) hS.2.2 dX9_status_60 hlk
    | succ n ih =>
      intro k_6  H locs ls hk hP hD hS hl 
      have hlt_k_6 : k_6 < 7 := by omega
      refine lv_iload_n hx hb dX9_status_25 rfl (lv_at hl 0 rfl) ?_
      refine lv_bipush (v := 7) hx hb dX9_status_26 (by decide) ?_
      refine lv_icmp_ge (tgt := 59) hx hb dX9_status_28 (by decide) (fun c_9 => absurd c_9 (nI_ge hlt_k_6 (by decide))) (fun c_9 => ?_)
      refine lv_iload_n hx hb dX9_status_31 rfl (lv_at hl 1 rfl) ?_
      refine lv_iload_n hx hb dX9_status_32 rfl (lv_at hl 3 rfl) ?_
      refine lv_if_lt (tgt := 41) hx hb dX9_status_33 (by decide) (fun c_10 => ?_) (fun c_10 => ?_)
      · skip
        refine lv_aload_n hx hb dX9_status_41 rfl (lv_at hl 2 rfl) ?_
        refine xg hF kf_X9_19 hK hP 0 rfl rfl dX9_status_42 ?_
        refine lv_iload_n hx hb dX9_status_45 rfl (lv_at hl 0 rfl) ?_
        refine va_iald hx hb hK hP 1 0 rfl rfl (vp_in_nI (show k_6 < 7 by omega) (by decide)) dX9_status_46 ?_
        refine xl_i (y := 0) rfl ?_
        refine lv_goto (tgt := 51) hx hb dX9_status_47 (by decide) ?_
        refine lv_iadd hx hb dX9_status_51 ?_
        refine xl_i (y := 0) (by decide) ?_
        refine lv_istore_n (lv' := [(2, .int 0), (3, .int (nI (k_6))), (0, .ref h0), (1, .int p0)]) hx hb dX9_status_52 rfl hl (by decide) rfl (fun ls hl => ?_)
        refine lv_iinc (v := nI (k_6 + 1)) (lv' := [(3, .int (nI (k_6 + 1))), (2, .int 0), (0, .ref h0), (1, .int p0)]) hx hb dX9_status_53 hl (k := 1) rfl (nI_1 (k_6)) (by decide) rfl (fun ls hl => ?_)
        refine lv_goto (tgt := 25) hx hb dX9_status_56 (by decide) ?_
        exact ih (k_6 + 1)  _ _ _ (by omega) (hP.sub [0, 1] rfl) (hD.sub [0, 1] (by decide) rfl) hS (lv_sub hl [0, 1, 2, 3] rfl)
      · skip
        refine lv_iload_n hx hb dX9_status_36 rfl (lv_at hl 0 rfl) ?_
        refine lv_iload_n hx hb dX9_status_37 rfl (lv_at hl 3 rfl) ?_
        refine lv_icmp_ne (tgt := 50) hx hb dX9_status_38 (by decide) (fun c_11 => ?_) (fun c_11 => ?_)
        · skip
          refine lv_iconst (v := 0) hx hb dX9_status_50 (by decide) ?_
          refine lv_iadd hx hb dX9_status_51 ?_
          refine xl_i (y := 0) (by decide) ?_
          refine lv_istore_n (lv' := [(2, .int 0), (3, .int (nI (k_6))), (0, .ref h0), (1, .int p0)]) hx hb dX9_status_52 rfl hl (by decide) rfl (fun ls hl => ?_)
          refine lv_iinc (v := nI (k_6 + 1)) (lv' := [(3, .int (nI (k_6 + 1))), (2, .int 0), (0, .ref h0), (1, .int p0)]) hx hb dX9_status_53 hl (k := 1) rfl (nI_1 (k_6)) (by decide) rfl (fun ls hl => ?_)
          refine lv_goto (tgt := 25) hx hb dX9_status_56 (by decide) ?_
          exact ih (k_6 + 1)  _ _ _ (by omega) (hP.sub [0, 1] rfl) (hD.sub [0, 1] (by decide) rfl) hS (lv_sub hl [0, 1, 2, 3] rfl)
        · skip
          refine lv_aload_n hx hb dX9_status_41 rfl (lv_at hl 2 rfl) ?_
          refine xg hF kf_X9_19 hK hP 0 rfl rfl dX9_status_42 ?_
          refine lv_iload_n hx hb dX9_status_45 rfl (lv_at hl 0 rfl) ?_
          refine va_iald hx hb hK hP 1 0 rfl rfl (vp_in_nI (show k_6 < 7 by omega) (by decide)) dX9_status_46 ?_
          refine xl_i (y := 0) rfl ?_
          refine lv_goto (tgt := 51) hx hb dX9_status_47 (by decide) ?_
          refine lv_iadd hx hb dX9_status_51 ?_
          refine xl_i (y := 0) (by decide) ?_
          refine lv_istore_n (lv' := [(2, .int 0), (3, .int (nI (k_6))), (0, .ref h0), (1, .int p0)]) hx hb dX9_status_52 rfl hl (by decide) rfl (fun ls hl => ?_)
          refine lv_iinc (v := nI (k_6 + 1)) (lv' := [(3, .int (nI (k_6 + 1))), (2, .int 0), (0, .ref h0), (1, .int p0)]) hx hb dX9_status_53 hl (k := 1) rfl (nI_1 (k_6)) (by decide) rfl (fun ls hl => ?_)
          refine lv_goto (tgt := 25) hx hb dX9_status_56 (by decide) ?_
          exact ih (k_6 + 1)  _ _ _ (by omega) (hP.sub [0, 1] rfl) (hD.sub [0, 1] (by decide) rfl) hS (lv_sub hl [0, 1, 2, 3] rfl)
  · skip
    refine lv_if_ne (tgt := 21) hx hb dX9_status_11 (by decide) (fun c_12 => absurd (by decide) c_12) (fun c_12 => ?_)
    refine lv_aload_n hx hb dX9_status_14 rfl (lv_at hl 0 rfl) ?_
    refine lv_ldc (v := (-1000000001)) hx hb hown (hu _ uw352) dX9_status_15 ?_
    refine xc_Vi (wr := []) hF (c_X9_finds_B l D cI cJ cZ cS sa s.heap.size h0 ys yk yo yt yfa yfe yro yhe ygr yta ywa ybi ysi ynu ymo 0 0 0 (fun _ => 0) ) kv_X9_70 ⟨rfl, rfl, Nat.le_of_ble_eq_true rfl, Nat.le_of_ble_eq_true rfl⟩ ⟨Nat.le_of_ble_eq_true rfl, Nat.le_of_ble_eq_true rfl⟩ hK hN hP hD hS hA [0, 1] [] rfl rfl rfl rfl (by decide) 0 rfl rfl rfl rfl hl.1 rfl (Nat.le_of_ble_eq_true rfl) dX9_status_17 (fun r_13 u_r_13 H locs hw_r_13 hP hD hS => ?_)
    have hP : va_P D vwCl [] H := hP
    have hD : va_D A [] := hD
    subst hw_r_13
    exact W.iret (v := (-1000000001)) hx hb hr (fun t ht hW => ⟨⟨(-1000000001), (), rfl, (p_status1 h_4), by rw [ht]; exact hP.sub [] rfl, hD.sub [] (by decide) rfl⟩, hS.F ht⟩) hS.2.2 dX9_status_20 hlk
