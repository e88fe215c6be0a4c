set_option maxHeartbeats 4000000 in
set_option maxRecDepth 100000 in
theorem c_X9_place (l : Launch) (D : va_G) (cI cJ cZ cS : ClassId) (sa : Nat → Nat) (sz : Nat) (h0 : Nat) (ys : Nat) (yk : Nat) (yo : Nat) (yt : Nat) (yfa : Nat) (yfe : Nat) (yro : Nat) (yhe : Nat) (ygr : Nat) (yta : Nat) (ywa : Nat) (ybi : Nat) (ysi : Nat) (ynu : Nat) (ymo : Nat) : Met l yX9_place (Cond.code yX9_place cX9_place 1 (some .int) :: wsU) ({ frames := 1, cells := 0, slots := 0, locals := 20 }) (va_Pc [.ref h0] (XW D (xT cI cJ cZ cS) sa [(h0, .inr (9, [.ref ys, .ref yk, .ref yo, .ref yt, .int 0, .ref yfa, .ref yfe, .int 0, .int 0, .int 0, .ref yro, .ref yhe, .ref ygr, .int 0, .int 0, .int 0, .ref yta, .int 0, .int 0, .int 0, .int 0, .int 0, .ref ywa, .ref ybi, .ref ysi, .ref ynu, .ref ymo])), (ys, .inl (cI, 449, .inl (fun _ => 0)))] sz)) (XQi (fun (r : Int32) (_ : Unit) => r = 0) D (fun _ : Unit => []) (va_A [(h0, .inr (9, [.ref ys, .ref yk, .ref yo, .ref yt, .int 0, .ref yfa, .ref yfe, .int 0, .int 0, .int 0, .ref yro, .ref yhe, .ref ygr, .int 0, .int 0, .int 0, .ref yta, .int 0, .int 0, .int 0, .int 0, .int 0, .ref ywa, .ref ybi, .ref ysi, .ref ynu, .ref ymo])), (ys, .inl (cI, 449, .inl (fun _ => 0)))] sz)) 0 0 (va_A [(h0, .inr (9, [.ref ys, .ref yk, .ref yo, .ref yt, .int 0, .ref yfa, .ref yfe, .int 0, .int 0, .int 0, .ref yro, .ref yhe, .ref ygr, .int 0, .int 0, .int 0, .ref yta, .int 0, .int 0, .int 0, .int 0, .int 0, .ref ywa, .ref ybi, .ref ysi, .ref ynu, .ref ymo])), (ys, .inl (cI, 449, .inl (fun _ => 0)))] sz) := by
  refine xhw (QA := fun A => XQi (fun (r : Int32) (_ : Unit) => r = 0) D (fun _ : Unit => []) A) (by decide) (Nat.le_of_ble_eq_true rfl) ?_
  intro p e s m below meth c ls A hF hr hlk hin hsz hP hK hD hN hA hS hl
  have hF : CallFix p m c cX9_place 1 s _ _ RX9 := hF
  have hx := hF.1
  have hb := hF.2.1
  have hml := hF.2.2.1
  have hown := hF.2.2.2.1
  have hu : ∀ w ∈ wsU, w.before _ s = true := fun w h => hF.2.2.2.2 w (List.mem_cons_of_mem _ h)
  have hl : lv_has ls 1 [(0, .ref h0)] := hl
  refine lv_aload_n hx hb dX9_place_0 rfl (lv_at hl 0 rfl) ?_
  refine xg hF kf_X9_7 hK hP 0 rfl rfl dX9_place_1 ?_
  refine lv_iconst (v := 0) hx hb dX9_place_4 (by decide) ?_
  refine va_iald hx hb hK hP 1 0 rfl rfl (xin 0 449 (by decide) (by decide)) dX9_place_5 ?_
  refine xl_i (y := 0) rfl ?_
  refine lv_bipush (v := 10) hx hb dX9_place_6 (by decide) ?_
  refine lv_icmp_ne (tgt := 20) hx hb dX9_place_8 (by decide) (fun c_1 => ?_) (fun c_1 => absurd c_1 (by decide))
  refine lv_aload_n hx hb dX9_place_20 rfl (lv_at hl 0 rfl) ?_
  refine xc_Vi (wr := []) hF (c_X9_newPlace l D cI cJ cZ cS sa s.heap.size h0 ys yk yo yt yfa yfe yro yhe ygr yta ywa ybi ysi ynu ymo ) kv_X9_74 ⟨rfl, rfl, Nat.le_of_ble_eq_true rfl, Nat.le_of_ble_eq_true rfl⟩ ⟨Nat.le_of_ble_eq_true rfl, Nat.le_of_ble_eq_true rfl⟩ hK hN hP hD hS hA [0, 1] [] rfl rfl rfl rfl (by decide) 0 rfl rfl rfl rfl hl.1 rfl (Nat.le_of_ble_eq_true rfl) dX9_place_21 (fun r_2 u_r_2 H locs hw_r_2 hP hD hS => ?_)
  have hP : va_P D vwCl [] H := hP
  have hD : va_D A [] := hD
  subst hw_r_2
  exact W.iret (v := 0) hx hb hr (fun t ht hW => ⟨⟨0, (), rfl, rfl, by rw [ht]; exact hP.sub [] rfl, hD.sub [] (by decide) rfl⟩, hS.F ht⟩) hS.2.2 dX9_place_24 hlk
set_option maxHeartbeats 4000000 in
set_option maxRecDepth 100000 in
theorem c_X9_errands (l : Launch) (D : va_G) (cI cJ cZ cS : ClassId) (sa : Nat → Nat) (sz : Nat) (h0 : Nat) (ys : Nat) (yk : Nat) (yo : Nat) (yt : Nat) (yfa : Nat) (yfe : Nat) (yro : Nat) (yhe : Nat) (ygr : Nat) (yta : Nat) (ywa : Nat) (ybi : Nat) (ysi : Nat) (ynu : Nat) (ymo : Nat) (p0 : Int32) (p1 : Int32) : Met l yX9_errands (Cond.code yX9_errands cX9_errands 4 (some .int) :: wsU) ({ frames := 2, cells := 0, slots := 0, locals := 46 }) (va_Pc [.ref h0, .int p0, .int p1] (XW D (xT cI cJ cZ cS) sa [(h0, .inr (9, [.ref ys, .ref yk, .ref yo, .ref yt, .int 0, .ref yfa, .ref yfe, .int 0, .int 0, .int 0, .ref yro, .ref yhe, .ref ygr, .int 0, .int 0, .int 0, .ref yta, .int 0, .int 0, .int 0, .int 0, .int 0, .ref ywa, .ref ybi, .ref ysi, .ref ynu, .ref ymo])), (ys, .inl (cI, 449, .inl (fun _ => 0))), (yt, .inl (cI, 7, .inl (fun _ => 0)))] sz)) (XQi (fun (r : Int32) (_ : Unit) => r = (-1000000001)) D (fun _ : Unit => []) (va_A [(h0, .inr (9, [.ref ys, .ref yk, .ref yo, .ref yt, .int 0, .ref yfa, .ref yfe, .int 0, .int 0, .int 0, .ref yro, .ref yhe, .ref ygr, .int 0, .int 0, .int 0, .ref yta, .int 0, .int 0, .int 0, .int 0, .int 0, .ref ywa, .ref ybi, .ref ysi, .ref ynu, .ref ymo])), (ys, .inl (cI, 449, .inl (fun _ => 0))), (yt, .inl (cI, 7, .inl (fun _ => 0)))] sz)) 0 0 (va_A [(h0, .inr (9, [.ref ys, .ref yk, .ref yo, .ref yt, .int 0, .ref yfa, .ref yfe, .int 0, .int 0, .int 0, .ref yro, .ref yhe, .ref ygr, .int 0, .int 0, .int 0, .ref yta, .int 0, .int 0, .int 0, .int 0, .int 0, .ref ywa, .ref ybi, .ref ysi, .ref ynu, .ref ymo])), (ys, .inl (cI, 449, .inl (fun _ => 0))), (yt, .inl (cI, 7, .inl (fun _ => 0)))] sz) := by
  refine xhw (QA := fun A => XQi (fun (r : Int32) (_ : Unit) => r = (-1000000001)) D (fun _ : Unit => []) A) (by decide) (Nat.le_of_ble_eq_true rfl) ?_
  intro p e s m below meth c ls A hF hr hlk hin hsz hP hK hD hN hA hS hl
  have hF : CallFix p m c cX9_errands 4 s _ _ RX9 := hF
  have hx := hF.1
  have hb := hF.2.1
  have hml := hF.2.2.1
  have hown := hF.2.2.2.1
  have hu : ∀ w ∈ wsU, w.before _ s = true := fun w h => hF.2.2.2.2 w (List.mem_cons_of_mem _ h)
  have hl : lv_has ls 4 [(0, .ref h0), (1, .int p0), (2, .int p1)] := hl
  refine lv_aload_n hx hb dX9_errands_0 rfl (lv_at hl 0 rfl) ?_
  refine lv_iload_n hx hb dX9_errands_1 rfl (lv_at hl 1 rfl) ?_
  refine xc_Vr hF (c_X9_isPlace l D cI cJ cZ cS sa s.heap.size h0 ys yk yo yt yfa yfe yro yhe ygr yta ywa ybi ysi ynu ymo p0 ) kv_X9_61 ⟨rfl, rfl, Nat.le_of_ble_eq_true rfl, Nat.le_of_ble_eq_true rfl⟩ ⟨Nat.le_of_ble_eq_true rfl, Nat.le_of_ble_eq_true rfl⟩ hK hN hP hD [0, 1] rfl rfl 0 rfl rfl rfl rfl hl.1 rfl (Nat.le_of_ble_eq_true rfl) dX9_errands_2 (fun r_1 hw_r_1 => ?_)
  subst hw_r_1
  refine lv_if_eq (tgt := 20) hx hb dX9_errands_5 (by decide) (fun c_2 => ?_) (fun c_2 => absurd (by decide) c_2)
  refine lv_aload_n hx hb dX9_errands_20 rfl (lv_at hl 0 rfl) ?_
  refine lv_ldc (v := (-1000000001)) hx hb hown (hu _ uw352) dX9_errands_21 ?_
  refine xc_Vi (wr := [(ys, .inl (cI, 449, .inl (fun _ => 0)))]) hF (c_X9_finds_B l D cI cJ cZ cS sa s.heap.size h0 ys yk yo yt yfa yfe yro yhe ygr yta ywa ybi ysi ynu ymo 0 0 0 (fun _ => 0) ) kv_X9_70 ⟨rfl, rfl, Nat.le_of_ble_eq_true rfl, Nat.le_of_ble_eq_true rfl⟩ ⟨Nat.le_of_ble_eq_true rfl, Nat.le_of_ble_eq_true rfl⟩ hK hN hP hD hS hA [0, 2] [1] rfl rfl rfl rfl (by decide) 0 rfl rfl rfl rfl hl.1 rfl (Nat.le_of_ble_eq_true rfl) dX9_errands_23 (fun r_3 u_r_3 H locs hw_r_3 hP hD hS => ?_)
  have hP : va_P D vwCl [(ys, .inl (cI, 449, .inl (fun _ => 0)))] H := hP
  have hD : va_D A [(ys, .inl (cI, 449, .inl (fun _ => 0)))] := hD
  subst hw_r_3
  exact W.iret (v := (-1000000001)) hx hb hr (fun t ht hW => ⟨⟨(-1000000001), (), rfl, rfl, by rw [ht]; exact hP.sub [] rfl, hD.sub [] (by decide) rfl⟩, hS.F ht⟩) hS.2.2 dX9_errands_26 hlk
set_option maxHeartbeats 4000000 in
set_option maxRecDepth 100000 in
theorem c_X9_way (l : Launch) (D : va_G) (cI cJ cZ cS : ClassId) (sa : Nat → Nat) (sz : Nat) (h0 : Nat) (ys : Nat) (yk : Nat) (yo : Nat) (yt : Nat) (yfa : Nat) (yfe : Nat) (yro : Nat) (yhe : Nat) (ygr : Nat) (yta : Nat) (ywa : Nat) (ybi : Nat) (ysi : Nat) (ynu : Nat) (ymo : Nat) (p0 : Int32) (p1 : Int32) (p2 : Int32) (p3 : Int32) : Met l yX9_way (Cond.code yX9_way cX9_way 5 (some .int) :: wsU) ({ frames := 3, cells := 0, slots := 0, locals := 68 }) (va_Pc [.ref h0, .int p0, .int p1, .int p2, .int p3] (XW D (xT cI cJ cZ cS) sa [(h0, .inr (9, [.ref ys, .ref yk, .ref yo, .ref yt, .int 0, .ref yfa, .ref yfe, .int 0, .int 0, .int 0, .ref yro, .ref yhe, .ref ygr, .int 0, .int 0, .int 0, .ref yta, .int 0, .int 0, .int 0, .int 0, .int 0, .ref ywa, .ref ybi, .ref ysi, .ref ynu, .ref ymo])), (ys, .inl (cI, 449, .inl (fun _ => 0))), (yt, .inl (cI, 7, .inl (fun _ => 0)))] sz)) (XQi (fun (r : Int32) (_ : Unit) => r = (-1000000001)) D (fun _ : Unit => []) (va_A [(h0, .inr (9, [.ref ys, .ref yk, .ref yo, .ref yt, .int 0, .ref yfa, .ref yfe, .int 0, .int 0, .int 0, .ref yro, .ref yhe, .ref ygr, .int 0, .int 0, .int 0, .ref yta, .int 0, .int 0, .int 0, .int 0, .int 0, .ref ywa, .ref ybi, .ref ysi, .ref ynu, .ref ymo])), (ys, .inl (cI, 449, .inl (fun _ => 0))), (yt, .inl (cI, 7, .inl (fun _ => 0)))] sz)) 0 0 (va_A [(h0, .inr (9, [.ref ys, .ref yk, .ref yo, .ref yt, .int 0, .ref yfa, .ref yfe, .int 0, .int 0, .int 0, .ref yro, .ref yhe, .ref ygr, .int 0, .int 0, .int 0, .ref yta, .int 0, .int 0, .int 0, .int 0, .int 0, .ref ywa, .ref ybi, .ref ysi, .ref ynu, .ref ymo])), (ys, .inl (cI, 449, .inl (fun _ => 0))), (yt, .inl (cI, 7, .inl (fun _ => 0)))] sz) := by
  refine xhw (QA := fun A => XQi (fun (r : Int32) (_ : Unit) => r = (-1000000001)) D (fun _ : Unit => []) A) (by decide) (Nat.le_of_ble_eq_true rfl) ?_
  intro p e s m below meth c ls A hF hr hlk hin hsz hP hK hD hN hA hS hl
  have hF : CallFix p m c cX9_way 5 s _ _ RX9 := hF
  have hx := hF.1
  have hb := hF.2.1
  have hml := hF.2.2.1
  have hown := hF.2.2.2.1
  have hu : ∀ w ∈ wsU, w.before _ s = true := fun w h => hF.2.2.2.2 w (List.mem_cons_of_mem _ h)
  have hl : lv_has ls 5 [(0, .ref h0), (1, .int p0), (2, .int p1), (3, .int p2), (4, .int p3)] := hl
  refine lv_aload_n hx hb dX9_way_0 rfl (lv_at hl 0 rfl) ?_
  refine lv_iload_n hx hb dX9_way_1 rfl (lv_at hl 1 rfl) ?_
  refine lv_iload_n hx hb dX9_way_2 rfl (lv_at hl 2 rfl) ?_
  refine xc_Vr hF (c_X9_areTwo l D cI cJ cZ cS sa s.heap.size h0 ys yk yo yt yfa yfe yro yhe ygr yta ywa ybi ysi ynu ymo p0 p1 ) kv_X9_80 ⟨rfl, rfl, Nat.le_of_ble_eq_true rfl, Nat.le_of_ble_eq_true rfl⟩ ⟨Nat.le_of_ble_eq_true rfl, Nat.le_of_ble_eq_true rfl⟩ hK hN hP hD [0, 1] rfl rfl 0 rfl rfl rfl rfl hl.1 rfl (Nat.le_of_ble_eq_true rfl) dX9_way_3 (fun r_1 hw_r_1 => ?_)
  subst hw_r_1
  refine lv_if_eq (tgt := 30) hx hb dX9_way_6 (by decide) (fun c_2 => ?_) (fun c_2 => absurd (by decide) c_2)
  refine lv_aload_n hx hb dX9_way_30 rfl (lv_at hl 0 rfl) ?_
  refine lv_ldc (v := (-1000000001)) hx hb hown (hu _ uw352) dX9_way_31 ?_
  refine xc_Vi (wr := [(ys, .inl (cI, 449, .inl (fun _ => 0)))]) hF (c_X9_finds_B l D cI cJ cZ cS sa s.heap.size h0 ys yk yo yt yfa yfe yro yhe ygr yta ywa ybi ysi ynu ymo 0 0 0 (fun _ => 0) ) kv_X9_70 ⟨rfl, rfl, Nat.le_of_ble_eq_true rfl, Nat.le_of_ble_eq_true rfl⟩ ⟨Nat.le_of_ble_eq_true rfl, Nat.le_of_ble_eq_true rfl⟩ hK hN hP hD hS hA [0, 2] [1] rfl rfl rfl rfl (by decide) 0 rfl rfl rfl rfl hl.1 rfl (Nat.le_of_ble_eq_true rfl) dX9_way_33 (fun r_3 u_r_3 H locs hw_r_3 hP hD hS => ?_)
  have hP : va_P D vwCl [(ys, .inl (cI, 449, .inl (fun _ => 0)))] H := hP
  have hD : va_D A [(ys, .inl (cI, 449, .inl (fun _ => 0)))] := hD
  subst hw_r_3
  exact W.iret (v := (-1000000001)) hx hb hr (fun t ht hW => ⟨⟨(-1000000001), (), rfl, rfl, by rw [ht]; exact hP.sub [] rfl, hD.sub [] (by decide) rfl⟩, hS.F ht⟩) hS.2.2 dX9_way_36 hlk
set_option maxHeartbeats 4000000 in
set_option maxRecDepth 100000 in
theorem c_X9_wayOf (l : Launch) (D : va_G) (cI cJ cZ cS : ClassId) (sa : Nat → Nat) (sz : Nat) (h0 : Nat) (ys : Nat) (yk : Nat) (yo : Nat) (yt : Nat) (yfa : Nat) (yfe : Nat) (yro : Nat) (yhe : Nat) (ygr : Nat) (yta : Nat) (ywa : Nat) (ybi : Nat) (ysi : Nat) (ynu : Nat) (ymo : Nat) (p0 : Int32) (p1 : Int32) (p2 : Int32) : Met l yX9_wayOf (Cond.code yX9_wayOf cX9_wayOf 5 (some .int) :: wsU) ({ frames := 3, cells := 0, slots := 0, locals := 68 }) (va_Pc [.ref h0, .int p0, .int p1, .int p2] (XW D (xT cI cJ cZ cS) sa [(h0, .inr (9, [.ref ys, .ref yk, .ref yo, .ref yt, .int 0, .ref yfa, .ref yfe, .int 0, .int 0, .int 0, .ref yro, .ref yhe, .ref ygr, .int 0, .int 0, .int 0, .ref yta, .int 0, .int 0, .int 0, .int 0, .int 0, .ref ywa, .ref ybi, .ref ysi, .ref ynu, .ref ymo])), (ys, .inl (cI, 449, .inl (fun _ => 0))), (yt, .inl (cI, 7, .inl (fun _ => 0)))] sz)) (XQi (fun (r : Int32) (_ : Unit) => r = (-1000000001)) D (fun _ : Unit => []) (va_A [(h0, .inr (9, [.ref ys, .ref yk, .ref yo, .ref yt, .int 0, .ref yfa, .ref yfe, .int 0, .int 0, .int 0, .ref yro, .ref yhe, .ref ygr, .int 0, .int 0, .int 0, .ref yta, .int 0, .int 0, .int 0, .int 0, .int 0, .ref ywa, .ref ybi, .ref ysi, .ref ynu, .ref ymo])), (ys, .inl (cI, 449, .inl (fun _ => 0))), (yt, .inl (cI, 7, .inl (fun _ => 0)))] sz)) 0 0 (va_A [(h0, .inr (9, [.ref ys, .ref yk, .ref yo, .ref yt, .int 0, .ref yfa, .ref yfe, .int 0, .int 0, .int 0, .ref yro, .ref yhe, .ref ygr, .int 0, .int 0, .int 0, .ref yta, .int 0, .int 0, .int 0, .int 0, .int 0, .ref ywa, .ref ybi, .ref ysi, .ref ynu, .ref ymo])), (ys, .inl (cI, 449, .inl (fun _ => 0))), (yt, .inl (cI, 7, .inl (fun _ => 0)))] sz) := by
  refine xhw (QA := fun A => XQi (fun (r : Int32) (_ : Unit) => r = (-1000000001)) D (fun _ : Unit => []) A) (by decide) (Nat.le_of_ble_eq_true rfl) ?_
  intro p e s m below meth c ls A hF hr hlk hin hsz hP hK hD hN hA hS hl
  have hF : CallFix p m c cX9_wayOf 5 s _ _ RX9 := hF
  have hx := hF.1
  have hb := hF.2.1
  have hml := hF.2.2.1
  have hown := hF.2.2.2.1
  have hu : ∀ w ∈ wsU, w.before _ s = true := fun w h => hF.2.2.2.2 w (List.mem_cons_of_mem _ h)
  have hl : lv_has ls 5 [(0, .ref h0), (1, .int p0), (2, .int p1), (3, .int p2)] := hl
  refine lv_aload_n hx hb dX9_wayOf_0 rfl (lv_at hl 0 rfl) ?_
  refine lv_iload_n hx hb dX9_wayOf_1 rfl (lv_at hl 1 rfl) ?_
  refine lv_iload_n hx hb dX9_wayOf_2 rfl (lv_at hl 2 rfl) ?_
  refine xc_Vr hF (c_X9_areTwo l D cI cJ cZ cS sa s.heap.size h0 ys yk yo yt yfa yfe yro yhe ygr yta ywa ybi ysi ynu ymo p0 p1 ) kv_X9_80 ⟨rfl, rfl, Nat.le_of_ble_eq_true rfl, Nat.le_of_ble_eq_true rfl⟩ ⟨Nat.le_of_ble_eq_true rfl, Nat.le_of_ble_eq_true rfl⟩ hK hN hP hD [0, 1] rfl rfl 0 rfl rfl rfl rfl hl.1 rfl (Nat.le_of_ble_eq_true rfl) dX9_wayOf_3 (fun r_1 hw_r_1 => ?_)
  subst hw_r_1
  refine lv_if_eq (tgt := 21) hx hb dX9_wayOf_6 (by decide) (fun c_2 => ?_) (fun c_2 => absurd (by decide) c_2)
  refine lv_aload_n hx hb dX9_wayOf_21 rfl (lv_at hl 0 rfl) ?_
  refine lv_ldc (v := (-1000000001)) hx hb hown (hu _ uw352) dX9_wayOf_22 ?_
  refine xc_Vi (wr := [(ys, .inl (cI, 449, .inl (fun _ => 0)))]) hF (c_X9_finds_B l D cI cJ cZ cS sa s.heap.size h0 ys yk yo yt yfa yfe yro yhe ygr yta ywa ybi ysi ynu ymo 0 0 0 (fun _ => 0) ) kv_X9_70 ⟨rfl, rfl, Nat.le_of_ble_eq_true rfl, Nat.le_of_ble_eq_true rfl⟩ ⟨Nat.le_of_ble_eq_true rfl, Nat.le_of_ble_eq_true rfl⟩ hK hN hP hD hS hA [0, 2] [1] rfl rfl rfl rfl (by decide) 0 rfl rfl rfl rfl hl.1 rfl (Nat.le_of_ble_eq_true rfl) dX9_wayOf_24 (fun r_3 u_r_3 H locs hw_r_3 hP hD hS => ?_)
  have hP : va_P D vwCl [(ys, .inl (cI, 449, .inl (fun _ => 0)))] H := hP
  have hD : va_D A [(ys, .inl (cI, 449, .inl (fun _ => 0)))] := hD
  subst hw_r_3
  exact W.iret (v := (-1000000001)) hx hb hr (fun t ht hW => ⟨⟨(-1000000001), (), rfl, rfl, by rw [ht]; exact hP.sub [] rfl, hD.sub [] (by decide) rfl⟩, hS.F ht⟩) hS.2.2 dX9_wayOf_27 hlk
set_option maxHeartbeats 4000000 in
set_option maxRecDepth 100000 in
theorem c_X9_shut (l : Launch) (D : va_G) (cI cJ cZ cS : ClassId) (sa : Nat → Nat) (sz : Nat) (h0 : Nat) (ys : Nat) (yk : Nat) (yo : Nat) (yt : Nat) (yfa : Nat) (yfe : Nat) (yro : Nat) (yhe : Nat) (ygr : Nat) (yta : Nat) (ywa : Nat) (ybi : Nat) (ysi : Nat) (ynu : Nat) (ymo : Nat) (p0 : Int32) (p1 : Int32) (p2 : Int32) : Met l yX9_shut (Cond.code yX9_shut cX9_shut 5 (some .int) :: wsU) ({ frames := 3, cells := 0, slots := 0, locals := 68 }) (va_Pc [.ref h0, .int p0, .int p1, .int p2] (XW D (xT cI cJ cZ cS) sa [(h0, .inr (9, [.ref ys, .ref yk, .ref yo, .ref yt, .int 0, .ref yfa, .ref yfe, .int 0, .int 0, .int 0, .ref yro, .ref yhe, .ref ygr, .int 0, .int 0, .int 0, .ref yta, .int 0, .int 0, .int 0, .int 0, .int 0, .ref ywa, .ref ybi, .ref ysi, .ref ynu, .ref ymo])), (ys, .inl (cI, 449, .inl (fun _ => 0))), (yt, .inl (cI, 7, .inl (fun _ => 0)))] sz)) (XQi (fun (r : Int32) (_ : Unit) => r = (-1000000001)) D (fun _ : Unit => []) (va_A [(h0, .inr (9, [.ref ys, .ref yk, .ref yo, .ref yt, .int 0, .ref yfa, .ref yfe, .int 0, .int 0, .int 0, .ref yro, .ref yhe, .ref ygr, .int 0, .int 0, .int 0, .ref yta, .int 0, .int 0, .int 0, .int 0, .int 0, .ref ywa, .ref ybi, .ref ysi, .ref ynu, .ref ymo])), (ys, .inl (cI, 449, .inl (fun _ => 0))), (yt, .inl (cI, 7, .inl (fun _ => 0)))] sz)) 0 0 (va_A [(h0, .inr (9, [.ref ys, .ref yk, .ref yo, .ref yt, .int 0, .ref yfa, .ref yfe, .int 0, .int 0, .int 0, .ref yro, .ref yhe, .ref ygr, .int 0, .int 0, .int 0, .ref yta, .int 0, .int 0, .int 0, .int 0, .int 0, .ref ywa, .ref ybi, .ref ysi, .ref ynu, .ref ymo])), (ys, .inl (cI, 449, .inl (fun _ => 0))), (yt, .inl (cI, 7, .inl (fun _ => 0)))] sz) := by
  refine xhw (QA := fun A => XQi (fun (r : Int32) (_ : Unit) => r = (-1000000001)) D (fun _ : Unit => []) A) (by decide) (Nat.le_of_ble_eq_true rfl) ?_
  intro p e s m below meth c ls A hF hr hlk hin hsz hP hK hD hN hA hS hl
  have hF : CallFix p m c cX9_shut 5 s _ _ RX9 := hF
  have hx := hF.1
  have hb := hF.2.1
  have hml := hF.2.2.1
  have hown := hF.2.2.2.1
  have hu : ∀ w ∈ wsU, w.before _ s = true := fun w h => hF.2.2.2.2 w (List.mem_cons_of_mem _ h)
  have hl : lv_has ls 5 [(0, .ref h0), (1, .int p0), (2, .int p1), (3, .int p2)] := hl
  refine lv_aload_n hx hb dX9_shut_0 rfl (lv_at hl 0 rfl) ?_
  refine lv_iload_n hx hb dX9_shut_1 rfl (lv_at hl 1 rfl) ?_
  refine lv_iload_n hx hb dX9_shut_2 rfl (lv_at hl 2 rfl) ?_
  refine xc_Vr hF (c_X9_areTwo l D cI cJ cZ cS sa s.heap.size h0 ys yk yo yt yfa yfe yro yhe ygr yta ywa ybi ysi ynu ymo p0 p1 ) kv_X9_80 ⟨rfl, rfl, Nat.le_of_ble_eq_true rfl, Nat.le_of_ble_eq_true rfl⟩ ⟨Nat.le_of_ble_eq_true rfl, Nat.le_of_ble_eq_true rfl⟩ hK hN hP hD [0, 1] rfl rfl 0 rfl rfl rfl rfl hl.1 rfl (Nat.le_of_ble_eq_true rfl) dX9_shut_3 (fun r_1 hw_r_1 => ?_)
  subst hw_r_1
  refine lv_if_ne (tgt := 16) hx hb dX9_shut_6 (by decide) (fun c_2 => absurd (by decide) c_2) (fun c_2 => ?_)
  refine lv_aload_n hx hb dX9_shut_9 rfl (lv_at hl 0 rfl) ?_
  refine lv_ldc (v := (-1000000001)) hx hb hown (hu _ uw352) dX9_shut_10 ?_
  refine xc_Vi (wr := [(ys, .inl (cI, 449, .inl (fun _ => 0)))]) hF (c_X9_finds_B l D cI cJ cZ cS sa s.heap.size h0 ys yk yo yt yfa yfe yro yhe ygr yta ywa ybi ysi ynu ymo 0 0 0 (fun _ => 0) ) kv_X9_70 ⟨rfl, rfl, Nat.le_of_ble_eq_true rfl, Nat.le_of_ble_eq_true rfl⟩ ⟨Nat.le_of_ble_eq_true rfl, Nat.le_of_ble_eq_true rfl⟩ hK hN hP hD hS hA [0, 2] [1] rfl rfl rfl rfl (by decide) 0 rfl rfl rfl rfl hl.1 rfl (Nat.le_of_ble_eq_true rfl) dX9_shut_12 (fun r_3 u_r_3 H locs hw_r_3 hP hD hS => ?_)
  have hP : va_P D vwCl [(ys, .inl (cI, 449, .inl (fun _ => 0)))] H := hP
  have hD : va_D A [(ys, .inl (cI, 449, .inl (fun _ => 0)))] := hD
  subst hw_r_3
  exact W.iret (v := (-1000000001)) hx hb hr (fun t ht hW => ⟨⟨(-1000000001), (), rfl, rfl, by rw [ht]; exact hP.sub [] rfl, hD.sub [] (by decide) rfl⟩, hS.F ht⟩) hS.2.2 dX9_shut_15 hlk
set_option maxHeartbeats 4000000 in
set_option maxRecDepth 100000 in
theorem c_X9_far (l : Launch) (D : va_G) (cI cJ cZ cS : ClassId) (sa : Nat → Nat) (sz : Nat) (h0 : Nat) (ys : Nat) (yk : Nat) (yo : Nat) (yt : Nat) (yfa : Nat) (yfe : Nat) (yro : Nat) (yhe : Nat) (ygr : Nat) (yta : Nat) (ywa : Nat) (ybi : Nat) (ysi : Nat) (ynu : Nat) (ymo : Nat) (p0 : Int32) (p1 : Int32) : Met l yX9_far (Cond.code yX9_far cX9_far 3 (some .int) :: wsU) ({ frames := 2, cells := 0, slots := 0, locals := 46 }) (va_Pc [.ref h0, .int p0, .int p1] (XW D (xT cI cJ cZ cS) sa [(h0, .inr (9, [.ref ys, .ref yk, .ref yo, .ref yt, .int 0, .ref yfa, .ref yfe, .int 0, .int 0, .int 0, .ref yro, .ref yhe, .ref ygr, .int 0, .int 0, .int 0, .ref yta, .int 0, .int 0, .int 0, .int 0, .int 0, .ref ywa, .ref ybi, .ref ysi, .ref ynu, .ref ymo])), (ys, .inl (cI, 449, .inl (fun _ => 0))), (yt, .inl (cI, 7, .inl (fun _ => 0)))] sz)) (XQi (fun (r : Int32) (_ : Unit) => r = (-1000000001)) D (fun _ : Unit => []) (va_A [(h0, .inr (9, [.ref ys, .ref yk, .ref yo, .ref yt, .int 0, .ref yfa, .ref yfe, .int 0, .int 0, .int 0, .ref yro, .ref yhe, .ref ygr, .int 0, .int 0, .int 0, .ref yta, .int 0, .int 0, .int 0, .int 0, .int 0, .ref ywa, .ref ybi, .ref ysi, .ref ynu, .ref ymo])), (ys, .inl (cI, 449, .inl (fun _ => 0))), (yt, .inl (cI, 7, .inl (fun _ => 0)))] sz)) 0 0 (va_A [(h0, .inr (9, [.ref ys, .ref yk, .ref yo, .ref yt, .int 0, .ref yfa, .ref yfe, .int 0, .int 0, .int 0, .ref yro, .ref yhe, .ref ygr, .int 0, .int 0, .int 0, .ref yta, .int 0, .int 0, .int 0, .int 0, .int 0, .ref ywa, .ref ybi, .ref ysi, .ref ynu, .ref ymo])), (ys, .inl (cI, 449, .inl (fun _ => 0))), (yt, .inl (cI, 7, .inl (fun _ => 0)))] sz) := by
  refine xhw (QA := fun A => XQi (fun (r : Int32) (_ : Unit) => r = (-1000000001)) D (fun _ : Unit => []) A) (by decide) (Nat.le_of_ble_eq_true rfl) ?_
  intro p e s m below meth c ls A hF hr hlk hin hsz hP hK hD hN hA hS hl
  have hF : CallFix p m c cX9_far 3 s _ _ RX9 := hF
  have hx := hF.1
  have hb := hF.2.1
  have hml := hF.2.2.1
  have hown := hF.2.2.2.1
  have hu : ∀ w ∈ wsU, w.before _ s = true := fun w h => hF.2.2.2.2 w (List.mem_cons_of_mem _ h)
  have hl : lv_has ls 3 [(0, .ref h0), (1, .int p0), (2, .int p1)] := hl
  refine lv_aload_n hx hb dX9_far_0 rfl (lv_at hl 0 rfl) ?_
  refine lv_iload_n hx hb dX9_far_1 rfl (lv_at hl 1 rfl) ?_
  refine xc_Vr hF (c_X9_isPlace l D cI cJ cZ cS sa s.heap.size h0 ys yk yo yt yfa yfe yro yhe ygr yta ywa ybi ysi ynu ymo p0 ) kv_X9_61 ⟨rfl, rfl, Nat.le_of_ble_eq_true rfl, Nat.le_of_ble_eq_true rfl⟩ ⟨Nat.le_of_ble_eq_true rfl, Nat.le_of_ble_eq_true rfl⟩ hK hN hP hD [0, 1] rfl rfl 0 rfl rfl rfl rfl hl.1 rfl (Nat.le_of_ble_eq_true rfl) dX9_far_2 (fun r_1 hw_r_1 => ?_)
  subst hw_r_1
  refine lv_if_eq (tgt := 16) hx hb dX9_far_5 (by decide) (fun c_2 => ?_) (fun c_2 => absurd (by decide) c_2)
  refine lv_aload_n hx hb dX9_far_16 rfl (lv_at hl 0 rfl) ?_
  refine lv_ldc (v := (-1000000001)) hx hb hown (hu _ uw352) dX9_far_17 ?_
  refine xc_Vi (wr := [(ys, .inl (cI, 449, .inl (fun _ => 0)))]) hF (c_X9_finds_B l D cI cJ cZ cS sa s.heap.size h0 ys yk yo yt yfa yfe yro yhe ygr yta ywa ybi ysi ynu ymo 0 0 0 (fun _ => 0) ) kv_X9_70 ⟨rfl, rfl, Nat.le_of_ble_eq_true rfl, Nat.le_of_ble_eq_true rfl⟩ ⟨Nat.le_of_ble_eq_true rfl, Nat.le_of_ble_eq_true rfl⟩ hK hN hP hD hS hA [0, 2] [1] rfl rfl rfl rfl (by decide) 0 rfl rfl rfl rfl hl.1 rfl (Nat.le_of_ble_eq_true rfl) dX9_far_19 (fun r_3 u_r_3 H locs hw_r_3 hP hD hS => ?_)
  have hP : va_P D vwCl [(ys, .inl (cI, 449, .inl (fun _ => 0)))] H := hP
  have hD : va_D A [(ys, .inl (cI, 449, .inl (fun _ => 0)))] := hD
  subst hw_r_3
  exact W.iret (v := (-1000000001)) hx hb hr (fun t ht hW => ⟨⟨(-1000000001), (), rfl, rfl, by rw [ht]; exact hP.sub [] rfl, hD.sub [] (by decide) rfl⟩, hS.F ht⟩) hS.2.2 dX9_far_22 hlk
set_option maxHeartbeats 4000000 in
set_option maxRecDepth 100000 in
theorem c_X9_by (l : Launch) (D : va_G) (cI cJ cZ cS : ClassId) (sa : Nat → Nat) (sz : Nat) (h0 : Nat) (ys : Nat) (yk : Nat) (yo : Nat) (yt : Nat) (yfa : Nat) (yfe : Nat) (yro : Nat) (yhe : Nat) (ygr : Nat) (yta : Nat) (ywa : Nat) (ybi : Nat) (ysi : Nat) (ynu : Nat) (ymo : Nat) (p0 : Int32) (p1 : Int32) (p2 : Int32) : Met l yX9_by (Cond.code yX9_by cX9_by 10 (some .int) :: wsU) ({ frames := 2, cells := 0, slots := 0, locals := 46 }) (va_Pc [.ref h0, .int p0, .int p1, .int p2] (XW D (xT cI cJ cZ cS) sa [(h0, .inr (9, [.ref ys, .ref yk, .ref yo, .ref yt, .int 0, .ref yfa, .ref yfe, .int 0, .int 0, .int 0, .ref yro, .ref yhe, .ref ygr, .int 0, .int 0, .int 0, .ref yta, .int 0, .int 0, .int 0, .int 0, .int 0, .ref ywa, .ref ybi, .ref ysi, .ref ynu, .ref ymo])), (ys, .inl (cI, 449, .inl (fun _ => 0))), (yt, .inl (cI, 7, .inl (fun _ => 0)))] sz)) (XQi (fun (r : Int32) (_ : Unit) => r = (-1000000001)) D (fun _ : Unit => []) (va_A [(h0, .inr (9, [.ref ys, .ref yk, .ref yo, .ref yt, .int 0, .ref yfa, .ref yfe, .int 0, .int 0, .int 0, .ref yro, .ref yhe, .ref ygr, .int 0, .int 0, .int 0, .ref yta, .int 0, .int 0, .int 0, .int 0, .int 0, .ref ywa, .ref ybi, .ref ysi, .ref ynu, .ref ymo])), (ys, .inl (cI, 449, .inl (fun _ => 0))), (yt, .inl (cI, 7, .inl (fun _ => 0)))] sz)) 0 0 (va_A [(h0, .inr (9, [.ref ys, .ref yk, .ref yo, .ref yt, .int 0, .ref yfa, .ref yfe, .int 0, .int 0, .int 0, .ref yro, .ref yhe, .ref ygr, .int 0, .int 0, .int 0, .ref yta, .int 0, .int 0, .int 0, .int 0, .int 0, .ref ywa, .ref ybi, .ref ysi, .ref ynu, .ref ymo])), (ys, .inl (cI, 449, .inl (fun _ => 0))), (yt, .inl (cI, 7, .inl (fun _ => 0)))] sz) := by
  refine xhw (QA := fun A => XQi (fun (r : Int32) (_ : Unit) => r = (-1000000001)) D (fun _ : Unit => []) A) (by decide) (Nat.le_of_ble_eq_true rfl) ?_
  intro p e s m below meth c ls A hF hr hlk hin hsz hP hK hD hN hA hS hl
  have hF : CallFix p m c cX9_by 10 s _ _ RX9 := hF
  have hx := hF.1
  have hb := hF.2.1
  have hml := hF.2.2.1
  have hown := hF.2.2.2.1
  have hu : ∀ w ∈ wsU, w.before _ s = true := fun w h => hF.2.2.2.2 w (List.mem_cons_of_mem _ h)
  have hl : lv_has ls 10 [(0, .ref h0), (1, .int p0), (2, .int p1), (3, .int p2)] := hl
  refine lv_aload_n hx hb dX9_by_0 rfl (lv_at hl 0 rfl) ?_
  refine lv_iload_n hx hb dX9_by_1 rfl (lv_at hl 1 rfl) ?_
  refine xc_Vr hF (c_X9_isPlace l D cI cJ cZ cS sa s.heap.size h0 ys yk yo yt yfa yfe yro yhe ygr yta ywa ybi ysi ynu ymo p0 ) kv_X9_61 ⟨rfl, rfl, Nat.le_of_ble_eq_true rfl, Nat.le_of_ble_eq_true rfl⟩ ⟨Nat.le_of_ble_eq_true rfl, Nat.le_of_ble_eq_true rfl⟩ hK hN hP hD [0, 1] rfl rfl 0 rfl rfl rfl rfl hl.1 rfl (Nat.le_of_ble_eq_true rfl) dX9_by_2 (fun r_1 hw_r_1 => ?_)
  subst hw_r_1
  refine lv_if_eq (tgt := 30) hx hb dX9_by_5 (by decide) (fun c_2 => ?_) (fun c_2 => absurd (by decide) c_2)
  refine lv_aload_n hx hb dX9_by_30 rfl (lv_at hl 0 rfl) ?_
  refine lv_ldc (v := (-1000000001)) hx hb hown (hu _ uw352) dX9_by_31 ?_
  refine xc_Vi (wr := [(ys, .inl (cI, 449, .inl (fun _ => 0)))]) hF (c_X9_finds_B l D cI cJ cZ cS sa s.heap.size h0 ys yk yo yt yfa yfe yro yhe ygr yta ywa ybi ysi ynu ymo 0 0 0 (fun _ => 0) ) kv_X9_70 ⟨rfl, rfl, Nat.le_of_ble_eq_true rfl, Nat.le_of_ble_eq_true rfl⟩ ⟨Nat.le_of_ble_eq_true rfl, Nat.le_of_ble_eq_true rfl⟩ hK hN hP hD hS hA [0, 2] [1] rfl rfl rfl rfl (by decide) 0 rfl rfl rfl rfl hl.1 rfl (Nat.le_of_ble_eq_true rfl) dX9_by_33 (fun r_3 u_r_3 H locs hw_r_3 hP hD hS => ?_)
  have hP : va_P D vwCl [(ys, .inl (cI, 449, .inl (fun _ => 0)))] H := hP
  have hD : va_D A [(ys, .inl (cI, 449, .inl (fun _ => 0)))] := hD
  subst hw_r_3
  exact W.iret (v := (-1000000001)) hx hb hr (fun t ht hW => ⟨⟨(-1000000001), (), rfl, rfl, by rw [ht]; exact hP.sub [] rfl, hD.sub [] (by decide) rfl⟩, hS.F ht⟩) hS.2.2 dX9_by_36 hlk
set_option maxHeartbeats 4000000 in
set_option maxRecDepth 100000 in
theorem c_X9_longer (l : Launch) (D : va_G) (cI cJ cZ cS : ClassId) (sa : Nat → Nat) (sz : Nat) (h0 : Nat) (ys : Nat) (yk : Nat) (yo : Nat) (yt : Nat) (yfa : Nat) (yfe : Nat) (yro : Nat) (yhe : Nat) (ygr : Nat) (yta : Nat) (ywa : Nat) (ybi : Nat) (ysi : Nat) (ynu : Nat) (ymo : Nat) (p0 : Int32) (p1 : Int32) : Met l yX9_longer (Cond.code yX9_longer cX9_longer 5 (some .int) :: wsU) ({ frames := 2, cells := 0, slots := 0, locals := 46 }) (va_Pc [.ref h0, .int p0, .int p1] (XW D (xT cI cJ cZ cS) sa [(h0, .inr (9, [.ref ys, .ref yk, .ref yo, .ref yt, .int 0, .ref yfa, .ref yfe, .int 0, .int 0, .int 0, .ref yro, .ref yhe, .ref ygr, .int 0, .int 0, .int 0, .ref yta, .int 0, .int 0, .int 0, .int 0, .int 0, .ref ywa, .ref ybi, .ref ysi, .ref ynu, .ref ymo])), (ys, .inl (cI, 449, .inl (fun _ => 0))), (yt, .inl (cI, 7, .inl (fun _ => 0)))] sz)) (XQi (fun (r : Int32) (_ : Unit) => r = (-1000000001)) D (fun _ : Unit => []) (va_A [(h0, .inr (9, [.ref ys, .ref yk, .ref yo, .ref yt, .int 0, .ref yfa, .ref yfe, .int 0, .int 0, .int 0, .ref yro, .ref yhe, .ref ygr, .int 0, .int 0, .int 0, .ref yta, .int 0, .int 0, .int 0, .int 0, .int 0, .ref ywa, .ref ybi, .ref ysi, .ref ynu, .ref ymo])), (ys, .inl (cI, 449, .inl (fun _ => 0))), (yt, .inl (cI, 7, .inl (fun _ => 0)))] sz)) 0 0 (va_A [(h0, .inr (9, [.ref ys, .ref yk, .ref yo, .ref yt, .int 0, .ref yfa, .ref yfe, .int 0, .int 0, .int 0, .ref yro, .ref yhe, .ref ygr, .int 0, .int 0, .int 0, .ref yta, .int 0, .int 0, .int 0, .int 0, .int 0, .ref ywa, .ref ybi, .ref ysi, .ref ynu, .ref ymo])), (ys, .inl (cI, 449, .inl (fun _ => 0))), (yt, .inl (cI, 7, .inl (fun _ => 0)))] sz) := by
  refine xhw (QA := fun A => XQi (fun (r : Int32) (_ : Unit) => r = (-1000000001)) D (fun _ : Unit => []) A) (by decide) (Nat.le_of_ble_eq_true rfl) ?_
  intro p e s m below meth c ls A hF hr hlk hin hsz hP hK hD hN hA hS hl
  have hF : CallFix p m c cX9_longer 5 s _ _ RX9 := hF
  have hx := hF.1
  have hb := hF.2.1
  have hml := hF.2.2.1
  have hown := hF.2.2.2.1
  have hu : ∀ w ∈ wsU, w.before _ s = true := fun w h => hF.2.2.2.2 w (List.mem_cons_of_mem _ h)
  have hl : lv_has ls 5 [(0, .ref h0), (1, .int p0), (2, .int p1)] := hl
  refine lv_aload_n hx hb dX9_longer_0 rfl (lv_at hl 0 rfl) ?_
  refine lv_iload_n hx hb dX9_longer_1 rfl (lv_at hl 1 rfl) ?_
  refine xc_Vr hF (c_X9_isPlace l D cI cJ cZ cS sa s.heap.size h0 ys yk yo yt yfa yfe yro yhe ygr yta ywa ybi ysi ynu ymo p0 ) kv_X9_61 ⟨rfl, rfl, Nat.le_of_ble_eq_true rfl, Nat.le_of_ble_eq_true rfl⟩ ⟨Nat.le_of_ble_eq_true rfl, Nat.le_of_ble_eq_true rfl⟩ hK hN hP hD [0, 1] rfl rfl 0 rfl rfl rfl rfl hl.1 rfl (Nat.le_of_ble_eq_true rfl) dX9_longer_2 (fun r_1 hw_r_1 => ?_)
  subst hw_r_1
  refine lv_if_eq (tgt := 16) hx hb dX9_longer_5 (by decide) (fun c_2 => ?_) (fun c_2 => absurd (by decide) c_2)
  refine lv_aload_n hx hb dX9_longer_16 rfl (lv_at hl 0 rfl) ?_
  refine lv_ldc (v := (-1000000001)) hx hb hown (hu _ uw352) dX9_longer_17 ?_
  refine xc_Vi (wr := [(ys, .inl (cI, 449, .inl (fun _ => 0)))]) hF (c_X9_finds_B l D cI cJ cZ cS sa s.heap.size h0 ys yk yo yt yfa yfe yro yhe ygr yta ywa ybi ysi ynu ymo 0 0 0 (fun _ => 0) ) kv_X9_70 ⟨rfl, rfl, Nat.le_of_ble_eq_true rfl, Nat.le_of_ble_eq_true rfl⟩ ⟨Nat.le_of_ble_eq_true rfl, Nat.le_of_ble_eq_true rfl⟩ hK hN hP hD hS hA [0, 2] [1] rfl rfl rfl rfl (by decide) 0 rfl rfl rfl rfl hl.1 rfl (Nat.le_of_ble_eq_true rfl) dX9_longer_19 (fun r_3 u_r_3 H locs hw_r_3 hP hD hS => ?_)
  have hP : va_P D vwCl [(ys, .inl (cI, 449, .inl (fun _ => 0)))] H := hP
  have hD : va_D A [(ys, .inl (cI, 449, .inl (fun _ => 0)))] := hD
  subst hw_r_3
  exact W.iret (v := (-1000000001)) hx hb hr (fun t ht hW => ⟨⟨(-1000000001), (), rfl, rfl, by rw [ht]; exact hP.sub [] rfl, hD.sub [] (by decide) rfl⟩, hS.F ht⟩) hS.2.2 dX9_longer_22 hlk
set_option maxHeartbeats 4000000 in
set_option maxRecDepth 100000 in
theorem c_X9_round (l : Launch) (D : va_G) (cI cJ cZ cS : ClassId) (sa : Nat → Nat) (sz : Nat) (h0 : Nat) (ys : Nat) (yk : Nat) (yo : Nat) (yt : Nat) (yfa : Nat) (yfe : Nat) (yro : Nat) (yhe : Nat) (ygr : Nat) (yta : Nat) (ywa : Nat) (ybi : Nat) (ysi : Nat) (ynu : Nat) (ymo : Nat) (p0 : Int32) (p1 : Int32) : Met l yX9_round (Cond.code yX9_round cX9_round 4 (some .int) :: wsU) ({ frames := 2, cells := 0, slots := 0, locals := 46 }) (va_Pc [.ref h0, .int p0, .int p1] (XW D (xT cI cJ cZ cS) sa [(h0, .inr (9, [.ref ys, .ref yk, .ref yo, .ref yt, .int 0, .ref yfa, .ref yfe, .int 0, .int 0, .int 0, .ref yro, .ref yhe, .ref ygr, .int 0, .int 0, .int 0, .ref yta, .int 0, .int 0, .int 0, .int 0, .int 0, .ref ywa, .ref ybi, .ref ysi, .ref ynu, .ref ymo])), (ys, .inl (cI, 449, .inl (fun _ => 0))), (yt, .inl (cI, 7, .inl (fun _ => 0)))] sz)) (XQi (fun (r : Int32) (_ : Unit) => r = (-1000000001)) D (fun _ : Unit => []) (va_A [(h0, .inr (9, [.ref ys, .ref yk, .ref yo, .ref yt, .int 0, .ref yfa, .ref yfe, .int 0, .int 0, .int 0, .ref yro, .ref yhe, .ref ygr, .int 0, .int 0, .int 0, .ref yta, .int 0, .int 0, .int 0, .int 0, .int 0, .ref ywa, .ref ybi, .ref ysi, .ref ynu, .ref ymo])), (ys, .inl (cI, 449, .inl (fun _ => 0))), (yt, .inl (cI, 7, .inl (fun _ => 0)))] sz)) 0 0 (va_A [(h0, .inr (9, [.ref ys, .ref yk, .ref yo, .ref yt, .int 0, .ref yfa, .ref yfe, .int 0, .int 0, .int 0, .ref yro, .ref yhe, .ref ygr, .int 0, .int 0, .int 0, .ref yta, .int 0, .int 0, .int 0, .int 0, .int 0, .ref ywa, .ref ybi, .ref ysi, .ref ynu, .ref ymo])), (ys, .inl (cI, 449, .inl (fun _ => 0))), (yt, .inl (cI, 7, .inl (fun _ => 0)))] sz) := by
  refine xhw (QA := fun A => XQi (fun (r : Int32) (_ : Unit) => r = (-1000000001)) D (fun _ : Unit => []) A) (by decide) (Nat.le_of_ble_eq_true rfl) ?_
  intro p e s m below meth c ls A hF hr hlk hin hsz hP hK hD hN hA hS hl
  have hF : CallFix p m c cX9_round 4 s _ _ RX9 := hF
  have hx := hF.1
  have hb := hF.2.1
  have hml := hF.2.2.1
  have hown := hF.2.2.2.1
  have hu : ∀ w ∈ wsU, w.before _ s = true := fun w h => hF.2.2.2.2 w (List.mem_cons_of_mem _ h)
  have hl : lv_has ls 4 [(0, .ref h0), (1, .int p0), (2, .int p1)] := hl
  refine lv_iload_n hx hb dX9_round_0 rfl (lv_at hl 1 rfl) ?_
  refine lv_i2l (v := p0.toInt64) hx hb dX9_round_1 rfl ?_
  refine lv_lconst (v := 0) hx hb dX9_round_2 (by decide) ?_
  refine xl_l (y := (0 : Int32).toInt64) (by decide) ?_
  refine lv_ldc2 (v := 6) hx hb hown (hu _ uw417) dX9_round_3 ?_
  refine xl_l (y := (6 : Int32).toInt64) (by decide) ?_
  refine xc_Sr hF (c_X9_in l D cI cJ cZ cS sa s.heap.size p0 0 6 ) ks_X9_57 ⟨rfl, rfl, Nat.le_of_ble_eq_true rfl, Nat.le_of_ble_eq_true rfl⟩ ⟨Nat.le_of_ble_eq_true rfl, Nat.le_of_ble_eq_true rfl⟩ hK hN hP hD [] rfl rfl rfl hl.1 rfl (Nat.le_of_ble_eq_true rfl) dX9_round_6 (fun r_1 hw_r_1 => ?_)
  rcases hw_r_1 with ⟨rfl, h_2, h_3⟩ | ⟨rfl, h_4⟩
  · skip
    refine lv_if_eq (tgt := 20) hx hb dX9_round_9 (by decide) (fun c_5 => absurd c_5 (by decide)) (fun c_5 => ?_)
    refine lv_aload_n hx hb dX9_round_12 rfl (lv_at hl 0 rfl) ?_
    refine lv_iload_n hx hb dX9_round_13 rfl (lv_at hl 2 rfl) ?_
    refine xc_Vr hF (c_X9_isPlace l D cI cJ cZ cS sa s.heap.size h0 ys yk yo yt yfa yfe yro yhe ygr yta ywa ybi ysi ynu ymo p1 ) kv_X9_61 ⟨rfl, rfl, Nat.le_of_ble_eq_true rfl, Nat.le_of_ble_eq_true rfl⟩ ⟨Nat.le_of_ble_eq_true rfl, Nat.le_of_ble_eq_true rfl⟩ hK hN hP hD [0, 1] rfl rfl 0 rfl rfl rfl rfl hl.1 rfl (Nat.le_of_ble_eq_true rfl) dX9_round_14 (fun r_6 hw_r_6 => ?_)
    subst hw_r_6
    refine lv_if_ne (tgt := 27) hx hb dX9_round_17 (by decide) (fun c_7 => absurd (by decide) c_7) (fun c_7 => ?_)
    refine lv_aload_n hx hb dX9_round_20 rfl (lv_at hl 0 rfl) ?_
    refine lv_ldc (v := (-1000000001)) hx hb hown (hu _ uw352) dX9_round_21 ?_
    refine xc_Vi (wr := [(ys, .inl (cI, 449, .inl (fun _ => 0)))]) hF (c_X9_finds_B l D cI cJ cZ cS sa s.heap.size h0 ys yk yo yt yfa yfe yro yhe ygr yta ywa ybi ysi ynu ymo 0 0 0 (fun _ => 0) ) kv_X9_70 ⟨rfl, rfl, Nat.le_of_ble_eq_true rfl, Nat.le_of_ble_eq_true rfl⟩ ⟨Nat.le_of_ble_eq_true rfl, Nat.le_of_ble_eq_true rfl⟩ hK hN hP hD hS hA [0, 2] [1] rfl rfl rfl rfl (by decide) 0 rfl rfl rfl rfl hl.1 rfl (Nat.le_of_ble_eq_true rfl) dX9_round_23 (fun r_8 u_r_8 H locs hw_r_8 hP hD hS => ?_)
    have hP : va_P D vwCl [(ys, .inl (cI, 449, .inl (fun _ => 0)))] H := hP
    have hD : va_D A [(ys, .inl (cI, 449, .inl (fun _ => 0)))] := hD
    subst hw_r_8
    exact W.iret (v := (-1000000001)) hx hb hr (fun t ht hW => ⟨⟨(-1000000001), (), rfl, rfl, by rw [ht]; exact hP.sub [] rfl, hD.sub [] (by decide) rfl⟩, hS.F ht⟩) hS.2.2 dX9_round_26 hlk
  · skip
    refine lv_if_eq (tgt := 20) hx hb dX9_round_9 (by decide) (fun c_9 => ?_) (fun c_9 => absurd (by decide) c_9)
    refine lv_aload_n hx hb dX9_round_20 rfl (lv_at hl 0 rfl) ?_
    refine lv_ldc (v := (-1000000001)) hx hb hown (hu _ uw352) dX9_round_21 ?_
    refine xc_Vi (wr := [(ys, .inl (cI, 449, .inl (fun _ => 0)))]) hF (c_X9_finds_B l D cI cJ cZ cS sa s.heap.size h0 ys yk yo yt yfa yfe yro yhe ygr yta ywa ybi ysi ynu ymo 0 0 0 (fun _ => 0) ) kv_X9_70 ⟨rfl, rfl, Nat.le_of_ble_eq_true rfl, Nat.le_of_ble_eq_true rfl⟩ ⟨Nat.le_of_ble_eq_true rfl, Nat.le_of_ble_eq_true rfl⟩ hK hN hP hD hS hA [0, 2] [1] rfl rfl rfl rfl (by decide) 0 rfl rfl rfl rfl hl.1 rfl (Nat.le_of_ble_eq_true rfl) dX9_round_23 (fun r_10 u_r_10 H locs hw_r_10 hP hD hS => ?_)
    have hP : va_P D vwCl [(ys, .inl (cI, 449, .inl (fun _ => 0)))] H := hP
    have hD : va_D A [(ys, .inl (cI, 449, .inl (fun _ => 0)))] := hD
    subst hw_r_10
    exact W.iret (v := (-1000000001)) hx hb hr (fun t ht hW => ⟨⟨(-1000000001), (), rfl, rfl, by rw [ht]; exact hP.sub [] rfl, hD.sub [] (by decide) rfl⟩, hS.F ht⟩) hS.2.2 dX9_round_26 hlk
set_option maxHeartbeats 4000000 in
set_option maxRecDepth 100000 in
theorem c_X9_over (l : Launch) (D : va_G) (cI cJ cZ cS : ClassId) (sa : Nat → Nat) (sz : Nat) (h0 : Nat) (ys : Nat) (yk : Nat) (yo : Nat) (yt : Nat) (yfa : Nat) (yfe : Nat) (yro : Nat) (yhe : Nat) (ygr : Nat) (yta : Nat) (ywa : Nat) (ybi : Nat) (ysi : Nat) (ynu : Nat) (ymo : Nat) (p0 : Int32) (p1 : Int32) : Met l yX9_over (Cond.code yX9_over cX9_over 4 (some .int) :: wsU) ({ frames := 2, cells := 0, slots := 0, locals := 46 }) (va_Pc [.ref h0, .int p0, .int p1] (XW D (xT cI cJ cZ cS) sa [(h0, .inr (9, [.ref ys, .ref yk, .ref yo, .ref yt, .int 0, .ref yfa, .ref yfe, .int 0, .int 0, .int 0, .ref yro, .ref yhe, .ref ygr, .int 0, .int 0, .int 0, .ref yta, .int 0, .int 0, .int 0, .int 0, .int 0, .ref ywa, .ref ybi, .ref ysi, .ref ynu, .ref ymo])), (ys, .inl (cI, 449, .inl (fun _ => 0))), (yt, .inl (cI, 7, .inl (fun _ => 0)))] sz)) (XQi (fun (r : Int32) (_ : Unit) => r = (-1000000001)) D (fun _ : Unit => []) (va_A [(h0, .inr (9, [.ref ys, .ref yk, .ref yo, .ref yt, .int 0, .ref yfa, .ref yfe, .int 0, .int 0, .int 0, .ref yro, .ref yhe, .ref ygr, .int 0, .int 0, .int 0, .ref yta, .int 0, .int 0, .int 0, .int 0, .int 0, .ref ywa, .ref ybi, .ref ysi, .ref ynu, .ref ymo])), (ys, .inl (cI, 449, .inl (fun _ => 0))), (yt, .inl (cI, 7, .inl (fun _ => 0)))] sz)) 0 0 (va_A [(h0, .inr (9, [.ref ys, .ref yk, .ref yo, .ref yt, .int 0, .ref yfa, .ref yfe, .int 0, .int 0, .int 0, .ref yro, .ref yhe, .ref ygr, .int 0, .int 0, .int 0, .ref yta, .int 0, .int 0, .int 0, .int 0, .int 0, .ref ywa, .ref ybi, .ref ysi, .ref ynu, .ref ymo])), (ys, .inl (cI, 449, .inl (fun _ => 0))), (yt, .inl (cI, 7, .inl (fun _ => 0)))] sz) := by
  refine xhw (QA := fun A => XQi (fun (r : Int32) (_ : Unit) => r = (-1000000001)) D (fun _ : Unit => []) A) (by decide) (Nat.le_of_ble_eq_true rfl) ?_
  intro p e s m below meth c ls A hF hr hlk hin hsz hP hK hD hN hA hS hl
  have hF : CallFix p m c cX9_over 4 s _ _ RX9 := hF
  have hx := hF.1
  have hb := hF.2.1
  have hml := hF.2.2.1
  have hown := hF.2.2.2.1
  have hu : ∀ w ∈ wsU, w.before _ s = true := fun w h => hF.2.2.2.2 w (List.mem_cons_of_mem _ h)
  have hl : lv_has ls 4 [(0, .ref h0), (1, .int p0), (2, .int p1)] := hl
  refine lv_aload_n hx hb dX9_over_0 rfl (lv_at hl 0 rfl) ?_
  refine lv_iload_n hx hb dX9_over_1 rfl (lv_at hl 1 rfl) ?_
  refine xc_Vr hF (c_X9_isRound l D cI cJ cZ cS sa s.heap.size h0 ys yk yo yt yfa yfe yro yhe ygr yta ywa ybi ysi ynu ymo p0 ) kv_X9_123 ⟨rfl, rfl, Nat.le_of_ble_eq_true rfl, Nat.le_of_ble_eq_true rfl⟩ ⟨Nat.le_of_ble_eq_true rfl, Nat.le_of_ble_eq_true rfl⟩ hK hN hP hD [0, 1] rfl rfl 0 rfl rfl rfl rfl hl.1 rfl (Nat.le_of_ble_eq_true rfl) dX9_over_2 (fun r_1 hw_r_1 => ?_)
  subst hw_r_1
  refine lv_if_eq (tgt := 16) hx hb dX9_over_5 (by decide) (fun c_2 => ?_) (fun c_2 => absurd (by decide) c_2)
  refine lv_aload_n hx hb dX9_over_16 rfl (lv_at hl 0 rfl) ?_
  refine lv_ldc (v := (-1000000001)) hx hb hown (hu _ uw352) dX9_over_17 ?_
  refine xc_Vi (wr := [(ys, .inl (cI, 449, .inl (fun _ => 0)))]) hF (c_X9_finds_B l D cI cJ cZ cS sa s.heap.size h0 ys yk yo yt yfa yfe yro yhe ygr yta ywa ybi ysi ynu ymo 0 0 0 (fun _ => 0) ) kv_X9_70 ⟨rfl, rfl, Nat.le_of_ble_eq_true rfl, Nat.le_of_ble_eq_true rfl⟩ ⟨Nat.le_of_ble_eq_true rfl, Nat.le_of_ble_eq_true rfl⟩ hK hN hP hD hS hA [0, 2] [1] rfl rfl rfl rfl (by decide) 0 rfl rfl rfl rfl hl.1 rfl (Nat.le_of_ble_eq_true rfl) dX9_over_19 (fun r_3 u_r_3 H locs hw_r_3 hP hD hS => ?_)
  have hP : va_P D vwCl [(ys, .inl (cI, 449, .inl (fun _ => 0)))] H := hP
  have hD : va_D A [(ys, .inl (cI, 449, .inl (fun _ => 0)))] := hD
  subst hw_r_3
  exact W.iret (v := (-1000000001)) hx hb hr (fun t ht hW => ⟨⟨(-1000000001), (), rfl, rfl, by rw [ht]; exact hP.sub [] rfl, hD.sub [] (by decide) rfl⟩, hS.F ht⟩) hS.2.2 dX9_over_22 hlk
set_option maxHeartbeats 4000000 in
set_option maxRecDepth 100000 in
theorem c_X9_sum (l : Launch) (D : va_G) (cI cJ cZ cS : ClassId) (sa : Nat → Nat) (sz : Nat) (h0 : Nat) (ys : Nat) (yk : Nat) (yo : Nat) (yt : Nat) (yfa : Nat) (yfe : Nat) (yro : Nat) (yhe : Nat) (ygr : Nat) (yta : Nat) (ywa : Nat) (ybi : Nat) (ysi : Nat) (ynu : Nat) (ymo : Nat) (p0 : Int32) : Met l yX9_sum (Cond.code yX9_sum cX9_sum 3 (some .int) :: wsU) ({ frames := 2, cells := 0, slots := 0, locals := 46 }) (va_Pc [.ref h0, .int p0] (XW D (xT cI cJ cZ cS) sa [(h0, .inr (9, [.ref ys, .ref yk, .ref yo, .ref yt, .int 0, .ref yfa, .ref yfe, .int 0, .int 0, .int 0, .ref yro, .ref yhe, .ref ygr, .int 0, .int 0, .int 0, .ref yta, .int 0, .int 0, .int 0, .int 0, .int 0, .ref ywa, .ref ybi, .ref ysi, .ref ynu, .ref ymo])), (ys, .inl (cI, 449, .inl (fun _ => 0))), (yt, .inl (cI, 7, .inl (fun _ => 0)))] sz)) (XQi (fun (r : Int32) (_ : Unit) => r = (-1000000001)) D (fun _ : Unit => []) (va_A [(h0, .inr (9, [.ref ys, .ref yk, .ref yo, .ref yt, .int 0, .ref yfa, .ref yfe, .int 0, .int 0, .int 0, .ref yro, .ref yhe, .ref ygr, .int 0, .int 0, .int 0, .ref yta, .int 0, .int 0, .int 0, .int 0, .int 0, .ref ywa, .ref ybi, .ref ysi, .ref ynu, .ref ymo])), (ys, .inl (cI, 449, .inl (fun _ => 0))), (yt, .inl (cI, 7, .inl (fun _ => 0)))] sz)) 0 0 (va_A [(h0, .inr (9, [.ref ys, .ref yk, .ref yo, .ref yt, .int 0, .ref yfa, .ref yfe, .int 0, .int 0, .int 0, .ref yro, .ref yhe, .ref ygr, .int 0, .int 0, .int 0, .ref yta, .int 0, .int 0, .int 0, .int 0, .int 0, .ref ywa, .ref ybi, .ref ysi, .ref ynu, .ref ymo])), (ys, .inl (cI, 449, .inl (fun _ => 0))), (yt, .inl (cI, 7, .inl (fun _ => 0)))] sz) := by
  refine xhw (QA := fun A => XQi (fun (r : Int32) (_ : Unit) => r = (-1000000001)) D (fun _ : Unit => []) A) (by decide) (Nat.le_of_ble_eq_true rfl) ?_
  intro p e s m below meth c ls A hF hr hlk hin hsz hP hK hD hN hA hS hl
  have hF : CallFix p m c cX9_sum 3 s _ _ RX9 := hF
  have hx := hF.1
  have hb := hF.2.1
  have hml := hF.2.2.1
  have hown := hF.2.2.2.1
  have hu : ∀ w ∈ wsU, w.before _ s = true := fun w h => hF.2.2.2.2 w (List.mem_cons_of_mem _ h)
  have hl : lv_has ls 3 [(0, .ref h0), (1, .int p0)] := hl
  refine lv_aload_n hx hb dX9_sum_0 rfl (lv_at hl 0 rfl) ?_
  refine lv_iload_n hx hb dX9_sum_1 rfl (lv_at hl 1 rfl) ?_
  refine xc_Vr hF (c_X9_isRound l D cI cJ cZ cS sa s.heap.size h0 ys yk yo yt yfa yfe yro yhe ygr yta ywa ybi ysi ynu ymo p0 ) kv_X9_123 ⟨rfl, rfl, Nat.le_of_ble_eq_true rfl, Nat.le_of_ble_eq_true rfl⟩ ⟨Nat.le_of_ble_eq_true rfl, Nat.le_of_ble_eq_true rfl⟩ hK hN hP hD [0, 1] rfl rfl 0 rfl rfl rfl rfl hl.1 rfl (Nat.le_of_ble_eq_true rfl) dX9_sum_2 (fun r_1 hw_r_1 => ?_)
  subst hw_r_1
  refine lv_if_ne (tgt := 15) hx hb dX9_sum_5 (by decide) (fun c_2 => absurd (by decide) c_2) (fun c_2 => ?_)
  refine lv_aload_n hx hb dX9_sum_8 rfl (lv_at hl 0 rfl) ?_
  refine lv_ldc (v := (-1000000001)) hx hb hown (hu _ uw352) dX9_sum_9 ?_
  refine xc_Vi (wr := [(ys, .inl (cI, 449, .inl (fun _ => 0)))]) hF (c_X9_finds_B l D cI cJ cZ cS sa s.heap.size h0 ys yk yo yt yfa yfe yro yhe ygr yta ywa ybi ysi ynu ymo 0 0 0 (fun _ => 0) ) kv_X9_70 ⟨rfl, rfl, Nat.le_of_ble_eq_true rfl, Nat.le_of_ble_eq_true rfl⟩ ⟨Nat.le_of_ble_eq_true rfl, Nat.le_of_ble_eq_true rfl⟩ hK hN hP hD hS hA [0, 2] [1] rfl rfl rfl rfl (by decide) 0 rfl rfl rfl rfl hl.1 rfl (Nat.le_of_ble_eq_true rfl) dX9_sum_11 (fun r_3 u_r_3 H locs hw_r_3 hP hD hS => ?_)
  have hP : va_P D vwCl [(ys, .inl (cI, 449, .inl (fun _ => 0)))] H := hP
  have hD : va_D A [(ys, .inl (cI, 449, .inl (fun _ => 0)))] := hD
  subst hw_r_3
  exact W.iret (v := (-1000000001)) hx hb hr (fun t ht hW => ⟨⟨(-1000000001), (), rfl, rfl, by rw [ht]; exact hP.sub [] rfl, hD.sub [] (by decide) rfl⟩, hS.F ht⟩) hS.2.2 dX9_sum_14 hlk
set_option maxHeartbeats 4000000 in
set_option maxRecDepth 100000 in
theorem c_X9_roundOf (l : Launch) (D : va_G) (cI cJ cZ cS : ClassId) (sa : Nat → Nat) (sz : Nat) (h0 : Nat) (ys : Nat) (yk : Nat) (yo : Nat) (yt : Nat) (yfa : Nat) (yfe : Nat) (yro : Nat) (yhe : Nat) (ygr : Nat) (yta : Nat) (ywa : Nat) (ybi : Nat) (ysi : Nat) (ynu : Nat) (ymo : Nat) (p0 : Int32) (p1 : Int32) : Met l yX9_roundOf (Cond.code yX9_roundOf cX9_roundOf 3 (some .int) :: wsU) ({ frames := 2, cells := 0, slots := 0, locals := 46 }) (va_Pc [.ref h0, .int p0, .int p1] (XW D (xT cI cJ cZ cS) sa [(h0, .inr (9, [.ref ys, .ref yk, .ref yo, .ref yt, .int 0, .ref yfa, .ref yfe, .int 0, .int 0, .int 0, .ref yro, .ref yhe, .ref ygr, .int 0, .int 0, .int 0, .ref yta, .int 0, .int 0, .int 0, .int 0, .int 0, .ref ywa, .ref ybi, .ref ysi, .ref ynu, .ref ymo])), (ys, .inl (cI, 449, .inl (fun _ => 0))), (yt, .inl (cI, 7, .inl (fun _ => 0)))] sz)) (XQi (fun (r : Int32) (_ : Unit) => r = (-1000000001)) D (fun _ : Unit => []) (va_A [(h0, .inr (9, [.ref ys, .ref yk, .ref yo, .ref yt, .int 0, .ref yfa, .ref yfe, .int 0, .int 0, .int 0, .ref yro, .ref yhe, .ref ygr, .int 0, .int 0, .int 0, .ref yta, .int 0, .int 0, .int 0, .int 0, .int 0, .ref ywa, .ref ybi, .ref ysi, .ref ynu, .ref ymo])), (ys, .inl (cI, 449, .inl (fun _ => 0))), (yt, .inl (cI, 7, .inl (fun _ => 0)))] sz)) 0 0 (va_A [(h0, .inr (9, [.ref ys, .ref yk, .ref yo, .ref yt, .int 0, .ref yfa, .ref yfe, .int 0, .int 0, .int 0, .ref yro, .ref yhe, .ref ygr, .int 0, .int 0, .int 0, .ref yta, .int 0, .int 0, .int 0, .int 0, .int 0, .ref ywa, .ref ybi, .ref ysi, .ref ynu, .ref ymo])), (ys, .inl (cI, 449, .inl (fun _ => 0))), (yt, .inl (cI, 7, .inl (fun _ => 0)))] sz) := by
  refine xhw (QA := fun A => XQi (fun (r : Int32) (_ : Unit) => r = (-1000000001)) D (fun _ : Unit => []) A) (by decide) (Nat.le_of_ble_eq_true rfl) ?_
  intro p e s m below meth c ls A hF hr hlk hin hsz hP hK hD hN hA hS hl
  have hF : CallFix p m c cX9_roundOf 3 s _ _ RX9 := hF
  have hx := hF.1
  have hb := hF.2.1
  have hml := hF.2.2.1
  have hown := hF.2.2.2.1
  have hu : ∀ w ∈ wsU, w.before _ s = true := fun w h => hF.2.2.2.2 w (List.mem_cons_of_mem _ h)
  have hl : lv_has ls 3 [(0, .ref h0), (1, .int p0), (2, .int p1)] := hl
  refine lv_aload_n hx hb dX9_roundOf_0 rfl (lv_at hl 0 rfl) ?_
  refine lv_iload_n hx hb dX9_roundOf_1 rfl (lv_at hl 1 rfl) ?_
  refine xc_Vr hF (c_X9_isRound l D cI cJ cZ cS sa s.heap.size h0 ys yk yo yt yfa yfe yro yhe ygr yta ywa ybi ysi ynu ymo p0 ) kv_X9_123 ⟨rfl, rfl, Nat.le_of_ble_eq_true rfl, Nat.le_of_ble_eq_true rfl⟩ ⟨Nat.le_of_ble_eq_true rfl, Nat.le_of_ble_eq_true rfl⟩ hK hN hP hD [0, 1] rfl rfl 0 rfl rfl rfl rfl hl.1 rfl (Nat.le_of_ble_eq_true rfl) dX9_roundOf_2 (fun r_1 hw_r_1 => ?_)
  subst hw_r_1
  refine lv_if_eq (tgt := 22) hx hb dX9_roundOf_5 (by decide) (fun c_2 => ?_) (fun c_2 => absurd (by decide) c_2)
  refine lv_aload_n hx hb dX9_roundOf_22 rfl (lv_at hl 0 rfl) ?_
  refine lv_ldc (v := (-1000000001)) hx hb hown (hu _ uw352) dX9_roundOf_23 ?_
  refine xc_Vi (wr := [(ys, .inl (cI, 449, .inl (fun _ => 0)))]) hF (c_X9_finds_B l D cI cJ cZ cS sa s.heap.size h0 ys yk yo yt yfa yfe yro yhe ygr yta ywa ybi ysi ynu ymo 0 0 0 (fun _ => 0) ) kv_X9_70 ⟨rfl, rfl, Nat.le_of_ble_eq_true rfl, Nat.le_of_ble_eq_true rfl⟩ ⟨Nat.le_of_ble_eq_true rfl, Nat.le_of_ble_eq_true rfl⟩ hK hN hP hD hS hA [0, 2] [1] rfl rfl rfl rfl (by decide) 0 rfl rfl rfl rfl hl.1 rfl (Nat.le_of_ble_eq_true rfl) dX9_roundOf_25 (fun r_3 u_r_3 H locs hw_r_3 hP hD hS => ?_)
  have hP : va_P D vwCl [(ys, .inl (cI, 449, .inl (fun _ => 0)))] H := hP
  have hD : va_D A [(ys, .inl (cI, 449, .inl (fun _ => 0)))] := hD
  subst hw_r_3
  exact W.iret (v := (-1000000001)) hx hb hr (fun t ht hW => ⟨⟨(-1000000001), (), rfl, rfl, by rw [ht]; exact hP.sub [] rfl, hD.sub [] (by decide) rfl⟩, hS.F ht⟩) hS.2.2 dX9_roundOf_28 hlk
set_option maxHeartbeats 4000000 in
set_option maxRecDepth 100000 in
theorem c_X9_as (l : Launch) (D : va_G) (cI cJ cZ cS : ClassId) (sa : Nat → Nat) (sz : Nat) (h0 : Nat) (ys : Nat) (yk : Nat) (yo : Nat) (yt : Nat) (yfa : Nat) (yfe : Nat) (yro : Nat) (yhe : Nat) (ygr : Nat) (yta : Nat) (ywa : Nat) (ybi : Nat) (ysi : Nat) (ynu : Nat) (ymo : Nat) (p0 : Int32) (p1 : Int32) : Met l yX9_as (Cond.code yX9_as cX9_as 5 (some .int) :: wsU) ({ frames := 2, cells := 0, slots := 0, locals := 46 }) (va_Pc [.ref h0, .int p0, .int p1] (XW D (xT cI cJ cZ cS) sa [(h0, .inr (9, [.ref ys, .ref yk, .ref yo, .ref yt, .int 0, .ref yfa, .ref yfe, .int 0, .int 0, .int 0, .ref yro, .ref yhe, .ref ygr, .int 0, .int 0, .int 0, .ref yta, .int 0, .int 0, .int 0, .int 0, .int 0, .ref ywa, .ref ybi, .ref ysi, .ref ynu, .ref ymo])), (ys, .inl (cI, 449, .inl (fun _ => 0))), (yt, .inl (cI, 7, .inl (fun _ => 0)))] sz)) (XQi (fun (r : Int32) (_ : Unit) => r = (-1000000001)) D (fun _ : Unit => []) (va_A [(h0, .inr (9, [.ref ys, .ref yk, .ref yo, .ref yt, .int 0, .ref yfa, .ref yfe, .int 0, .int 0, .int 0, .ref yro, .ref yhe, .ref ygr, .int 0, .int 0, .int 0, .ref yta, .int 0, .int 0, .int 0, .int 0, .int 0, .ref ywa, .ref ybi, .ref ysi, .ref ynu, .ref ymo])), (ys, .inl (cI, 449, .inl (fun _ => 0))), (yt, .inl (cI, 7, .inl (fun _ => 0)))] sz)) 0 0 (va_A [(h0, .inr (9, [.ref ys, .ref yk, .ref yo, .ref yt, .int 0, .ref yfa, .ref yfe, .int 0, .int 0, .int 0, .ref yro, .ref yhe, .ref ygr, .int 0, .int 0, .int 0, .ref yta, .int 0, .int 0, .int 0, .int 0, .int 0, .ref ywa, .ref ybi, .ref ysi, .ref ynu, .ref ymo])), (ys, .inl (cI, 449, .inl (fun _ => 0))), (yt, .inl (cI, 7, .inl (fun _ => 0)))] sz) := by
  refine xhw (QA := fun A => XQi (fun (r : Int32) (_ : Unit) => r = (-1000000001)) D (fun _ : Unit => []) A) (by decide) (Nat.le_of_ble_eq_true rfl) ?_
  intro p e s m below meth c ls A hF hr hlk hin hsz hP hK hD hN hA hS hl
  have hF : CallFix p m c cX9_as 5 s _ _ RX9 := hF
  have hx := hF.1
  have hb := hF.2.1
  have hml := hF.2.2.1
  have hown := hF.2.2.2.1
  have hu : ∀ w ∈ wsU, w.before _ s = true := fun w h => hF.2.2.2.2 w (List.mem_cons_of_mem _ h)
  have hl : lv_has ls 5 [(0, .ref h0), (1, .int p0), (2, .int p1)] := hl
  refine lv_aload_n hx hb dX9_as_0 rfl (lv_at hl 0 rfl) ?_
  refine lv_iload_n hx hb dX9_as_1 rfl (lv_at hl 1 rfl) ?_
  refine xc_Vr hF (c_X9_isRound l D cI cJ cZ cS sa s.heap.size h0 ys yk yo yt yfa yfe yro yhe ygr yta ywa ybi ysi ynu ymo p0 ) kv_X9_123 ⟨rfl, rfl, Nat.le_of_ble_eq_true rfl, Nat.le_of_ble_eq_true rfl⟩ ⟨Nat.le_of_ble_eq_true rfl, Nat.le_of_ble_eq_true rfl⟩ hK hN hP hD [0, 1] rfl rfl 0 rfl rfl rfl rfl hl.1 rfl (Nat.le_of_ble_eq_true rfl) dX9_as_2 (fun r_1 hw_r_1 => ?_)
  subst hw_r_1
  refine lv_if_eq (tgt := 20) hx hb dX9_as_5 (by decide) (fun c_2 => ?_) (fun c_2 => absurd (by decide) c_2)
  refine lv_aload_n hx hb dX9_as_20 rfl (lv_at hl 0 rfl) ?_
  refine lv_ldc (v := (-1000000001)) hx hb hown (hu _ uw352) dX9_as_21 ?_
  refine xc_Vi (wr := [(ys, .inl (cI, 449, .inl (fun _ => 0)))]) hF (c_X9_finds_B l D cI cJ cZ cS sa s.heap.size h0 ys yk yo yt yfa yfe yro yhe ygr yta ywa ybi ysi ynu ymo 0 0 0 (fun _ => 0) ) kv_X9_70 ⟨rfl, rfl, Nat.le_of_ble_eq_true rfl, Nat.le_of_ble_eq_true rfl⟩ ⟨Nat.le_of_ble_eq_true rfl, Nat.le_of_ble_eq_true rfl⟩ hK hN hP hD hS hA [0, 2] [1] rfl rfl rfl rfl (by decide) 0 rfl rfl rfl rfl hl.1 rfl (Nat.le_of_ble_eq_true rfl) dX9_as_23 (fun r_3 u_r_3 H locs hw_r_3 hP hD hS => ?_)
  have hP : va_P D vwCl [(ys, .inl (cI, 449, .inl (fun _ => 0)))] H := hP
  have hD : va_D A [(ys, .inl (cI, 449, .inl (fun _ => 0)))] := hD
  subst hw_r_3
  exact W.iret (v := (-1000000001)) hx hb hr (fun t ht hW => ⟨⟨(-1000000001), (), rfl, rfl, by rw [ht]; exact hP.sub [] rfl, hD.sub [] (by decide) rfl⟩, hS.F ht⟩) hS.2.2 dX9_as_26 hlk
set_option maxHeartbeats 4000000 in
set_option maxRecDepth 100000 in
theorem c_X9_trip (l : Launch) (D : va_G) (cI cJ cZ cS : ClassId) (sa : Nat → Nat) (sz : Nat) (h0 : Nat) (ys : Nat) (yk : Nat) (yo : Nat) (yt : Nat) (yfa : Nat) (yfe : Nat) (yro : Nat) (yhe : Nat) (ygr : Nat) (yta : Nat) (ywa : Nat) (ybi : Nat) (ysi : Nat) (ynu : Nat) (ymo : Nat) (p0 : Int32) : Met l yX9_trip (Cond.code yX9_trip cX9_trip 3 (some .int) :: wsU) ({ frames := 2, cells := 0, slots := 0, locals := 46 }) (va_Pc [.ref h0, .int p0] (XW D (xT cI cJ cZ cS) sa [(h0, .inr (9, [.ref ys, .ref yk, .ref yo, .ref yt, .int 0, .ref yfa, .ref yfe, .int 0, .int 0, .int 0, .ref yro, .ref yhe, .ref ygr, .int 0, .int 0, .int 0, .ref yta, .int 0, .int 0, .int 0, .int 0, .int 0, .ref ywa, .ref ybi, .ref ysi, .ref ynu, .ref ymo])), (ys, .inl (cI, 449, .inl (fun _ => 0))), (yt, .inl (cI, 7, .inl (fun _ => 0)))] sz)) (XQi (fun (r : Int32) (_ : Unit) => r = (-1000000001)) D (fun _ : Unit => []) (va_A [(h0, .inr (9, [.ref ys, .ref yk, .ref yo, .ref yt, .int 0, .ref yfa, .ref yfe, .int 0, .int 0, .int 0, .ref yro, .ref yhe, .ref ygr, .int 0, .int 0, .int 0, .ref yta, .int 0, .int 0, .int 0, .int 0, .int 0, .ref ywa, .ref ybi, .ref ysi, .ref ynu, .ref ymo])), (ys, .inl (cI, 449, .inl (fun _ => 0))), (yt, .inl (cI, 7, .inl (fun _ => 0)))] sz)) 0 0 (va_A [(h0, .inr (9, [.ref ys, .ref yk, .ref yo, .ref yt, .int 0, .ref yfa, .ref yfe, .int 0, .int 0, .int 0, .ref yro, .ref yhe, .ref ygr, .int 0, .int 0, .int 0, .ref yta, .int 0, .int 0, .int 0, .int 0, .int 0, .ref ywa, .ref ybi, .ref ysi, .ref ynu, .ref ymo])), (ys, .inl (cI, 449, .inl (fun _ => 0))), (yt, .inl (cI, 7, .inl (fun _ => 0)))] sz) := by
  refine xhw (QA := fun A => XQi (fun (r : Int32) (_ : Unit) => r = (-1000000001)) D (fun _ : Unit => []) A) (by decide) (Nat.le_of_ble_eq_true rfl) ?_
  intro p e s m below meth c ls A hF hr hlk hin hsz hP hK hD hN hA hS hl
  have hF : CallFix p m c cX9_trip 3 s _ _ RX9 := hF
  have hx := hF.1
  have hb := hF.2.1
  have hml := hF.2.2.1
  have hown := hF.2.2.2.1
  have hu : ∀ w ∈ wsU, w.before _ s = true := fun w h => hF.2.2.2.2 w (List.mem_cons_of_mem _ h)
  have hl : lv_has ls 3 [(0, .ref h0), (1, .int p0)] := hl
  refine lv_aload_n hx hb dX9_trip_0 rfl (lv_at hl 0 rfl) ?_
  refine lv_iload_n hx hb dX9_trip_1 rfl (lv_at hl 1 rfl) ?_
  refine xc_Vr hF (c_X9_isPlace l D cI cJ cZ cS sa s.heap.size h0 ys yk yo yt yfa yfe yro yhe ygr yta ywa ybi ysi ynu ymo p0 ) kv_X9_61 ⟨rfl, rfl, Nat.le_of_ble_eq_true rfl, Nat.le_of_ble_eq_true rfl⟩ ⟨Nat.le_of_ble_eq_true rfl, Nat.le_of_ble_eq_true rfl⟩ hK hN hP hD [0, 1] rfl rfl 0 rfl rfl rfl rfl hl.1 rfl (Nat.le_of_ble_eq_true rfl) dX9_trip_2 (fun r_1 hw_r_1 => ?_)
  subst hw_r_1
  refine lv_if_ne (tgt := 15) hx hb dX9_trip_5 (by decide) (fun c_2 => absurd (by decide) c_2) (fun c_2 => ?_)
  refine lv_aload_n hx hb dX9_trip_8 rfl (lv_at hl 0 rfl) ?_
  refine lv_ldc (v := (-1000000001)) hx hb hown (hu _ uw352) dX9_trip_9 ?_
  refine xc_Vi (wr := [(ys, .inl (cI, 449, .inl (fun _ => 0)))]) hF (c_X9_finds_B l D cI cJ cZ cS sa s.heap.size h0 ys yk yo yt yfa yfe yro yhe ygr yta ywa ybi ysi ynu ymo 0 0 0 (fun _ => 0) ) kv_X9_70 ⟨rfl, rfl, Nat.le_of_ble_eq_true rfl, Nat.le_of_ble_eq_true rfl⟩ ⟨Nat.le_of_ble_eq_true rfl, Nat.le_of_ble_eq_true rfl⟩ hK hN hP hD hS hA [0, 2] [1] rfl rfl rfl rfl (by decide) 0 rfl rfl rfl rfl hl.1 rfl (Nat.le_of_ble_eq_true rfl) dX9_trip_11 (fun r_3 u_r_3 H locs hw_r_3 hP hD hS => ?_)
  have hP : va_P D vwCl [(ys, .inl (cI, 449, .inl (fun _ => 0)))] H := hP
  have hD : va_D A [(ys, .inl (cI, 449, .inl (fun _ => 0)))] := hD
  subst hw_r_3
  exact W.iret (v := (-1000000001)) hx hb hr (fun t ht hW => ⟨⟨(-1000000001), (), rfl, rfl, by rw [ht]; exact hP.sub [] rfl, hD.sub [] (by decide) rfl⟩, hS.F ht⟩) hS.2.2 dX9_trip_14 hlk
set_option maxHeartbeats 4000000 in
set_option maxRecDepth 100000 in
theorem c_X9_meet (l : Launch) (D : va_G) (cI cJ cZ cS : ClassId) (sa : Nat → Nat) (sz : Nat) (h0 : Nat) (ys : Nat) (yk : Nat) (yo : Nat) (yt : Nat) (yfa : Nat) (yfe : Nat) (yro : Nat) (yhe : Nat) (ygr : Nat) (yta : Nat) (ywa : Nat) (ybi : Nat) (ysi : Nat) (ynu : Nat) (ymo : Nat) (p0 : Int32) (p1 : Int32) (p2 : Int32) : Met l yX9_meet (Cond.code yX9_meet cX9_meet 8 (some .int) :: wsU) ({ frames := 2, cells := 0, slots := 0, locals := 46 }) (va_Pc [.ref h0, .int p0, .int p1, .int p2] (XW D (xT cI cJ cZ cS) sa [(h0, .inr (9, [.ref ys, .ref yk, .ref yo, .ref yt, .int 0, .ref yfa, .ref yfe, .int 0, .int 0, .int 0, .ref yro, .ref yhe, .ref ygr, .int 0, .int 0, .int 0, .ref yta, .int 0, .int 0, .int 0, .int 0, .int 0, .ref ywa, .ref ybi, .ref ysi, .ref ynu, .ref ymo])), (ys, .inl (cI, 449, .inl (fun _ => 0))), (yt, .inl (cI, 7, .inl (fun _ => 0)))] sz)) (XQi (fun (r : Int32) (_ : Unit) => r = (-1000000001)) D (fun _ : Unit => []) (va_A [(h0, .inr (9, [.ref ys, .ref yk, .ref yo, .ref yt, .int 0, .ref yfa, .ref yfe, .int 0, .int 0, .int 0, .ref yro, .ref yhe, .ref ygr, .int 0, .int 0, .int 0, .ref yta, .int 0, .int 0, .int 0, .int 0, .int 0, .ref ywa, .ref ybi, .ref ysi, .ref ynu, .ref ymo])), (ys, .inl (cI, 449, .inl (fun _ => 0))), (yt, .inl (cI, 7, .inl (fun _ => 0)))] sz)) 0 0 (va_A [(h0, .inr (9, [.ref ys, .ref yk, .ref yo, .ref yt, .int 0, .ref yfa, .ref yfe, .int 0, .int 0, .int 0, .ref yro, .ref yhe, .ref ygr, .int 0, .int 0, .int 0, .ref yta, .int 0, .int 0, .int 0, .int 0, .int 0, .ref ywa, .ref ybi, .ref ysi, .ref ynu, .ref ymo])), (ys, .inl (cI, 449, .inl (fun _ => 0))), (yt, .inl (cI, 7, .inl (fun _ => 0)))] sz) := by
  refine xhw (QA := fun A => XQi (fun (r : Int32) (_ : Unit) => r = (-1000000001)) D (fun _ : Unit => []) A) (by decide) (Nat.le_of_ble_eq_true rfl) ?_
  intro p e s m below meth c ls A hF hr hlk hin hsz hP hK hD hN hA hS hl
  have hF : CallFix p m c cX9_meet 8 s _ _ RX9 := hF
  have hx := hF.1
  have hb := hF.2.1
  have hml := hF.2.2.1
  have hown := hF.2.2.2.1
  have hu : ∀ w ∈ wsU, w.before _ s = true := fun w h => hF.2.2.2.2 w (List.mem_cons_of_mem _ h)
  have hl : lv_has ls 8 [(0, .ref h0), (1, .int p0), (2, .int p1), (3, .int p2)] := hl
  refine lv_aload_n hx hb dX9_meet_0 rfl (lv_at hl 0 rfl) ?_
  refine lv_iload_n hx hb dX9_meet_1 rfl (lv_at hl 1 rfl) ?_
  refine xc_Vr hF (c_X9_isPlace l D cI cJ cZ cS sa s.heap.size h0 ys yk yo yt yfa yfe yro yhe ygr yta ywa ybi ysi ynu ymo p0 ) kv_X9_61 ⟨rfl, rfl, Nat.le_of_ble_eq_true rfl, Nat.le_of_ble_eq_true rfl⟩ ⟨Nat.le_of_ble_eq_true rfl, Nat.le_of_ble_eq_true rfl⟩ hK hN hP hD [0, 1] rfl rfl 0 rfl rfl rfl rfl hl.1 rfl (Nat.le_of_ble_eq_true rfl) dX9_meet_2 (fun r_1 hw_r_1 => ?_)
  subst hw_r_1
  refine lv_if_eq (tgt := 28) hx hb dX9_meet_5 (by decide) (fun c_2 => ?_) (fun c_2 => absurd (by decide) c_2)
  refine lv_aload_n hx hb dX9_meet_28 rfl (lv_at hl 0 rfl) ?_
  refine lv_ldc (v := (-1000000001)) hx hb hown (hu _ uw352) dX9_meet_29 ?_
  refine xc_Vi (wr := [(ys, .inl (cI, 449, .inl (fun _ => 0)))]) hF (c_X9_finds_B l D cI cJ cZ cS sa s.heap.size h0 ys yk yo yt yfa yfe yro yhe ygr yta ywa ybi ysi ynu ymo 0 0 0 (fun _ => 0) ) kv_X9_70 ⟨rfl, rfl, Nat.le_of_ble_eq_true rfl, Nat.le_of_ble_eq_true rfl⟩ ⟨Nat.le_of_ble_eq_true rfl, Nat.le_of_ble_eq_true rfl⟩ hK hN hP hD hS hA [0, 2] [1] rfl rfl rfl rfl (by decide) 0 rfl rfl rfl rfl hl.1 rfl (Nat.le_of_ble_eq_true rfl) dX9_meet_31 (fun r_3 u_r_3 H locs hw_r_3 hP hD hS => ?_)
  have hP : va_P D vwCl [(ys, .inl (cI, 449, .inl (fun _ => 0)))] H := hP
  have hD : va_D A [(ys, .inl (cI, 449, .inl (fun _ => 0)))] := hD
  subst hw_r_3
  exact W.iret (v := (-1000000001)) hx hb hr (fun t ht hW => ⟨⟨(-1000000001), (), rfl, rfl, by rw [ht]; exact hP.sub [] rfl, hD.sub [] (by decide) rfl⟩, hS.F ht⟩) hS.2.2 dX9_meet_34 hlk
set_option maxHeartbeats 4000000 in
set_option maxRecDepth 100000 in
theorem c_X9_height (l : Launch) (D : va_G) (cI cJ cZ cS : ClassId) (sa : Nat → Nat) (sz : Nat) (h0 : Nat) (ys : Nat) (yk : Nat) (yo : Nat) (yt : Nat) (yfa : Nat) (yfe : Nat) (yro : Nat) (yhe : Nat) (ygr : Nat) (yta : Nat) (ywa : Nat) (ybi : Nat) (ysi : Nat) (ynu : Nat) (ymo : Nat) (p0 : Int32) : Met l yX9_height (Cond.code yX9_height cX9_height 2 (some .int) :: wsU) ({ frames := 2, cells := 0, slots := 0, locals := 46 }) (va_Pc [.ref h0, .int p0] (XW D (xT cI cJ cZ cS) sa [(h0, .inr (9, [.ref ys, .ref yk, .ref yo, .ref yt, .int 0, .ref yfa, .ref yfe, .int 0, .int 0, .int 0, .ref yro, .ref yhe, .ref ygr, .int 0, .int 0, .int 0, .ref yta, .int 0, .int 0, .int 0, .int 0, .int 0, .ref ywa, .ref ybi, .ref ysi, .ref ynu, .ref ymo])), (ys, .inl (cI, 449, .inl (fun _ => 0))), (yt, .inl (cI, 7, .inl (fun _ => 0)))] sz)) (XQi (fun (r : Int32) (_ : Unit) => r = (-1000000001)) D (fun _ : Unit => []) (va_A [(h0, .inr (9, [.ref ys, .ref yk, .ref yo, .ref yt, .int 0, .ref yfa, .ref yfe, .int 0, .int 0, .int 0, .ref yro, .ref yhe, .ref ygr, .int 0, .int 0, .int 0, .ref yta, .int 0, .int 0, .int 0, .int 0, .int 0, .ref ywa, .ref ybi, .ref ysi, .ref ynu, .ref ymo])), (ys, .inl (cI, 449, .inl (fun _ => 0))), (yt, .inl (cI, 7, .inl (fun _ => 0)))] sz)) 0 0 (va_A [(h0, .inr (9, [.ref ys, .ref yk, .ref yo, .ref yt, .int 0, .ref yfa, .ref yfe, .int 0, .int 0, .int 0, .ref yro, .ref yhe, .ref ygr, .int 0, .int 0, .int 0, .ref yta, .int 0, .int 0, .int 0, .int 0, .int 0, .ref ywa, .ref ybi, .ref ysi, .ref ynu, .ref ymo])), (ys, .inl (cI, 449, .inl (fun _ => 0))), (yt, .inl (cI, 7, .inl (fun _ => 0)))] sz) := by
  refine xhw (QA := fun A => XQi (fun (r : Int32) (_ : Unit) => r = (-1000000001)) D (fun _ : Unit => []) A) (by decide) (Nat.le_of_ble_eq_true rfl) ?_
  intro p e s m below meth c ls A hF hr hlk hin hsz hP hK hD hN hA hS hl
  have hF : CallFix p m c cX9_height 2 s _ _ RX9 := hF
  have hx := hF.1
  have hb := hF.2.1
  have hml := hF.2.2.1
  have hown := hF.2.2.2.1
  have hu : ∀ w ∈ wsU, w.before _ s = true := fun w h => hF.2.2.2.2 w (List.mem_cons_of_mem _ h)
  have hl : lv_has ls 2 [(0, .ref h0), (1, .int p0)] := hl
  refine lv_aload_n hx hb dX9_height_0 rfl (lv_at hl 0 rfl) ?_
  refine lv_iload_n hx hb dX9_height_1 rfl (lv_at hl 1 rfl) ?_
  refine xc_Vr hF (c_X9_isPlace l D cI cJ cZ cS sa s.heap.size h0 ys yk yo yt yfa yfe yro yhe ygr yta ywa ybi ysi ynu ymo p0 ) kv_X9_61 ⟨rfl, rfl, Nat.le_of_ble_eq_true rfl, Nat.le_of_ble_eq_true rfl⟩ ⟨Nat.le_of_ble_eq_true rfl, Nat.le_of_ble_eq_true rfl⟩ hK hN hP hD [0, 1] rfl rfl 0 rfl rfl rfl rfl hl.1 rfl (Nat.le_of_ble_eq_true rfl) dX9_height_2 (fun r_1 hw_r_1 => ?_)
  subst hw_r_1
  refine lv_if_ne (tgt := 15) hx hb dX9_height_5 (by decide) (fun c_2 => absurd (by decide) c_2) (fun c_2 => ?_)
  refine lv_aload_n hx hb dX9_height_8 rfl (lv_at hl 0 rfl) ?_
  refine lv_ldc (v := (-1000000001)) hx hb hown (hu _ uw352) dX9_height_9 ?_
  refine xc_Vi (wr := [(ys, .inl (cI, 449, .inl (fun _ => 0)))]) hF (c_X9_finds_B l D cI cJ cZ cS sa s.heap.size h0 ys yk yo yt yfa yfe yro yhe ygr yta ywa ybi ysi ynu ymo 0 0 0 (fun _ => 0) ) kv_X9_70 ⟨rfl, rfl, Nat.le_of_ble_eq_true rfl, Nat.le_of_ble_eq_true rfl⟩ ⟨Nat.le_of_ble_eq_true rfl, Nat.le_of_ble_eq_true rfl⟩ hK hN hP hD hS hA [0, 2] [1] rfl rfl rfl rfl (by decide) 0 rfl rfl rfl rfl hl.1 rfl (Nat.le_of_ble_eq_true rfl) dX9_height_11 (fun r_3 u_r_3 H locs hw_r_3 hP hD hS => ?_)
  have hP : va_P D vwCl [(ys, .inl (cI, 449, .inl (fun _ => 0)))] H := hP
  have hD : va_D A [(ys, .inl (cI, 449, .inl (fun _ => 0)))] := hD
  subst hw_r_3
  exact W.iret (v := (-1000000001)) hx hb hr (fun t ht hW => ⟨⟨(-1000000001), (), rfl, rfl, by rw [ht]; exact hP.sub [] rfl, hD.sub [] (by decide) rfl⟩, hS.F ht⟩) hS.2.2 dX9_height_14 hlk
set_option maxHeartbeats 4000000 in
set_option maxRecDepth 100000 in
theorem c_X9_paper (l : Launch) (D : va_G) (cI cJ cZ cS : ClassId) (sa : Nat → Nat) (sz : Nat) (h0 : Nat) (ys : Nat) (yk : Nat) (yo : Nat) (yt : Nat) (yfa : Nat) (yfe : Nat) (yro : Nat) (yhe : Nat) (ygr : Nat) (yta : Nat) (ywa : Nat) (ybi : Nat) (ysi : Nat) (ynu : Nat) (ymo : Nat) (p0 : Int32) (p1 : Int32) : Met l yX9_paper (Cond.code yX9_paper cX9_paper 3 (some .int) :: wsU) ({ frames := 3, cells := 0, slots := 0, locals := 68 }) (va_Pc [.ref h0, .int p0, .int p1] (XW D (xT cI cJ cZ cS) sa [(h0, .inr (9, [.ref ys, .ref yk, .ref yo, .ref yt, .int 0, .ref yfa, .ref yfe, .int 0, .int 0, .int 0, .ref yro, .ref yhe, .ref ygr, .int 0, .int 0, .int 0, .ref yta, .int 0, .int 0, .int 0, .int 0, .int 0, .ref ywa, .ref ybi, .ref ysi, .ref ynu, .ref ymo])), (ys, .inl (cI, 449, .inl (fun _ => 0))), (yt, .inl (cI, 7, .inl (fun _ => 0)))] sz)) (XQi (fun (r : Int32) (_ : Unit) => r = (-1000000001)) D (fun _ : Unit => []) (va_A [(h0, .inr (9, [.ref ys, .ref yk, .ref yo, .ref yt, .int 0, .ref yfa, .ref yfe, .int 0, .int 0, .int 0, .ref yro, .ref yhe, .ref ygr, .int 0, .int 0, .int 0, .ref yta, .int 0, .int 0, .int 0, .int 0, .int 0, .ref ywa, .ref ybi, .ref ysi, .ref ynu, .ref ymo])), (ys, .inl (cI, 449, .inl (fun _ => 0))), (yt, .inl (cI, 7, .inl (fun _ => 0)))] sz)) 0 0 (va_A [(h0, .inr (9, [.ref ys, .ref yk, .ref yo, .ref yt, .int 0, .ref yfa, .ref yfe, .int 0, .int 0, .int 0, .ref yro, .ref yhe, .ref ygr, .int 0, .int 0, .int 0, .ref yta, .int 0, .int 0, .int 0, .int 0, .int 0, .ref ywa, .ref ybi, .ref ysi, .ref ynu, .ref ymo])), (ys, .inl (cI, 449, .inl (fun _ => 0))), (yt, .inl (cI, 7, .inl (fun _ => 0)))] sz) := by
  refine xhw (QA := fun A => XQi (fun (r : Int32) (_ : Unit) => r = (-1000000001)) D (fun _ : Unit => []) A) (by decide) (Nat.le_of_ble_eq_true rfl) ?_
  intro p e s m below meth c ls A hF hr hlk hin hsz hP hK hD hN hA hS hl
  have hF : CallFix p m c cX9_paper 3 s _ _ RX9 := hF
  have hx := hF.1
  have hb := hF.2.1
  have hml := hF.2.2.1
  have hown := hF.2.2.2.1
  have hu : ∀ w ∈ wsU, w.before _ s = true := fun w h => hF.2.2.2.2 w (List.mem_cons_of_mem _ h)
  have hl : lv_has ls 3 [(0, .ref h0), (1, .int p0), (2, .int p1)] := hl
  refine lv_aload_n hx hb dX9_paper_0 rfl (lv_at hl 0 rfl) ?_
  refine lv_iload_n hx hb dX9_paper_1 rfl (lv_at hl 1 rfl) ?_
  refine lv_iload_n hx hb dX9_paper_2 rfl (lv_at hl 2 rfl) ?_
  refine xc_Vr hF (c_X9_areTwo l D cI cJ cZ cS sa s.heap.size h0 ys yk yo yt yfa yfe yro yhe ygr yta ywa ybi ysi ynu ymo p0 p1 ) kv_X9_80 ⟨rfl, rfl, Nat.le_of_ble_eq_true rfl, Nat.le_of_ble_eq_true rfl⟩ ⟨Nat.le_of_ble_eq_true rfl, Nat.le_of_ble_eq_true rfl⟩ hK hN hP hD [0, 1] rfl rfl 0 rfl rfl rfl rfl hl.1 rfl (Nat.le_of_ble_eq_true rfl) dX9_paper_3 (fun r_1 hw_r_1 => ?_)
  subst hw_r_1
  refine lv_if_ne (tgt := 16) hx hb dX9_paper_6 (by decide) (fun c_2 => absurd (by decide) c_2) (fun c_2 => ?_)
  refine lv_aload_n hx hb dX9_paper_9 rfl (lv_at hl 0 rfl) ?_
  refine lv_ldc (v := (-1000000001)) hx hb hown (hu _ uw352) dX9_paper_10 ?_
  refine xc_Vi (wr := [(ys, .inl (cI, 449, .inl (fun _ => 0)))]) hF (c_X9_finds_B l D cI cJ cZ cS sa s.heap.size h0 ys yk yo yt yfa yfe yro yhe ygr yta ywa ybi ysi ynu ymo 0 0 0 (fun _ => 0) ) kv_X9_70 ⟨rfl, rfl, Nat.le_of_ble_eq_true rfl, Nat.le_of_ble_eq_true rfl⟩ ⟨Nat.le_of_ble_eq_true rfl, Nat.le_of_ble_eq_true rfl⟩ hK hN hP hD hS hA [0, 2] [1] rfl rfl rfl rfl (by decide) 0 rfl rfl rfl rfl hl.1 rfl (Nat.le_of_ble_eq_true rfl) dX9_paper_12 (fun r_3 u_r_3 H locs hw_r_3 hP hD hS => ?_)
  have hP : va_P D vwCl [(ys, .inl (cI, 449, .inl (fun _ => 0)))] H := hP
  have hD : va_D A [(ys, .inl (cI, 449, .inl (fun _ => 0)))] := hD
  subst hw_r_3
  exact W.iret (v := (-1000000001)) hx hb hr (fun t ht hW => ⟨⟨(-1000000001), (), rfl, rfl, by rw [ht]; exact hP.sub [] rfl, hD.sub [] (by decide) rfl⟩, hS.F ht⟩) hS.2.2 dX9_paper_15 hlk
set_option maxHeartbeats 4000000 in
set_option maxRecDepth 100000 in
theorem c_X9_walk (l : Launch) (D : va_G) (cI cJ cZ cS : ClassId) (sa : Nat → Nat) (sz : Nat) (h0 : Nat) (ys : Nat) (yk : Nat) (yo : Nat) (yt : Nat) (yfa : Nat) (yfe : Nat) (yro : Nat) (yhe : Nat) (ygr : Nat) (yta : Nat) (ywa : Nat) (ybi : Nat) (ysi : Nat) (ynu : Nat) (ymo : Nat) (p0 : Int32) (p1 : Int32) (p2 : Int32) (p3 : Int32) : Met l yX9_walk (Cond.code yX9_walk cX9_walk 5 (some .int) :: wsU) ({ frames := 3, cells := 0, slots := 0, locals := 68 }) (va_Pc [.ref h0, .int p0, .int p1, .int p2, .int p3] (XW D (xT cI cJ cZ cS) sa [(h0, .inr (9, [.ref ys, .ref yk, .ref yo, .ref yt, .int 0, .ref yfa, .ref yfe, .int 0, .int 0, .int 0, .ref yro, .ref yhe, .ref ygr, .int 0, .int 0, .int 0, .ref yta, .int 0, .int 0, .int 0, .int 0, .int 0, .ref ywa, .ref ybi, .ref ysi, .ref ynu, .ref ymo])), (ys, .inl (cI, 449, .inl (fun _ => 0))), (yt, .inl (cI, 7, .inl (fun _ => 0)))] sz)) (XQi (fun (r : Int32) (_ : Unit) => r = (-1000000001)) D (fun _ : Unit => []) (va_A [(h0, .inr (9, [.ref ys, .ref yk, .ref yo, .ref yt, .int 0, .ref yfa, .ref yfe, .int 0, .int 0, .int 0, .ref yro, .ref yhe, .ref ygr, .int 0, .int 0, .int 0, .ref yta, .int 0, .int 0, .int 0, .int 0, .int 0, .ref ywa, .ref ybi, .ref ysi, .ref ynu, .ref ymo])), (ys, .inl (cI, 449, .inl (fun _ => 0))), (yt, .inl (cI, 7, .inl (fun _ => 0)))] sz)) 0 0 (va_A [(h0, .inr (9, [.ref ys, .ref yk, .ref yo, .ref yt, .int 0, .ref yfa, .ref yfe, .int 0, .int 0, .int 0, .ref yro, .ref yhe, .ref ygr, .int 0, .int 0, .int 0, .ref yta, .int 0, .int 0, .int 0, .int 0, .int 0, .ref ywa, .ref ybi, .ref ysi, .ref ynu, .ref ymo])), (ys, .inl (cI, 449, .inl (fun _ => 0))), (yt, .inl (cI, 7, .inl (fun _ => 0)))] sz) := by
  refine xhw (QA := fun A => XQi (fun (r : Int32) (_ : Unit) => r = (-1000000001)) D (fun _ : Unit => []) A) (by decide) (Nat.le_of_ble_eq_true rfl) ?_
  intro p e s m below meth c ls A hF hr hlk hin hsz hP hK hD hN hA hS hl
  have hF : CallFix p m c cX9_walk 5 s _ _ RX9 := hF
  have hx := hF.1
  have hb := hF.2.1
  have hml := hF.2.2.1
  have hown := hF.2.2.2.1
  have hu : ∀ w ∈ wsU, w.before _ s = true := fun w h => hF.2.2.2.2 w (List.mem_cons_of_mem _ h)
  have hl : lv_has ls 5 [(0, .ref h0), (1, .int p0), (2, .int p1), (3, .int p2), (4, .int p3)] := hl
  refine lv_aload_n hx hb dX9_walk_0 rfl (lv_at hl 0 rfl) ?_
  refine lv_iload_n hx hb dX9_walk_1 rfl (lv_at hl 1 rfl) ?_
  refine lv_iload_n hx hb dX9_walk_2 rfl (lv_at hl 2 rfl) ?_
  refine xc_Vr hF (c_X9_areTwo l D cI cJ cZ cS sa s.heap.size h0 ys yk yo yt yfa yfe yro yhe ygr yta ywa ybi ysi ynu ymo p0 p1 ) kv_X9_80 ⟨rfl, rfl, Nat.le_of_ble_eq_true rfl, Nat.le_of_ble_eq_true rfl⟩ ⟨Nat.le_of_ble_eq_true rfl, Nat.le_of_ble_eq_true rfl⟩ hK hN hP hD [0, 1] rfl rfl 0 rfl rfl rfl rfl hl.1 rfl (Nat.le_of_ble_eq_true rfl) dX9_walk_3 (fun r_1 hw_r_1 => ?_)
  subst hw_r_1
  refine lv_if_eq (tgt := 29) hx hb dX9_walk_6 (by decide) (fun c_2 => ?_) (fun c_2 => absurd (by decide) c_2)
  refine lv_aload_n hx hb dX9_walk_29 rfl (lv_at hl 0 rfl) ?_
  refine lv_ldc (v := (-1000000001)) hx hb hown (hu _ uw352) dX9_walk_30 ?_
  refine xc_Vi (wr := [(ys, .inl (cI, 449, .inl (fun _ => 0)))]) hF (c_X9_finds_B l D cI cJ cZ cS sa s.heap.size h0 ys yk yo yt yfa yfe yro yhe ygr yta ywa ybi ysi ynu ymo 0 0 0 (fun _ => 0) ) kv_X9_70 ⟨rfl, rfl, Nat.le_of_ble_eq_true rfl, Nat.le_of_ble_eq_true rfl⟩ ⟨Nat.le_of_ble_eq_true rfl, Nat.le_of_ble_eq_true rfl⟩ hK hN hP hD hS hA [0, 2] [1] rfl rfl rfl rfl (by decide) 0 rfl rfl rfl rfl hl.1 rfl (Nat.le_of_ble_eq_true rfl) dX9_walk_32 (fun r_3 u_r_3 H locs hw_r_3 hP hD hS => ?_)
  have hP : va_P D vwCl [(ys, .inl (cI, 449, .inl (fun _ => 0)))] H := hP
  have hD : va_D A [(ys, .inl (cI, 449, .inl (fun _ => 0)))] := hD
  subst hw_r_3
  exact W.iret (v := (-1000000001)) hx hb hr (fun t ht hW => ⟨⟨(-1000000001), (), rfl, rfl, by rw [ht]; exact hP.sub [] rfl, hD.sub [] (by decide) rfl⟩, hS.F ht⟩) hS.2.2 dX9_walk_35 hlk
set_option maxHeartbeats 4000000 in
set_option maxRecDepth 100000 in
theorem c_X9_saves (l : Launch) (D : va_G) (cI cJ cZ cS : ClassId) (sa : Nat → Nat) (sz : Nat) (h0 : Nat) (ys : Nat) (yk : Nat) (yo : Nat) (yt : Nat) (yfa : Nat) (yfe : Nat) (yro : Nat) (yhe : Nat) (ygr : Nat) (yta : Nat) (ywa : Nat) (ybi : Nat) (ysi : Nat) (ynu : Nat) (ymo : Nat) (p0 : Int32) (p1 : Int32) : Met l yX9_saves (Cond.code yX9_saves cX9_saves 5 (some .int) :: wsU) ({ frames := 3, cells := 0, slots := 0, locals := 68 }) (va_Pc [.ref h0, .int p0, .int p1] (XW D (xT cI cJ cZ cS) sa [(h0, .inr (9, [.ref ys, .ref yk, .ref yo, .ref yt, .int 0, .ref yfa, .ref yfe, .int 0, .int 0, .int 0, .ref yro, .ref yhe, .ref ygr, .int 0, .int 0, .int 0, .ref yta, .int 0, .int 0, .int 0, .int 0, .int 0, .ref ywa, .ref ybi, .ref ysi, .ref ynu, .ref ymo])), (ys, .inl (cI, 449, .inl (fun _ => 0))), (yt, .inl (cI, 7, .inl (fun _ => 0)))] sz)) (XQi (fun (r : Int32) (_ : Unit) => r = (-1000000001)) D (fun _ : Unit => []) (va_A [(h0, .inr (9, [.ref ys, .ref yk, .ref yo, .ref yt, .int 0, .ref yfa, .ref yfe, .int 0, .int 0, .int 0, .ref yro, .ref yhe, .ref ygr, .int 0, .int 0, .int 0, .ref yta, .int 0, .int 0, .int 0, .int 0, .int 0, .ref ywa, .ref ybi, .ref ysi, .ref ynu, .ref ymo])), (ys, .inl (cI, 449, .inl (fun _ => 0))), (yt, .inl (cI, 7, .inl (fun _ => 0)))] sz)) 0 0 (va_A [(h0, .inr (9, [.ref ys, .ref yk, .ref yo, .ref yt, .int 0, .ref yfa, .ref yfe, .int 0, .int 0, .int 0, .ref yro, .ref yhe, .ref ygr, .int 0, .int 0, .int 0, .ref yta, .int 0, .int 0, .int 0, .int 0, .int 0, .ref ywa, .ref ybi, .ref ysi, .ref ynu, .ref ymo])), (ys, .inl (cI, 449, .inl (fun _ => 0))), (yt, .inl (cI, 7, .inl (fun _ => 0)))] sz) := by
  refine xhw (QA := fun A => XQi (fun (r : Int32) (_ : Unit) => r = (-1000000001)) D (fun _ : Unit => []) A) (by decide) (Nat.le_of_ble_eq_true rfl) ?_
  intro p e s m below meth c ls A hF hr hlk hin hsz hP hK hD hN hA hS hl
  have hF : CallFix p m c cX9_saves 5 s _ _ RX9 := hF
  have hx := hF.1
  have hb := hF.2.1
  have hml := hF.2.2.1
  have hown := hF.2.2.2.1
  have hu : ∀ w ∈ wsU, w.before _ s = true := fun w h => hF.2.2.2.2 w (List.mem_cons_of_mem _ h)
  have hl : lv_has ls 5 [(0, .ref h0), (1, .int p0), (2, .int p1)] := hl
  refine lv_aload_n hx hb dX9_saves_0 rfl (lv_at hl 0 rfl) ?_
  refine lv_iload_n hx hb dX9_saves_1 rfl (lv_at hl 1 rfl) ?_
  refine lv_iload_n hx hb dX9_saves_2 rfl (lv_at hl 2 rfl) ?_
  refine xc_Vr hF (c_X9_areTwo l D cI cJ cZ cS sa s.heap.size h0 ys yk yo yt yfa yfe yro yhe ygr yta ywa ybi ysi ynu ymo p0 p1 ) kv_X9_80 ⟨rfl, rfl, Nat.le_of_ble_eq_true rfl, Nat.le_of_ble_eq_true rfl⟩ ⟨Nat.le_of_ble_eq_true rfl, Nat.le_of_ble_eq_true rfl⟩ hK hN hP hD [0, 1] rfl rfl 0 rfl rfl rfl rfl hl.1 rfl (Nat.le_of_ble_eq_true rfl) dX9_saves_3 (fun r_1 hw_r_1 => ?_)
  subst hw_r_1
  refine lv_if_ne (tgt := 16) hx hb dX9_saves_6 (by decide) (fun c_2 => absurd (by decide) c_2) (fun c_2 => ?_)
  refine lv_aload_n hx hb dX9_saves_9 rfl (lv_at hl 0 rfl) ?_
  refine lv_ldc (v := (-1000000001)) hx hb hown (hu _ uw352) dX9_saves_10 ?_
  refine xc_Vi (wr := [(ys, .inl (cI, 449, .inl (fun _ => 0)))]) hF (c_X9_finds_B l D cI cJ cZ cS sa s.heap.size h0 ys yk yo yt yfa yfe yro yhe ygr yta ywa ybi ysi ynu ymo 0 0 0 (fun _ => 0) ) kv_X9_70 ⟨rfl, rfl, Nat.le_of_ble_eq_true rfl, Nat.le_of_ble_eq_true rfl⟩ ⟨Nat.le_of_ble_eq_true rfl, Nat.le_of_ble_eq_true rfl⟩ hK hN hP hD hS hA [0, 2] [1] rfl rfl rfl rfl (by decide) 0 rfl rfl rfl rfl hl.1 rfl (Nat.le_of_ble_eq_true rfl) dX9_saves_12 (fun r_3 u_r_3 H locs hw_r_3 hP hD hS => ?_)
  have hP : va_P D vwCl [(ys, .inl (cI, 449, .inl (fun _ => 0)))] H := hP
  have hD : va_D A [(ys, .inl (cI, 449, .inl (fun _ => 0)))] := hD
  subst hw_r_3
  exact W.iret (v := (-1000000001)) hx hb hr (fun t ht hW => ⟨⟨(-1000000001), (), rfl, rfl, by rw [ht]; exact hP.sub [] rfl, hD.sub [] (by decide) rfl⟩, hS.F ht⟩) hS.2.2 dX9_saves_15 hlk
set_option maxHeartbeats 4000000 in
set_option maxRecDepth 100000 in
theorem c_X9_goes (l : Launch) (D : va_G) (cI cJ cZ cS : ClassId) (sa : Nat → Nat) (sz : Nat) (h0 : Nat) (ys : Nat) (yk : Nat) (yo : Nat) (yt : Nat) (yfa : Nat) (yfe : Nat) (yro : Nat) (yhe : Nat) (ygr : Nat) (yta : Nat) (ywa : Nat) (ybi : Nat) (ysi : Nat) (ynu : Nat) (ymo : Nat) (p0 : Int32) (p1 : Int32) : Met l yX9_goes (Cond.code yX9_goes cX9_goes 5 (some .int) :: wsU) ({ frames := 2, cells := 0, slots := 0, locals := 46 }) (va_Pc [.ref h0, .int p0, .int p1] (XW D (xT cI cJ cZ cS) sa [(h0, .inr (9, [.ref ys, .ref yk, .ref yo, .ref yt, .int 0, .ref yfa, .ref yfe, .int 0, .int 0, .int 0, .ref yro, .ref yhe, .ref ygr, .int 0, .int 0, .int 0, .ref yta, .int 0, .int 0, .int 0, .int 0, .int 0, .ref ywa, .ref ybi, .ref ysi, .ref ynu, .ref ymo])), (ys, .inl (cI, 449, .inl (fun _ => 0))), (yt, .inl (cI, 7, .inl (fun _ => 0)))] sz)) (XQi (fun (r : Int32) (_ : Unit) => r = (-1000000001)) D (fun _ : Unit => []) (va_A [(h0, .inr (9, [.ref ys, .ref yk, .ref yo, .ref yt, .int 0, .ref yfa, .ref yfe, .int 0, .int 0, .int 0, .ref yro, .ref yhe, .ref ygr, .int 0, .int 0, .int 0, .ref yta, .int 0, .int 0, .int 0, .int 0, .int 0, .ref ywa, .ref ybi, .ref ysi, .ref ynu, .ref ymo])), (ys, .inl (cI, 449, .inl (fun _ => 0))), (yt, .inl (cI, 7, .inl (fun _ => 0)))] sz)) 0 0 (va_A [(h0, .inr (9, [.ref ys, .ref yk, .ref yo, .ref yt, .int 0, .ref yfa, .ref yfe, .int 0, .int 0, .int 0, .ref yro, .ref yhe, .ref ygr, .int 0, .int 0, .int 0, .ref yta, .int 0, .int 0, .int 0, .int 0, .int 0, .ref ywa, .ref ybi, .ref ysi, .ref ynu, .ref ymo])), (ys, .inl (cI, 449, .inl (fun _ => 0))), (yt, .inl (cI, 7, .inl (fun _ => 0)))] sz) := by
  refine xhw (QA := fun A => XQi (fun (r : Int32) (_ : Unit) => r = (-1000000001)) D (fun _ : Unit => []) A) (by decide) (Nat.le_of_ble_eq_true rfl) ?_
  intro p e s m below meth c ls A hF hr hlk hin hsz hP hK hD hN hA hS hl
  have hF : CallFix p m c cX9_goes 5 s _ _ RX9 := hF
  have hx := hF.1
  have hb := hF.2.1
  have hml := hF.2.2.1
  have hown := hF.2.2.2.1
  have hu : ∀ w ∈ wsU, w.before _ s = true := fun w h => hF.2.2.2.2 w (List.mem_cons_of_mem _ h)
  have hl : lv_has ls 5 [(0, .ref h0), (1, .int p0), (2, .int p1)] := hl
  refine lv_aload_n hx hb dX9_goes_0 rfl (lv_at hl 0 rfl) ?_
  refine lv_iload_n hx hb dX9_goes_1 rfl (lv_at hl 1 rfl) ?_
  refine xc_Vr hF (c_X9_isPlace l D cI cJ cZ cS sa s.heap.size h0 ys yk yo yt yfa yfe yro yhe ygr yta ywa ybi ysi ynu ymo p0 ) kv_X9_61 ⟨rfl, rfl, Nat.le_of_ble_eq_true rfl, Nat.le_of_ble_eq_true rfl⟩ ⟨Nat.le_of_ble_eq_true rfl, Nat.le_of_ble_eq_true rfl⟩ hK hN hP hD [0, 1] rfl rfl 0 rfl rfl rfl rfl hl.1 rfl (Nat.le_of_ble_eq_true rfl) dX9_goes_2 (fun r_1 hw_r_1 => ?_)
  subst hw_r_1
  refine lv_if_eq (tgt := 20) hx hb dX9_goes_5 (by decide) (fun c_2 => ?_) (fun c_2 => absurd (by decide) c_2)
  refine lv_aload_n hx hb dX9_goes_20 rfl (lv_at hl 0 rfl) ?_
  refine lv_ldc (v := (-1000000001)) hx hb hown (hu _ uw352) dX9_goes_21 ?_
  refine xc_Vi (wr := [(ys, .inl (cI, 449, .inl (fun _ => 0)))]) hF (c_X9_finds_B l D cI cJ cZ cS sa s.heap.size h0 ys yk yo yt yfa yfe yro yhe ygr yta ywa ybi ysi ynu ymo 0 0 0 (fun _ => 0) ) kv_X9_70 ⟨rfl, rfl, Nat.le_of_ble_eq_true rfl, Nat.le_of_ble_eq_true rfl⟩ ⟨Nat.le_of_ble_eq_true rfl, Nat.le_of_ble_eq_true rfl⟩ hK hN hP hD hS hA [0, 2] [1] rfl rfl rfl rfl (by decide) 0 rfl rfl rfl rfl hl.1 rfl (Nat.le_of_ble_eq_true rfl) dX9_goes_23 (fun r_3 u_r_3 H locs hw_r_3 hP hD hS => ?_)
  have hP : va_P D vwCl [(ys, .inl (cI, 449, .inl (fun _ => 0)))] H := hP
  have hD : va_D A [(ys, .inl (cI, 449, .inl (fun _ => 0)))] := hD
  subst hw_r_3
  exact W.iret (v := (-1000000001)) hx hb hr (fun t ht hW => ⟨⟨(-1000000001), (), rfl, rfl, by rw [ht]; exact hP.sub [] rfl, hD.sub [] (by decide) rfl⟩, hS.F ht⟩) hS.2.2 dX9_goes_26 hlk
set_option maxHeartbeats 4000000 in
set_option maxRecDepth 100000 in
theorem c_X9_on (l : Launch) (D : va_G) (cI cJ cZ cS : ClassId) (sa : Nat → Nat) (sz : Nat) (h0 : Nat) (ys : Nat) (yk : Nat) (yo : Nat) (yt : Nat) (yfa : Nat) (yfe : Nat) (yro : Nat) (yhe : Nat) (ygr : Nat) (yta : Nat) (ywa : Nat) (ybi : Nat) (ysi : Nat) (ynu : Nat) (ymo : Nat) (p0 : Int32) (p1 : Int32) : Met l yX9_on (Cond.code yX9_on cX9_on 4 (some .int) :: wsU) ({ frames := 1, cells := 0, slots := 0, locals := 25 }) (va_Pc [.ref h0, .int p0, .int p1] (XW D (xT cI cJ cZ cS) sa [(h0, .inr (9, [.ref ys, .ref yk, .ref yo, .ref yt, .int 0, .ref yfa, .ref yfe, .int 0, .int 0, .int 0, .ref yro, .ref yhe, .ref ygr, .int 0, .int 0, .int 0, .ref yta, .int 0, .int 0, .int 0, .int 0, .int 0, .ref ywa, .ref ybi, .ref ysi, .ref ynu, .ref ymo])), (ys, .inl (cI, 449, .inl (fun _ => 0))), (yt, .inl (cI, 7, .inl (fun _ => 0)))] sz)) (XQi (fun (r : Int32) (_ : Unit) => r = (-1000000001)) D (fun _ : Unit => []) (va_A [(h0, .inr (9, [.ref ys, .ref yk, .ref yo, .ref yt, .int 0, .ref yfa, .ref yfe, .int 0, .int 0, .int 0, .ref yro, .ref yhe, .ref ygr, .int 0, .int 0, .int 0, .ref yta, .int 0, .int 0, .int 0, .int 0, .int 0, .ref ywa, .ref ybi, .ref ysi, .ref ynu, .ref ymo])), (ys, .inl (cI, 449, .inl (fun _ => 0))), (yt, .inl (cI, 7, .inl (fun _ => 0)))] sz)) 0 0 (va_A [(h0, .inr (9, [.ref ys, .ref yk, .ref yo, .ref yt, .int 0, .ref yfa, .ref yfe, .int 0, .int 0, .int 0, .ref yro, .ref yhe, .ref ygr, .int 0, .int 0, .int 0, .ref yta, .int 0, .int 0, .int 0, .int 0, .int 0, .ref ywa, .ref ybi, .ref ysi, .ref ynu, .ref ymo])), (ys, .inl (cI, 449, .inl (fun _ => 0))), (yt, .inl (cI, 7, .inl (fun _ => 0)))] sz) := by
  refine xhw (QA := fun A => XQi (fun (r : Int32) (_ : Unit) => r = (-1000000001)) D (fun _ : Unit => []) A) (by decide) (Nat.le_of_ble_eq_true rfl) ?_
  intro p e s m below meth c ls A hF hr hlk hin hsz hP hK hD hN hA hS hl
  have hF : CallFix p m c cX9_on 4 s _ _ RX9 := hF
  have hx := hF.1
  have hb := hF.2.1
  have hml := hF.2.2.1
  have hown := hF.2.2.2.1
  have hu : ∀ w ∈ wsU, w.before _ s = true := fun w h => hF.2.2.2.2 w (List.mem_cons_of_mem _ h)
  have hl : lv_has ls 4 [(0, .ref h0), (1, .int p0), (2, .int p1)] := hl
  refine lv_iload_n hx hb dX9_on_0 rfl (lv_at hl 1 rfl) ?_
  refine lv_i2l (v := p0.toInt64) hx hb dX9_on_1 rfl ?_
  refine lv_lconst (v := 0) hx hb dX9_on_2 (by decide) ?_
  refine xl_l (y := (0 : Int32).toInt64) (by decide) ?_
  refine lv_aload_n hx hb dX9_on_3 rfl (lv_at hl 0 rfl) ?_
  refine xg hF kf_X9_7 hK hP 0 rfl rfl dX9_on_4 ?_
  refine lv_iconst (v := 2) hx hb dX9_on_7 (by decide) ?_
  refine va_iald hx hb hK hP 1 0 rfl rfl (xin 2 449 (by decide) (by decide)) dX9_on_8 ?_
  refine xl_i (y := 0) rfl ?_
  refine lv_iconst (v := 1) hx hb dX9_on_9 (by decide) ?_
  refine lv_isub hx hb dX9_on_10 ?_
  refine xl_i (y := (-1)) (by decide) ?_
  refine lv_i2l (v := ((-1) : Int32).toInt64) hx hb dX9_on_11 rfl ?_
  refine xc_Sr hF (c_X9_in l D cI cJ cZ cS sa s.heap.size p0 0 ((-1) : Int32) ) ks_X9_57 ⟨rfl, rfl, Nat.le_of_ble_eq_true rfl, Nat.le_of_ble_eq_true rfl⟩ ⟨Nat.le_of_ble_eq_true rfl, Nat.le_of_ble_eq_true rfl⟩ hK hN hP hD [] rfl rfl rfl hl.1 rfl (Nat.le_of_ble_eq_true rfl) dX9_on_12 (fun r_1 hw_r_1 => ?_)
  rcases hw_r_1 with ⟨rfl, h_2, h_3⟩ | ⟨rfl, h_4⟩
  · exact (x_m1 h_2 h_3).elim
  · skip
    refine lv_if_eq (tgt := 59) hx hb dX9_on_15 (by decide) (fun c_5 => ?_) (fun c_5 => absurd (by decide) c_5)
    refine lv_aload_n hx hb dX9_on_59 rfl (lv_at hl 0 rfl) ?_
    refine lv_ldc (v := (-1000000001)) hx hb hown (hu _ uw352) dX9_on_60 ?_
    refine xc_Vi (wr := [(ys, .inl (cI, 449, .inl (fun _ => 0)))]) hF (c_X9_finds_B l D cI cJ cZ cS sa s.heap.size h0 ys yk yo yt yfa yfe yro yhe ygr yta ywa ybi ysi ynu ymo 0 0 0 (fun _ => 0) ) kv_X9_70 ⟨rfl, rfl, Nat.le_of_ble_eq_true rfl, Nat.le_of_ble_eq_true rfl⟩ ⟨Nat.le_of_ble_eq_true rfl, Nat.le_of_ble_eq_true rfl⟩ hK hN hP hD hS hA [0, 2] [1] rfl rfl rfl rfl (by decide) 0 rfl rfl rfl rfl hl.1 rfl (Nat.le_of_ble_eq_true rfl) dX9_on_62 (fun r_6 u_r_6 H locs hw_r_6 hP hD hS => ?_)
    have hP : va_P D vwCl [(ys, .inl (cI, 449, .inl (fun _ => 0)))] H := hP
    have hD : va_D A [(ys, .inl (cI, 449, .inl (fun _ => 0)))] := hD
    subst hw_r_6
    exact W.iret (v := (-1000000001)) hx hb hr (fun t ht hW => ⟨⟨(-1000000001), (), rfl, rfl, by rw [ht]; exact hP.sub [] rfl, hD.sub [] (by decide) rfl⟩, hS.F ht⟩) hS.2.2 dX9_on_65 hlk
set_option maxHeartbeats 4000000 in
set_option maxRecDepth 100000 in
theorem c_X9_loops (l : Launch) (D : va_G) (cI cJ cZ cS : ClassId) (sa : Nat → Nat) (sz : Nat) (h0 : Nat) (ys : Nat) (yk : Nat) (yo : Nat) (yt : Nat) (yfa : Nat) (yfe : Nat) (yro : Nat) (yhe : Nat) (ygr : Nat) (yta : Nat) (ywa : Nat) (ybi : Nat) (ysi : Nat) (ynu : Nat) (ymo : Nat) : Met l yX9_loops (Cond.code yX9_loops cX9_loops 5 (some .int) :: wsU) ({ frames := 1, cells := 0, slots := 0, locals := 24 }) (va_Pc [.ref h0] (XW D (xT cI cJ cZ cS) sa [(h0, .inr (9, [.ref ys, .ref yk, .ref yo, .ref yt, .int 0, .ref yfa, .ref yfe, .int 0, .int 0, .int 0, .ref yro, .ref yhe, .ref ygr, .int 0, .int 0, .int 0, .ref yta, .int 0, .int 0, .int 0, .int 0, .int 0, .ref ywa, .ref ybi, .ref ysi, .ref ynu, .ref ymo])), (ys, .inl (cI, 449, .inl (fun _ => 0)))] sz)) (XQi (fun (r : Int32) (_ : Unit) => r = 0) D (fun _ : Unit => []) (va_A [(h0, .inr (9, [.ref ys, .ref yk, .ref yo, .ref yt, .int 0, .ref yfa, .ref yfe, .int 0, .int 0, .int 0, .ref yro, .ref yhe, .ref ygr, .int 0, .int 0, .int 0, .ref yta, .int 0, .int 0, .int 0, .int 0, .int 0, .ref ywa, .ref ybi, .ref ysi, .ref ynu, .ref ymo])), (ys, .inl (cI, 449, .inl (fun _ => 0)))] sz)) 0 0 (va_A [(h0, .inr (9, [.ref ys, .ref yk, .ref yo, .ref yt, .int 0, .ref yfa, .ref yfe, .int 0, .int 0, .int 0, .ref yro, .ref yhe, .ref ygr, .int 0, .int 0, .int 0, .ref yta, .int 0, .int 0, .int 0, .int 0, .int 0, .ref ywa, .ref ybi, .ref ysi, .ref ynu, .ref ymo])), (ys, .inl (cI, 449, .inl (fun _ => 0)))] sz) := by
  refine xhw (QA := fun A => XQi (fun (r : Int32) (_ : Unit) => r = 0) D (fun _ : Unit => []) A) (by decide) (Nat.le_of_ble_eq_true rfl) ?_
  intro p e s m below meth c ls A hF hr hlk hin hsz hP hK hD hN hA hS hl
  have hF : CallFix p m c cX9_loops 5 s _ _ RX9 := hF
  have hx := hF.1
  have hb := hF.2.1
  have hml := hF.2.2.1
  have hown := hF.2.2.2.1
  have hu : ∀ w ∈ wsU, w.before _ s = true := fun w h => hF.2.2.2.2 w (List.mem_cons_of_mem _ h)
  have hl : lv_has ls 5 [(0, .ref h0)] := hl
  refine lv_aload_n hx hb dX9_loops_0 rfl (lv_at hl 0 rfl) ?_
  refine xc_Vv (wr := []) hF (c_X9_findFar l D cI cJ cZ cS sa s.heap.size h0 ys yk yo yt yfa yfe yro yhe ygr yta ywa ybi ysi ynu ymo ) kv_X9_113 ⟨rfl, rfl, Nat.le_of_ble_eq_true rfl, Nat.le_of_ble_eq_true rfl⟩ ⟨Nat.le_of_ble_eq_true rfl, Nat.le_of_ble_eq_true rfl⟩ hK hN hP hD hS hA [0, 1] [] rfl rfl rfl rfl (by decide) 0 rfl rfl rfl rfl hl.1 rfl (Nat.le_of_ble_eq_true rfl) dX9_loops_1 (fun u_r_1 H locs hw_r_1 hP hD hS => ?_)
  have hP : va_P D vwCl [(h0, .inr (9, [.ref ys, .ref yk, .ref yo, .ref yt, .int 0, .ref yfa, .ref yfe, .int 0, .int 0, .int 0, .ref yro, .ref yhe, .ref ygr, .int 0, .int 0, .int 0, .ref yta, .int 0, .int 0, .int 0, .int 0, .int 0, .ref ywa, .ref ybi, .ref ysi, .ref ynu, .ref ymo])), (ys, .inl (cI, 449, .inl (fun _ => 0)))] H := hP
  have hD : va_D A [(h0, .inr (9, [.ref ys, .ref yk, .ref yo, .ref yt, .int 0, .ref yfa, .ref yfe, .int 0, .int 0, .int 0, .ref yro, .ref yhe, .ref ygr, .int 0, .int 0, .int 0, .ref yta, .int 0, .int 0, .int 0, .int 0, .int 0, .ref ywa, .ref ybi, .ref ysi, .ref ynu, .ref ymo])), (ys, .inl (cI, 449, .inl (fun _ => 0)))] := hD
  refine lv_iconst (v := 0) hx hb dX9_loops_4 (by decide) ?_
  refine lv_istore_n (lv' := [(1, .int 0), (0, .ref h0)]) hx hb dX9_loops_5 rfl hl (by decide) rfl (fun ls hl => ?_)
  refine lv_iconst (v := 0) hx hb dX9_loops_6 (by decide) ?_
  refine lv_istore_n (lv' := [(2, .int 0), (1, .int 0), (0, .ref h0)]) hx hb dX9_loops_7 rfl hl (by decide) rfl (fun ls hl => ?_)
  refine lv_iload_n hx hb dX9_loops_8 rfl (lv_at hl 0 rfl) ?_
  refine lv_aload_n hx hb dX9_loops_9 rfl (lv_at hl 2 rfl) ?_
  refine xg hF kf_X9_7 hK hP 0 rfl rfl dX9_loops_10 ?_
  refine lv_iconst (v := 0) hx hb dX9_loops_13 (by decide) ?_
  refine va_iald hx hb hK hP 1 0 rfl rfl (xin 0 449 (by decide) (by decide)) dX9_loops_14 ?_
  refine xl_i (y := 0) rfl ?_
  refine lv_icmp_ge (tgt := 108) hx hb dX9_loops_15 (by decide) (fun c_2 => ?_) (fun c_2 => absurd (by decide) c_2)
  refine lv_iload_n hx hb dX9_loops_108 rfl (lv_at hl 1 rfl) ?_
  exact W.iret (v := 0) hx hb hr (fun t ht hW => ⟨⟨0, (), rfl, rfl, by rw [ht]; exact hP.sub [] rfl, hD.sub [] (by decide) rfl⟩, hS.F ht⟩) hS.2.2 dX9_loops_109 hlk
set_option maxHeartbeats 4000000 in
set_option maxRecDepth 100000 in
theorem c_X9_live (l : Launch) (D : va_G) (cI cJ cZ cS : ClassId) (sa : Nat → Nat) (sz : Nat) (h0 : Nat) (ys : Nat) (yk : Nat) (yo : Nat) (yt : Nat) (yfa : Nat) (yfe : Nat) (yro : Nat) (yhe : Nat) (ygr : Nat) (yta : Nat) (ywa : Nat) (ybi : Nat) (ysi : Nat) (ynu : Nat) (ymo : Nat) : Met l yX9_live (Cond.code yX9_live cX9_live 2 (some .int) :: wsU) ({ frames := 1, cells := 0, slots := 0, locals := 24 }) (va_Pc [.ref h0] (XW D (xT cI cJ cZ cS) sa [(h0, .inr (9, [.ref ys, .ref yk, .ref yo, .ref yt, .int 0, .ref yfa, .ref yfe, .int 0, .int 0, .int 0, .ref yro, .ref yhe, .ref ygr, .int 0, .int 0, .int 0, .ref yta, .int 0, .int 0, .int 0, .int 0, .int 0, .ref ywa, .ref ybi, .ref ysi, .ref ynu, .ref ymo])), (ys, .inl (cI, 449, .inl (fun _ => 0))), (yt, .inl (cI, 7, .inl (fun _ => 0)))] sz)) (XQi (fun (r : Int32) (_ : Unit) => r = (-1000000004)) D (fun _ : Unit => []) (va_A [(h0, .inr (9, [.ref ys, .ref yk, .ref yo, .ref yt, .int 0, .ref yfa, .ref yfe, .int 0, .int 0, .int 0, .ref yro, .ref yhe, .ref ygr, .int 0, .int 0, .int 0, .ref yta, .int 0, .int 0, .int 0, .int 0, .int 0, .ref ywa, .ref ybi, .ref ysi, .ref ynu, .ref ymo])), (ys, .inl (cI, 449, .inl (fun _ => 0))), (yt, .inl (cI, 7, .inl (fun _ => 0)))] sz)) 0 0 (va_A [(h0, .inr (9, [.ref ys, .ref yk, .ref yo, .ref yt, .int 0, .ref yfa, .ref yfe, .int 0, .int 0, .int 0, .ref yro, .ref yhe, .ref ygr, .int 0, .int 0, .int 0, .ref yta, .int 0, .int 0, .int 0, .int 0, .int 0, .ref ywa, .ref ybi, .ref ysi, .ref ynu, .ref ymo])), (ys, .inl (cI, 449, .inl (fun _ => 0))), (yt, .inl (cI, 7, .inl (fun _ => 0)))] sz) := by
  refine xhw (QA := fun A => XQi (fun (r : Int32) (_ : Unit) => r = (-1000000004)) D (fun _ : Unit => []) A) (by decide) (Nat.le_of_ble_eq_true rfl) ?_
  intro p e s m below meth c ls A hF hr hlk hin hsz hP hK hD hN hA hS hl
  have hF : CallFix p m c cX9_live 2 s _ _ RX9 := hF
  have hx := hF.1
  have hb := hF.2.1
  have hml := hF.2.2.1
  have hown := hF.2.2.2.1
  have hu : ∀ w ∈ wsU, w.before _ s = true := fun w h => hF.2.2.2.2 w (List.mem_cons_of_mem _ h)
  have hl : lv_has ls 2 [(0, .ref h0)] := hl
  refine lv_aload_n hx hb dX9_live_0 rfl (lv_at hl 0 rfl) ?_
  refine xc_Vv (wr := [(yt, .inl (cI, 7, .inl (fun _ => 0)))]) hF (c_X9_findFar l D cI cJ cZ cS sa s.heap.size h0 ys yk yo yt yfa yfe yro yhe ygr yta ywa ybi ysi ynu ymo ) kv_X9_113 ⟨rfl, rfl, Nat.le_of_ble_eq_true rfl, Nat.le_of_ble_eq_true rfl⟩ ⟨Nat.le_of_ble_eq_true rfl, Nat.le_of_ble_eq_true rfl⟩ hK hN hP hD hS hA [0, 1] [2] rfl rfl rfl rfl (by decide) 0 rfl rfl rfl rfl hl.1 rfl (Nat.le_of_ble_eq_true rfl) dX9_live_1 (fun u_r_1 H locs hw_r_1 hP hD hS => ?_)
  have hP : va_P D vwCl [(yt, .inl (cI, 7, .inl (fun _ => 0))), (h0, .inr (9, [.ref ys, .ref yk, .ref yo, .ref yt, .int 0, .ref yfa, .ref yfe, .int 0, .int 0, .int 0, .ref yro, .ref yhe, .ref ygr, .int 0, .int 0, .int 0, .ref yta, .int 0, .int 0, .int 0, .int 0, .int 0, .ref ywa, .ref ybi, .ref ysi, .ref ynu, .ref ymo])), (ys, .inl (cI, 449, .inl (fun _ => 0)))] H := hP
  have hD : va_D A [(yt, .inl (cI, 7, .inl (fun _ => 0))), (h0, .inr (9, [.ref ys, .ref yk, .ref yo, .ref yt, .int 0, .ref yfa, .ref yfe, .int 0, .int 0, .int 0, .ref yro, .ref yhe, .ref ygr, .int 0, .int 0, .int 0, .ref yta, .int 0, .int 0, .int 0, .int 0, .int 0, .ref ywa, .ref ybi, .ref ysi, .ref ynu, .ref ymo])), (ys, .inl (cI, 449, .inl (fun _ => 0)))] := hD
  refine lv_aload_n hx hb dX9_live_4 rfl (lv_at hl 0 rfl) ?_
  refine xg hF kf_X9_109 hK hP 1 rfl rfl dX9_live_5 ?_
  refine lv_if_eq (tgt := 18) hx hb dX9_live_8 (by decide) (fun c_2 => ?_) (fun c_2 => absurd (by decide) c_2)
  refine lv_aload_n hx hb dX9_live_18 rfl (lv_at hl 0 rfl) ?_
  refine xc_Vr hF (c_X9_home l D cI cJ cZ cS sa H.size h0 ys yk yo yt yfa yfe yro yhe ygr yta ywa ybi ysi ynu ymo ) kv_X9_171 ⟨rfl, rfl, Nat.le_of_ble_eq_true rfl, Nat.le_of_ble_eq_true rfl⟩ ⟨Nat.le_of_ble_eq_true rfl, Nat.le_of_ble_eq_true rfl⟩ hK hN hP hD [1, 2] rfl rfl 0 rfl rfl rfl rfl hl.1 rfl (Nat.le_of_ble_eq_true rfl) dX9_live_19 (fun r_3 hw_r_3 => ?_)
  subst hw_r_3
  refine lv_istore_n (lv' := [(1, .int (-1)), (0, .ref h0)]) hx hb dX9_live_22 rfl hl (by decide) rfl (fun ls hl => ?_)
  refine lv_iload_n hx hb dX9_live_23 rfl (lv_at hl 0 rfl) ?_
  refine lv_if_ge (tgt := 36) hx hb dX9_live_24 (by decide) (fun c_4 => absurd c_4 (by decide)) (fun c_4 => ?_)
  refine lv_aload_n hx hb dX9_live_27 rfl (lv_at hl 1 rfl) ?_
  refine lv_ldc (v := (-1000000004)) hx hb hown (hu _ uw426) dX9_live_28 ?_
  refine xc_Vi (wr := [(ys, .inl (cI, 449, .inl (fun _ => 0)))]) hF (c_X9_finds_N l D cI cJ cZ cS sa H.size h0 ys yk yo yt yfa yfe yro yhe ygr yta ywa ybi ysi ynu ymo 0 0 0 (fun _ => 0) ) kv_X9_70 ⟨rfl, rfl, Nat.le_of_ble_eq_true rfl, Nat.le_of_ble_eq_true rfl⟩ ⟨Nat.le_of_ble_eq_true rfl, Nat.le_of_ble_eq_true rfl⟩ hK hN hP hD hS hA [1, 0] [2] rfl rfl rfl rfl (by decide) 0 rfl rfl rfl rfl hl.1 rfl (Nat.le_of_ble_eq_true rfl) dX9_live_30 (fun r_5 u_r_5 H locs hw_r_5 hP hD hS => ?_)
  have hP : va_P D vwCl [(ys, .inl (cI, 449, .inl (fun _ => 0)))] H := hP
  have hD : va_D A [(ys, .inl (cI, 449, .inl (fun _ => 0)))] := hD
  subst hw_r_5
  refine lv_goto (tgt := 37) hx hb dX9_live_33 (by decide) ?_
  exact W.iret (v := (-1000000004)) hx hb hr (fun t ht hW => ⟨⟨(-1000000004), (), rfl, rfl, by rw [ht]; exact hP.sub [] rfl, hD.sub [] (by decide) rfl⟩, hS.F ht⟩) hS.2.2 dX9_live_37 hlk
set_option maxHeartbeats 4000000 in
set_option maxRecDepth 100000 in
theorem c_X9_fit (l : Launch) (D : va_G) (cI cJ cZ cS : ClassId) (sa : Nat → Nat) (sz : Nat) (h0 : Nat) (ys : Nat) (yk : Nat) (yo : Nat) (yt : Nat) (yfa : Nat) (yfe : Nat) (yro : Nat) (yhe : Nat) (ygr : Nat) (yta : Nat) (ywa : Nat) (ybi : Nat) (ysi : Nat) (ynu : Nat) (ymo : Nat) : Met l yX9_fit (Cond.code yX9_fit cX9_fit 1 (some .int) :: wsU) ({ frames := 1, cells := 0, slots := 0, locals := 23 }) (va_Pc [.ref h0] (XW D (xT cI cJ cZ cS) sa [(h0, .inr (9, [.ref ys, .ref yk, .ref yo, .ref yt, .int 0, .ref yfa, .ref yfe, .int 0, .int 0, .int 0, .ref yro, .ref yhe, .ref ygr, .int 0, .int 0, .int 0, .ref yta, .int 0, .int 0, .int 0, .int 0, .int 0, .ref ywa, .ref ybi, .ref ysi, .ref ynu, .ref ymo])), (ys, .inl (cI, 449, .inl (fun _ => 0)))] sz)) (XQi (fun (r : Int32) (_ : Unit) => r = 1) D (fun _ : Unit => []) (va_A [(h0, .inr (9, [.ref ys, .ref yk, .ref yo, .ref yt, .int 0, .ref yfa, .ref yfe, .int 0, .int 0, .int 0, .ref yro, .ref yhe, .ref ygr, .int 0, .int 0, .int 0, .ref yta, .int 0, .int 0, .int 0, .int 0, .int 0, .ref ywa, .ref ybi, .ref ysi, .ref ynu, .ref ymo])), (ys, .inl (cI, 449, .inl (fun _ => 0)))] sz)) 0 0 (va_A [(h0, .inr (9, [.ref ys, .ref yk, .ref yo, .ref yt, .int 0, .ref yfa, .ref yfe, .int 0, .int 0, .int 0, .ref yro, .ref yhe, .ref ygr, .int 0, .int 0, .int 0, .ref yta, .int 0, .int 0, .int 0, .int 0, .int 0, .ref ywa, .ref ybi, .ref ysi, .ref ynu, .ref ymo])), (ys, .inl (cI, 449, .inl (fun _ => 0)))] sz) := by
  refine xhw (QA := fun A => XQi (fun (r : Int32) (_ : Unit) => r = 1) D (fun _ : Unit => []) A) (by decide) (Nat.le_of_ble_eq_true rfl) ?_
  intro p e s m below meth c ls A hF hr hlk hin hsz hP hK hD hN hA hS hl
  have hF : CallFix p m c cX9_fit 1 s _ _ RX9 := hF
  have hx := hF.1
  have hb := hF.2.1
  have hml := hF.2.2.1
  have hown := hF.2.2.2.1
  have hu : ∀ w ∈ wsU, w.before _ s = true := fun w h => hF.2.2.2.2 w (List.mem_cons_of_mem _ h)
  have hl : lv_has ls 1 [(0, .ref h0)] := hl
  refine lv_aload_n hx hb dX9_fit_0 rfl (lv_at hl 0 rfl) ?_
  refine xc_Vv (wr := []) hF (c_X9_findHeights l D cI cJ cZ cS sa s.heap.size h0 ys yk yo yt yfa yfe yro yhe ygr yta ywa ybi ysi ynu ymo ) kv_X9_186 ⟨rfl, rfl, Nat.le_of_ble_eq_true rfl, Nat.le_of_ble_eq_true rfl⟩ ⟨Nat.le_of_ble_eq_true rfl, Nat.le_of_ble_eq_true rfl⟩ hK hN hP hD hS hA [0, 1] [] rfl rfl rfl rfl (by decide) 0 rfl rfl rfl rfl hl.1 rfl (Nat.le_of_ble_eq_true rfl) dX9_fit_1 (fun u_r_1 H locs hw_r_1 hP hD hS => ?_)
  have hP : va_P D vwCl [(h0, .inr (9, [.ref ys, .ref yk, .ref yo, .ref yt, .int 0, .ref yfa, .ref yfe, .int 0, .int 0, .int 0, .ref yro, .ref yhe, .ref ygr, .int 1, .int 0, .int 0, .ref yta, .int 0, .int 0, .int 0, .int 0, .int 0, .ref ywa, .ref ybi, .ref ysi, .ref ynu, .ref ymo])), (ys, .inl (cI, 449, .inl (fun _ => 0)))] H := hP
  have hD : va_D A [(h0, .inr (9, [.ref ys, .ref yk, .ref yo, .ref yt, .int 0, .ref yfa, .ref yfe, .int 0, .int 0, .int 0, .ref yro, .ref yhe, .ref ygr, .int 1, .int 0, .int 0, .ref yta, .int 0, .int 0, .int 0, .int 0, .int 0, .ref ywa, .ref ybi, .ref ysi, .ref ynu, .ref ymo])), (ys, .inl (cI, 449, .inl (fun _ => 0)))] := hD
  refine lv_aload_n hx hb dX9_fit_4 rfl (lv_at hl 0 rfl) ?_
  refine xg hF kf_X9_180 hK hP 0 rfl rfl dX9_fit_5 ?_
  refine lv_if_eq (tgt := 15) hx hb dX9_fit_8 (by decide) (fun c_2 => absurd c_2 (by decide)) (fun c_2 => ?_)
  refine lv_iconst (v := 1) hx hb dX9_fit_11 (by decide) ?_
  refine lv_goto (tgt := 16) hx hb dX9_fit_12 (by decide) ?_
  exact W.iret (v := 1) hx hb hr (fun t ht hW => ⟨⟨1, (), rfl, rfl, by rw [ht]; exact hP.sub [] rfl, hD.sub [] (by decide) rfl⟩, hS.F ht⟩) hS.2.2 dX9_fit_16 hlk
set_option maxHeartbeats 4000000 in
set_option maxRecDepth 100000 in
theorem c_X9_worst (l : Launch) (D : va_G) (cI cJ cZ cS : ClassId) (sa : Nat → Nat) (sz : Nat) (h0 : Nat) (ys : Nat) (yk : Nat) (yo : Nat) (yt : Nat) (yfa : Nat) (yfe : Nat) (yro : Nat) (yhe : Nat) (ygr : Nat) (yta : Nat) (ywa : Nat) (ybi : Nat) (ysi : Nat) (ynu : Nat) (ymo : Nat) : Met l yX9_worst (Cond.code yX9_worst cX9_worst 5 (some .int) :: wsU) ({ frames := 1, cells := 0, slots := 0, locals := 21 }) (va_Pc [.ref h0] (XW D (xT cI cJ cZ cS) sa [(h0, .inr (9, [.ref ys, .ref yk, .ref yo, .ref yt, .int 0, .ref yfa, .ref yfe, .int 0, .int 0, .int 0, .ref yro, .ref yhe, .ref ygr, .int 0, .int 0, .int 0, .ref yta, .int 0, .int 0, .int 0, .int 0, .int 0, .ref ywa, .ref ybi, .ref ysi, .ref ynu, .ref ymo])), (ys, .inl (cI, 449, .inl (fun _ => 0))), (yt, .inl (cI, 7, .inl (fun _ => 0)))] sz)) (XQi (fun (r : Int32) (_ : Unit) => r = (-1000000004)) D (fun _ : Unit => []) (va_A [(h0, .inr (9, [.ref ys, .ref yk, .ref yo, .ref yt, .int 0, .ref yfa, .ref yfe, .int 0, .int 0, .int 0, .ref yro, .ref yhe, .ref ygr, .int 0, .int 0, .int 0, .ref yta, .int 0, .int 0, .int 0, .int 0, .int 0, .ref ywa, .ref ybi, .ref ysi, .ref ynu, .ref ymo])), (ys, .inl (cI, 449, .inl (fun _ => 0))), (yt, .inl (cI, 7, .inl (fun _ => 0)))] sz)) 0 0 (va_A [(h0, .inr (9, [.ref ys, .ref yk, .ref yo, .ref yt, .int 0, .ref yfa, .ref yfe, .int 0, .int 0, .int 0, .ref yro, .ref yhe, .ref ygr, .int 0, .int 0, .int 0, .ref yta, .int 0, .int 0, .int 0, .int 0, .int 0, .ref ywa, .ref ybi, .ref ysi, .ref ynu, .ref ymo])), (ys, .inl (cI, 449, .inl (fun _ => 0))), (yt, .inl (cI, 7, .inl (fun _ => 0)))] sz) := by
  refine xhw (QA := fun A => XQi (fun (r : Int32) (_ : Unit) => r = (-1000000004)) D (fun _ : Unit => []) A) (by decide) (Nat.le_of_ble_eq_true rfl) ?_
  intro p e s m below meth c ls A hF hr hlk hin hsz hP hK hD hN hA hS hl
  have hF : CallFix p m c cX9_worst 5 s _ _ RX9 := hF
  have hx := hF.1
  have hb := hF.2.1
  have hml := hF.2.2.1
  have hown := hF.2.2.2.1
  have hu : ∀ w ∈ wsU, w.before _ s = true := fun w h => hF.2.2.2.2 w (List.mem_cons_of_mem _ h)
  have hl : lv_has ls 5 [(0, .ref h0)] := hl
  refine lv_iconst (v := (-1)) hx hb dX9_worst_0 (by decide) ?_
  refine lv_istore_n (lv' := [(1, .int (-1)), (0, .ref h0)]) hx hb dX9_worst_1 rfl hl (by decide) rfl (fun ls hl => ?_)
  refine lv_iconst (v := 0) hx hb dX9_worst_2 (by decide) ?_
  refine lv_istore_n (lv' := [(2, .int 0), (1, .int (-1)), (0, .ref h0)]) hx hb dX9_worst_3 rfl hl (by decide) rfl (fun ls hl => ?_)
  refine lv_iload_n hx hb dX9_worst_4 rfl (lv_at hl 0 rfl) ?_
  refine lv_aload_n hx hb dX9_worst_5 rfl (lv_at hl 2 rfl) ?_
  refine xg hF kf_X9_7 hK hP 0 rfl rfl dX9_worst_6 ?_
  refine lv_iconst (v := 0) hx hb dX9_worst_9 (by decide) ?_
  refine va_iald hx hb hK hP 1 0 rfl rfl (xin 0 449 (by decide) (by decide)) dX9_worst_10 ?_
  refine xl_i (y := 0) rfl ?_
  refine lv_icmp_ge (tgt := 100) hx hb dX9_worst_11 (by decide) (fun c_1 => ?_) (fun c_1 => absurd (by decide) c_1)
  refine lv_iload_n hx hb dX9_worst_100 rfl (lv_at hl 1 rfl) ?_
  refine lv_if_ge (tgt := 113) hx hb dX9_worst_101 (by decide) (fun c_2 => absurd c_2 (by decide)) (fun c_2 => ?_)
  refine lv_aload_n hx hb dX9_worst_104 rfl (lv_at hl 2 rfl) ?_
  refine lv_ldc (v := (-1000000004)) hx hb hown (hu _ uw426) dX9_worst_105 ?_
  refine xc_Vi (wr := [(ys, .inl (cI, 449, .inl (fun _ => 0)))]) hF (c_X9_finds_N l D cI cJ cZ cS sa s.heap.size h0 ys yk yo yt yfa yfe yro yhe ygr yta ywa ybi ysi ynu ymo 0 0 0 (fun _ => 0) ) kv_X9_70 ⟨rfl, rfl, Nat.le_of_ble_eq_true rfl, Nat.le_of_ble_eq_true rfl⟩ ⟨Nat.le_of_ble_eq_true rfl, Nat.le_of_ble_eq_true rfl⟩ hK hN hP hD hS hA [0, 2] [1] rfl rfl rfl rfl (by decide) 0 rfl rfl rfl rfl hl.1 rfl (Nat.le_of_ble_eq_true rfl) dX9_worst_107 (fun r_3 u_r_3 H locs hw_r_3 hP hD hS => ?_)
  have hP : va_P D vwCl [(ys, .inl (cI, 449, .inl (fun _ => 0)))] H := hP
  have hD : va_D A [(ys, .inl (cI, 449, .inl (fun _ => 0)))] := hD
  subst hw_r_3
  refine lv_goto (tgt := 114) hx hb dX9_worst_110 (by decide) ?_
  exact W.iret (v := (-1000000004)) hx hb hr (fun t ht hW => ⟨⟨(-1000000004), (), rfl, rfl, by rw [ht]; exact hP.sub [] rfl, hD.sub [] (by decide) rfl⟩, hS.F ht⟩) hS.2.2 dX9_worst_114 hlk
set_option maxHeartbeats 4000000 in
set_option maxRecDepth 100000 in
theorem c_X9_learn (l : Launch) (D : va_G) (cI cJ cZ cS : ClassId) (sa : Nat → Nat) (sz : Nat) (h0 : Nat) (ys : Nat) (yk : Nat) (yo : Nat) (yt : Nat) (yfa : Nat) (yfe : Nat) (yro : Nat) (yhe : Nat) (ygr : Nat) (yta : Nat) (ywa : Nat) (ybi : Nat) (ysi : Nat) (ynu : Nat) (ymo : Nat) : Met l yX9_learn (Cond.code yX9_learn cX9_learn 1 (some .int) :: wsU) ({ frames := 1, cells := 0, slots := 0, locals := 23 }) (va_Pc [.ref h0] (XW D (xT cI cJ cZ cS) sa [(h0, .inr (9, [.ref ys, .ref yk, .ref yo, .ref yt, .int 0, .ref yfa, .ref yfe, .int 0, .int 0, .int 0, .ref yro, .ref yhe, .ref ygr, .int 0, .int 0, .int 0, .ref yta, .int 0, .int 0, .int 0, .int 0, .int 0, .ref ywa, .ref ybi, .ref ysi, .ref ynu, .ref ymo])), (ys, .inl (cI, 449, .inl (fun _ => 0)))] sz)) (XQi (fun (r : Int32) (_ : Unit) => r = 0) D (fun _ : Unit => []) (va_A [(h0, .inr (9, [.ref ys, .ref yk, .ref yo, .ref yt, .int 0, .ref yfa, .ref yfe, .int 0, .int 0, .int 0, .ref yro, .ref yhe, .ref ygr, .int 0, .int 0, .int 0, .ref yta, .int 0, .int 0, .int 0, .int 0, .int 0, .ref ywa, .ref ybi, .ref ysi, .ref ynu, .ref ymo])), (ys, .inl (cI, 449, .inl (fun _ => 0)))] sz)) 0 0 (va_A [(h0, .inr (9, [.ref ys, .ref yk, .ref yo, .ref yt, .int 0, .ref yfa, .ref yfe, .int 0, .int 0, .int 0, .ref yro, .ref yhe, .ref ygr, .int 0, .int 0, .int 0, .ref yta, .int 0, .int 0, .int 0, .int 0, .int 0, .ref ywa, .ref ybi, .ref ysi, .ref ynu, .ref ymo])), (ys, .inl (cI, 449, .inl (fun _ => 0)))] sz) := by
  refine xhw (QA := fun A => XQi (fun (r : Int32) (_ : Unit) => r = 0) D (fun _ : Unit => []) A) (by decide) (Nat.le_of_ble_eq_true rfl) ?_
  intro p e s m below meth c ls A hF hr hlk hin hsz hP hK hD hN hA hS hl
  have hF : CallFix p m c cX9_learn 1 s _ _ RX9 := hF
  have hx := hF.1
  have hb := hF.2.1
  have hml := hF.2.2.1
  have hown := hF.2.2.2.1
  have hu : ∀ w ∈ wsU, w.before _ s = true := fun w h => hF.2.2.2.2 w (List.mem_cons_of_mem _ h)
  have hl : lv_has ls 1 [(0, .ref h0)] := hl
  refine lv_aload_n hx hb dX9_learn_0 rfl (lv_at hl 0 rfl) ?_
  refine xc_Vi (wr := []) hF (c_X9_learning l D cI cJ cZ cS sa s.heap.size h0 ys yk yo yt yfa yfe yro yhe ygr yta ywa ybi ysi ynu ymo ) kv_X9_214 ⟨rfl, rfl, Nat.le_of_ble_eq_true rfl, Nat.le_of_ble_eq_true rfl⟩ ⟨Nat.le_of_ble_eq_true rfl, Nat.le_of_ble_eq_true rfl⟩ hK hN hP hD hS hA [0, 1] [] rfl rfl rfl rfl (by decide) 0 rfl rfl rfl rfl hl.1 rfl (Nat.le_of_ble_eq_true rfl) dX9_learn_1 (fun r_1 u_r_1 H locs hw_r_1 hP hD hS => ?_)
  have hP : va_P D vwCl [(h0, .inr (9, [.ref ys, .ref yk, .ref yo, .ref yt, .int 0, .ref yfa, .ref yfe, .int 0, .int 0, .int 0, .ref yro, .ref yhe, .ref ygr, .int 0, .int 0, .int 0, .ref yta, .int 0, .int 0, .int 0, .int 0, .int 0, .ref ywa, .ref ybi, .ref ysi, .ref ynu, .ref ymo])), (ys, .inl (cI, 449, .inl (fun _ => 0)))] H := hP
  have hD : va_D A [(h0, .inr (9, [.ref ys, .ref yk, .ref yo, .ref yt, .int 0, .ref yfa, .ref yfe, .int 0, .int 0, .int 0, .ref yro, .ref yhe, .ref ygr, .int 0, .int 0, .int 0, .ref yta, .int 0, .int 0, .int 0, .int 0, .int 0, .ref ywa, .ref ybi, .ref ysi, .ref ynu, .ref ymo])), (ys, .inl (cI, 449, .inl (fun _ => 0)))] := hD
  subst hw_r_1
  exact W.iret (v := 0) hx hb hr (fun t ht hW => ⟨⟨0, (), rfl, rfl, by rw [ht]; exact hP.sub [] rfl, hD.sub [] (by decide) rfl⟩, hS.F ht⟩) hS.2.2 dX9_learn_4 hlk
set_option maxHeartbeats 4000000 in
set_option maxRecDepth 100000 in
theorem c_X9_lies (l : Launch) (D : va_G) (cI cJ cZ cS : ClassId) (sa : Nat → Nat) (sz : Nat) (h0 : Nat) (ys : Nat) (yk : Nat) (yo : Nat) (yt : Nat) (yfa : Nat) (yfe : Nat) (yro : Nat) (yhe : Nat) (ygr : Nat) (yta : Nat) (ywa : Nat) (ybi : Nat) (ysi : Nat) (ynu : Nat) (ymo : Nat) : Met l yX9_lies (Cond.code yX9_lies cX9_lies 2 (some .int) :: wsU) ({ frames := 1, cells := 0, slots := 0, locals := 23 }) (va_Pc [.ref h0] (XW D (xT cI cJ cZ cS) sa [(h0, .inr (9, [.ref ys, .ref yk, .ref yo, .ref yt, .int 0, .ref yfa, .ref yfe, .int 0, .int 0, .int 0, .ref yro, .ref yhe, .ref ygr, .int 0, .int 0, .int 0, .ref yta, .int 0, .int 0, .int 0, .int 0, .int 0, .ref ywa, .ref ybi, .ref ysi, .ref ynu, .ref ymo])), (ys, .inl (cI, 449, .inl (fun _ => 0))), (yo, .inl (cI, 449, .inl (fun _ => 0)))] sz)) (XQi (fun (r : Int32) (_ : Unit) => r = 0) D (fun _ : Unit => []) (va_A [(h0, .inr (9, [.ref ys, .ref yk, .ref yo, .ref yt, .int 0, .ref yfa, .ref yfe, .int 0, .int 0, .int 0, .ref yro, .ref yhe, .ref ygr, .int 0, .int 0, .int 0, .ref yta, .int 0, .int 0, .int 0, .int 0, .int 0, .ref ywa, .ref ybi, .ref ysi, .ref ynu, .ref ymo])), (ys, .inl (cI, 449, .inl (fun _ => 0))), (yo, .inl (cI, 449, .inl (fun _ => 0)))] sz)) 0 0 (va_A [(h0, .inr (9, [.ref ys, .ref yk, .ref yo, .ref yt, .int 0, .ref yfa, .ref yfe, .int 0, .int 0, .int 0, .ref yro, .ref yhe, .ref ygr, .int 0, .int 0, .int 0, .ref yta, .int 0, .int 0, .int 0, .int 0, .int 0, .ref ywa, .ref ybi, .ref ysi, .ref ynu, .ref ymo])), (ys, .inl (cI, 449, .inl (fun _ => 0))), (yo, .inl (cI, 449, .inl (fun _ => 0)))] sz) := by
  refine xhw (QA := fun A => XQi (fun (r : Int32) (_ : Unit) => r = 0) D (fun _ : Unit => []) A) (by decide) (Nat.le_of_ble_eq_true rfl) ?_
  intro p e s m below meth c ls A hF hr hlk hin hsz hP hK hD hN hA hS hl
  have hF : CallFix p m c cX9_lies 2 s _ _ RX9 := hF
  have hx := hF.1
  have hb := hF.2.1
  have hml := hF.2.2.1
  have hown := hF.2.2.2.1
  have hu : ∀ w ∈ wsU, w.before _ s = true := fun w h => hF.2.2.2.2 w (List.mem_cons_of_mem _ h)
  have hl : lv_has ls 2 [(0, .ref h0)] := hl
  refine lv_aload_n hx hb dX9_lies_0 rfl (lv_at hl 0 rfl) ?_
  refine xc_Vv (wr := []) hF (c_X9_puts l D cI cJ cZ cS sa s.heap.size h0 ys yk yo yt yfa yfe yro yhe ygr yta ywa ybi ysi ynu ymo ) kv_X9_217 ⟨rfl, rfl, Nat.le_of_ble_eq_true rfl, Nat.le_of_ble_eq_true rfl⟩ ⟨Nat.le_of_ble_eq_true rfl, Nat.le_of_ble_eq_true rfl⟩ hK hN hP hD hS hA [0, 1, 2] [] rfl rfl rfl rfl (by decide) 0 rfl rfl rfl rfl hl.1 rfl (Nat.le_of_ble_eq_true rfl) dX9_lies_1 (fun u_r_1 H locs hw_r_1 hP hD hS => ?_)
  obtain ⟨f2_2, rfl⟩ : ∃ z, z = u_r_1 := ⟨_, rfl⟩
  try dsimp only at hw_r_1
  have hP : va_P D vwCl [(h0, .inr (9, [.ref ys, .ref yk, .ref yo, .ref yt, .int 0, .ref yfa, .ref yfe, .int 0, .int 0, .int 0, .ref yro, .ref yhe, .ref ygr, .int 0, .int 0, .int 0, .ref yta, .int 0, .int 0, .int 0, .int 0, .int 0, .ref ywa, .ref ybi, .ref ysi, .ref ynu, .ref ymo])), (ys, .inl (cI, 449, .inl (fun _ => 0))), (yo, .inl (cI, 449, .inl f2_2))] H := hP
  have hD : va_D A [(h0, .inr (9, [.ref ys, .ref yk, .ref yo, .ref yt, .int 0, .ref yfa, .ref yfe, .int 0, .int 0, .int 0, .ref yro, .ref yhe, .ref ygr, .int 0, .int 0, .int 0, .ref yta, .int 0, .int 0, .int 0, .int 0, .int 0, .ref ywa, .ref ybi, .ref ysi, .ref ynu, .ref ymo])), (ys, .inl (cI, 449, .inl (fun _ => 0))), (yo, .inl (cI, 449, .inl f2_2))] := hD
  refine lv_aload_n hx hb dX9_lies_4 rfl (lv_at hl 0 rfl) ?_
  refine xc_Vi (wr := [(yo, .inl (cI, 449, .inl f2_2))]) hF (c_X9_learning l D cI cJ cZ cS sa H.size h0 ys yk yo yt yfa yfe yro yhe ygr yta ywa ybi ysi ynu ymo ) kv_X9_214 ⟨rfl, rfl, Nat.le_of_ble_eq_true rfl, Nat.le_of_ble_eq_true rfl⟩ ⟨Nat.le_of_ble_eq_true rfl, Nat.le_of_ble_eq_true rfl⟩ hK hN hP hD hS hA [0, 1] [2] rfl rfl rfl rfl (by decide) 0 rfl rfl rfl rfl hl.1 rfl (Nat.le_of_ble_eq_true rfl) dX9_lies_5 (fun r_3 u_r_3 H locs hw_r_3 hP hD hS => ?_)
  have hP : va_P D vwCl [(yo, .inl (cI, 449, .inl f2_2)), (h0, .inr (9, [.ref ys, .ref yk, .ref yo, .ref yt, .int 0, .ref yfa, .ref yfe, .int 0, .int 0, .int 0, .ref yro, .ref yhe, .ref ygr, .int 0, .int 0, .int 0, .ref yta, .int 0, .int 0, .int 0, .int 0, .int 0, .ref ywa, .ref ybi, .ref ysi, .ref ynu, .ref ymo])), (ys, .inl (cI, 449, .inl (fun _ => 0)))] H := hP
  have hD : va_D A [(yo, .inl (cI, 449, .inl f2_2)), (h0, .inr (9, [.ref ys, .ref yk, .ref yo, .ref yt, .int 0, .ref yfa, .ref yfe, .int 0, .int 0, .int 0, .ref yro, .ref yhe, .ref ygr, .int 0, .int 0, .int 0, .ref yta, .int 0, .int 0, .int 0, .int 0, .int 0, .ref ywa, .ref ybi, .ref ysi, .ref ynu, .ref ymo])), (ys, .inl (cI, 449, .inl (fun _ => 0)))] := hD
  subst hw_r_3
  refine lv_istore_n (lv' := [(1, .int 0), (0, .ref h0)]) hx hb dX9_lies_8 rfl hl (by decide) rfl (fun ls hl => ?_)
  refine lv_aload_n hx hb dX9_lies_9 rfl (lv_at hl 1 rfl) ?_
  refine xc_Vv (wr := []) hF (c_X9_putsBack l D cI cJ cZ cS sa H.size h0 ys yk yo yt yfa yfe yro yhe ygr yta ywa ybi ysi ynu ymo 0 f2_2 ) kv_X9_220 ⟨rfl, rfl, Nat.le_of_ble_eq_true rfl, Nat.le_of_ble_eq_true rfl⟩ ⟨Nat.le_of_ble_eq_true rfl, Nat.le_of_ble_eq_true rfl⟩ hK hN hP hD hS hA [1, 2, 0] [] rfl rfl rfl rfl (by decide) 0 rfl rfl rfl rfl hl.1 rfl (Nat.le_of_ble_eq_true rfl) dX9_lies_10 (fun u_r_4 H locs hw_r_4 hP hD hS => ?_)
  have hP : va_P D vwCl [(h0, .inr (9, [.ref ys, .ref yk, .ref yo, .ref yt, .int 0, .ref yfa, .ref yfe, .int 0, .int 0, .int 0, .ref yro, .ref yhe, .ref ygr, .int 0, .int 0, .int 0, .ref yta, .int 0, .int 0, .int 0, .int 0, .int 0, .ref ywa, .ref ybi, .ref ysi, .ref ynu, .ref ymo]))] H := hP
  have hD : va_D A [(h0, .inr (9, [.ref ys, .ref yk, .ref yo, .ref yt, .int 0, .ref yfa, .ref yfe, .int 0, .int 0, .int 0, .ref yro, .ref yhe, .ref ygr, .int 0, .int 0, .int 0, .ref yta, .int 0, .int 0, .int 0, .int 0, .int 0, .ref ywa, .ref ybi, .ref ysi, .ref ynu, .ref ymo]))] := hD
  refine lv_aload_n hx hb dX9_lies_13 rfl (lv_at hl 1 rfl) ?_
  refine xg hF kf_X9_208 hK hP 0 rfl rfl dX9_lies_14 ?_
  exact W.iret (v := 0) hx hb hr (fun t ht hW => ⟨⟨0, (), rfl, rfl, by rw [ht]; exact hP.sub [] rfl, hD.sub [] (by decide) rfl⟩, hS.F ht⟩) hS.2.2 dX9_lies_17 hlk
set_option maxHeartbeats 4000000 in
set_option maxRecDepth 100000 in
theorem c_X9_ask (l : Launch) (D : va_G) (cI cJ cZ cS : ClassId) (sa : Nat → Nat) (sz : Nat) (h0 : Nat) (ys : Nat) (yk : Nat) (yo : Nat) (yt : Nat) (yfa : Nat) (yfe : Nat) (yro : Nat) (yhe : Nat) (ygr : Nat) (yta : Nat) (ywa : Nat) (ybi : Nat) (ysi : Nat) (ynu : Nat) (ymo : Nat) : Met l yX9_ask (Cond.code yX9_ask cX9_ask 4 (some .int) :: wsU) ({ frames := 1, cells := 0, slots := 0, locals := 21 }) (va_Pc [.ref h0] (XW D (xT cI cJ cZ cS) sa [(h0, .inr (9, [.ref ys, .ref yk, .ref yo, .ref yt, .int 0, .ref yfa, .ref yfe, .int 0, .int 0, .int 0, .ref yro, .ref yhe, .ref ygr, .int 0, .int 0, .int 0, .ref yta, .int 0, .int 0, .int 0, .int 0, .int 0, .ref ywa, .ref ybi, .ref ysi, .ref ynu, .ref ymo])), (ys, .inl (cI, 449, .inl (fun _ => 0))), (yt, .inl (cI, 7, .inl (fun _ => 0)))] sz)) (XQi (fun (r : Int32) (_ : Unit) => r = (-1000000004)) D (fun _ : Unit => []) (va_A [(h0, .inr (9, [.ref ys, .ref yk, .ref yo, .ref yt, .int 0, .ref yfa, .ref yfe, .int 0, .int 0, .int 0, .ref yro, .ref yhe, .ref ygr, .int 0, .int 0, .int 0, .ref yta, .int 0, .int 0, .int 0, .int 0, .int 0, .ref ywa, .ref ybi, .ref ysi, .ref ynu, .ref ymo])), (ys, .inl (cI, 449, .inl (fun _ => 0))), (yt, .inl (cI, 7, .inl (fun _ => 0)))] sz)) 0 0 (va_A [(h0, .inr (9, [.ref ys, .ref yk, .ref yo, .ref yt, .int 0, .ref yfa, .ref yfe, .int 0, .int 0, .int 0, .ref yro, .ref yhe, .ref ygr, .int 0, .int 0, .int 0, .ref yta, .int 0, .int 0, .int 0, .int 0, .int 0, .ref ywa, .ref ybi, .ref ysi, .ref ynu, .ref ymo])), (ys, .inl (cI, 449, .inl (fun _ => 0))), (yt, .inl (cI, 7, .inl (fun _ => 0)))] sz) := by
  refine xhw (QA := fun A => XQi (fun (r : Int32) (_ : Unit) => r = (-1000000004)) D (fun _ : Unit => []) A) (by decide) (Nat.le_of_ble_eq_true rfl) ?_
  intro p e s m below meth c ls A hF hr hlk hin hsz hP hK hD hN hA hS hl
  have hF : CallFix p m c cX9_ask 4 s _ _ RX9 := hF
  have hx := hF.1
  have hb := hF.2.1
  have hml := hF.2.2.1
  have hown := hF.2.2.2.1
  have hu : ∀ w ∈ wsU, w.before _ s = true := fun w h => hF.2.2.2.2 w (List.mem_cons_of_mem _ h)
  have hl : lv_has ls 4 [(0, .ref h0)] := hl
  refine lv_iconst (v := (-1)) hx hb dX9_ask_0 (by decide) ?_
  refine lv_istore_n (lv' := [(1, .int (-1)), (0, .ref h0)]) hx hb dX9_ask_1 rfl hl (by decide) rfl (fun ls hl => ?_)
  refine lv_iconst (v := 0) hx hb dX9_ask_2 (by decide) ?_
  refine lv_istore_n (lv' := [(2, .int 0), (1, .int (-1)), (0, .ref h0)]) hx hb dX9_ask_3 rfl hl (by decide) rfl (fun ls hl => ?_)
  refine lv_iconst (v := 0) hx hb dX9_ask_4 (by decide) ?_
  refine lv_istore_n (lv' := [(3, .int 0), (2, .int 0), (1, .int (-1)), (0, .ref h0)]) hx hb dX9_ask_5 rfl hl (by decide) rfl (fun ls hl => ?_)
  suffices loop_2 : ∀ (n k_1 : Nat) (H : Heap) (locs : List Loc) (ls : Array Slot), k_1 + n = 100 → va_P D vwCl [(h0, .inr (9, [.ref ys, .ref yk, .ref yo, .ref yt, .int 0, .ref yfa, .ref yfe, .int 0, .int 0, .int 0, .ref yro, .ref yhe, .ref ygr, .int 0, .int 0, .int 0, .ref yta, .int 0, .int 0, .int 0, .int 0, .int 0, .ref ywa, .ref ybi, .ref ysi, .ref ynu, .ref ymo])), (ys, .inl (cI, 449, .inl (fun _ => 0))), (yt, .inl (cI, 7, .inl (fun _ => 0)))] H → va_D A [(h0, .inr (9, [.ref ys, .ref yk, .ref yo, .ref yt, .int 0, .ref yfa, .ref yfe, .int 0, .int 0, .int 0, .ref yro, .ref yhe, .ref ygr, .int 0, .int 0, .int 0, .ref yta, .int 0, .int 0, .int 0, .int 0, .int 0, .ref ywa, .ref ybi, .ref ysi, .ref ynu, .ref ymo])), (ys, .inl (cI, 449, .inl (fun _ => 0))), (yt, .inl (cI, 7, .inl (fun _ => 0)))] → va_S A s.heap H locs → lv_has ls 4 [(3, .int (nI (k_1))), (2, .int 0), (1, .int (-1)), (0, .ref h0)] → W p l e ({ frames := 1, cells := 0, slots := 0, locals := 21 }) s m ([.ref h0] : List Value).toArray below meth c H locs 0 0 (MQ below (XQi (fun (r : Int32) (_ : Unit) => r = (-1000000004)) D (fun _ : Unit => []) A) ([.ref h0] : List Value).toArray s 0 0 A) (F0 m 6 ls []) by
    exact loop_2 100 0  _ _ _ (by decide) hP hD hS (lv_sub hl [0, 1, 2, 3] rfl)
  intro n
  induction n with
  | zero =>
    intro k_1  H locs ls hk hP hD hS hl 
    have hk2 : k_1 = 100 := by omega
    subst hk2
    have hl : lv_has ls 4 [(3, .int 100), (2, .int 0), (1, .int (-1)), (0, .ref h0)] := hl
    refine lv_iload_n hx hb dX9_ask_6 rfl (lv_at hl 0 rfl) ?_
    refine lv_bipush (v := 100) hx hb dX9_ask_7 (by decide) ?_
    refine lv_icmp_ge (tgt := 35) hx hb dX9_ask_9 (by decide) (fun c_3 => ?_) (fun c_3 => absurd (by decide) c_3)
    refine lv_iload_n hx hb dX9_ask_35 rfl (lv_at hl 2 rfl) ?_
    refine lv_if_ge (tgt := 48) hx hb dX9_ask_36 (by decide) (fun c_4 => absurd c_4 (by decide)) (fun c_4 => ?_)
    refine lv_aload_n hx hb dX9_ask_39 rfl (lv_at hl 3 rfl) ?_
    refine lv_ldc (v := (-1000000004)) hx hb hown (hu _ uw426) dX9_ask_40 ?_
    refine xc_Vi (wr := [(ys, .inl (cI, 449, .inl (fun _ => 0)))]) hF (c_X9_finds_N l D cI cJ cZ cS sa H.size h0 ys yk yo yt yfa yfe yro yhe ygr yta ywa ybi ysi ynu ymo 0 0 0 (fun _ => 0) ) kv_X9_70 ⟨rfl, rfl, Nat.le_of_ble_eq_true rfl, Nat.le_of_ble_eq_true rfl⟩ ⟨Nat.le_of_ble_eq_true rfl, Nat.le_of_ble_eq_true rfl⟩ hK hN hP hD hS hA [0, 2] [1] rfl rfl rfl rfl (by decide) 0 rfl rfl rfl rfl hl.1 rfl (Nat.le_of_ble_eq_true rfl) dX9_ask_42 (fun r_5 u_r_5 H locs hw_r_5 hP hD hS => ?_)
    have hP : va_P D vwCl [(ys, .inl (cI, 449, .inl (fun _ => 0)))] H := hP
    have hD : va_D A [(ys, .inl (cI, 449, .inl (fun _ => 0)))] := hD
    subst hw_r_5
    refine lv_goto (tgt := 49) hx hb dX9_ask_45 (by decide) ?_
    exact W.iret (v := (-1000000004)) hx hb hr (fun t ht hW => ⟨⟨(-1000000004), (), rfl, rfl, by rw [ht]; exact hP.sub [] rfl, hD.sub [] (by decide) rfl⟩, hS.F ht⟩) hS.2.2 dX9_ask_49 hlk
  | succ n ih =>
    intro k_1  H locs ls hk hP hD hS hl 
    have hlt_k_1 : k_1 < 100 := by omega
    refine lv_iload_n hx hb dX9_ask_6 rfl (lv_at hl 0 rfl) ?_
    refine lv_bipush (v := 100) hx hb dX9_ask_7 (by decide) ?_
    refine lv_icmp_ge (tgt := 35) hx hb dX9_ask_9 (by decide) (fun c_6 => absurd c_6 (nI_ge hlt_k_1 (by decide))) (fun c_6 => ?_)
    refine lv_aload_n hx hb dX9_ask_12 rfl (lv_at hl 3 rfl) ?_
    refine lv_iload_n hx hb dX9_ask_13 rfl (lv_at hl 0 rfl) ?_
    refine xc_Vr hF (c_X9_between l D cI cJ cZ cS sa H.size h0 ys yk yo yt yfa yfe yro yhe ygr yta ywa ybi ysi ynu ymo k_1 (by first | assumption | omega | decide)) kv_X9_223 ⟨rfl, rfl, Nat.le_of_ble_eq_true rfl, Nat.le_of_ble_eq_true rfl⟩ ⟨Nat.le_of_ble_eq_true rfl, Nat.le_of_ble_eq_true rfl⟩ hK hN hP hD [0, 1] rfl rfl 0 rfl rfl rfl rfl hl.1 rfl (Nat.le_of_ble_eq_true rfl) dX9_ask_14 (fun r_7 hw_r_7 => ?_)
    subst hw_r_7
    refine lv_iload_n hx hb dX9_ask_17 rfl (lv_at hl 1 rfl) ?_
    refine lv_icmp_le (tgt := 29) hx hb dX9_ask_18 (by decide) (fun c_8 => ?_) (fun c_8 => absurd (by decide) c_8)
    refine lv_iinc (v := nI (k_1 + 1)) (lv' := [(3, .int (nI (k_1 + 1))), (2, .int 0), (1, .int (-1)), (0, .ref h0)]) hx hb dX9_ask_29 hl (k := 0) rfl (nI_1 (k_1)) (by decide) rfl (fun ls hl => ?_)
    refine lv_goto (tgt := 6) hx hb dX9_ask_32 (by decide) ?_
    exact ih (k_1 + 1)  _ _ _ (by omega) (hP.sub [0, 1, 2] rfl) (hD.sub [0, 1, 2] (by decide) rfl) hS (lv_sub hl [0, 1, 2, 3] rfl)
set_option maxHeartbeats 4000000 in
set_option maxRecDepth 100000 in
theorem c_X9_mend (l : Launch) (D : va_G) (cI cJ cZ cS : ClassId) (sa : Nat → Nat) (sz : Nat) (h0 : Nat) (ys : Nat) (yk : Nat) (yo : Nat) (yt : Nat) (yfa : Nat) (yfe : Nat) (yro : Nat) (yhe : Nat) (ygr : Nat) (yta : Nat) (ywa : Nat) (ybi : Nat) (ysi : Nat) (ynu : Nat) (ymo : Nat) : Met l yX9_mend (Cond.code yX9_mend cX9_mend 7 (some .int) :: wsU) ({ frames := 2, cells := 0, slots := 0, locals := 45 }) (va_Pc [.ref h0] (XW D (xT cI cJ cZ cS) sa [(h0, .inr (9, [.ref ys, .ref yk, .ref yo, .ref yt, .int 0, .ref yfa, .ref yfe, .int 0, .int 0, .int 0, .ref yro, .ref yhe, .ref ygr, .int 0, .int 0, .int 0, .ref yta, .int 0, .int 0, .int 0, .int 0, .int 0, .ref ywa, .ref ybi, .ref ysi, .ref ynu, .ref ymo])), (ys, .inl (cI, 449, .inl (fun _ => 0))), (yt, .inl (cI, 7, .inl (fun _ => 0)))] sz)) (XQi (fun (r : Int32) (_ : Unit) => r = (-1000000004)) D (fun _ : Unit => []) (va_A [(h0, .inr (9, [.ref ys, .ref yk, .ref yo, .ref yt, .int 0, .ref yfa, .ref yfe, .int 0, .int 0, .int 0, .ref yro, .ref yhe, .ref ygr, .int 0, .int 0, .int 0, .ref yta, .int 0, .int 0, .int 0, .int 0, .int 0, .ref ywa, .ref ybi, .ref ysi, .ref ynu, .ref ymo])), (ys, .inl (cI, 449, .inl (fun _ => 0))), (yt, .inl (cI, 7, .inl (fun _ => 0)))] sz)) 0 0 (va_A [(h0, .inr (9, [.ref ys, .ref yk, .ref yo, .ref yt, .int 0, .ref yfa, .ref yfe, .int 0, .int 0, .int 0, .ref yro, .ref yhe, .ref ygr, .int 0, .int 0, .int 0, .ref yta, .int 0, .int 0, .int 0, .int 0, .int 0, .ref ywa, .ref ybi, .ref ysi, .ref ynu, .ref ymo])), (ys, .inl (cI, 449, .inl (fun _ => 0))), (yt, .inl (cI, 7, .inl (fun _ => 0)))] sz) := by
  refine xhw (QA := fun A => XQi (fun (r : Int32) (_ : Unit) => r = (-1000000004)) D (fun _ : Unit => []) A) (by decide) (Nat.le_of_ble_eq_true rfl) ?_
  intro p e s m below meth c ls A hF hr hlk hin hsz hP hK hD hN hA hS hl
  have hF : CallFix p m c cX9_mend 7 s _ _ RX9 := hF
  have hx := hF.1
  have hb := hF.2.1
  have hml := hF.2.2.1
  have hown := hF.2.2.2.1
  have hu : ∀ w ∈ wsU, w.before _ s = true := fun w h => hF.2.2.2.2 w (List.mem_cons_of_mem _ h)
  have hl : lv_has ls 7 [(0, .ref h0)] := hl
  refine lv_aload_n hx hb dX9_mend_0 rfl (lv_at hl 0 rfl) ?_
  refine xc_Vv (wr := [(yt, .inl (cI, 7, .inl (fun _ => 0)))]) hF (c_X9_findFar l D cI cJ cZ cS sa s.heap.size h0 ys yk yo yt yfa yfe yro yhe ygr yta ywa ybi ysi ynu ymo ) kv_X9_113 ⟨rfl, rfl, Nat.le_of_ble_eq_true rfl, Nat.le_of_ble_eq_true rfl⟩ ⟨Nat.le_of_ble_eq_true rfl, Nat.le_of_ble_eq_true rfl⟩ hK hN hP hD hS hA [0, 1] [2] rfl rfl rfl rfl (by decide) 0 rfl rfl rfl rfl hl.1 rfl (Nat.le_of_ble_eq_true rfl) dX9_mend_1 (fun u_r_1 H locs hw_r_1 hP hD hS => ?_)
  have hP : va_P D vwCl [(yt, .inl (cI, 7, .inl (fun _ => 0))), (h0, .inr (9, [.ref ys, .ref yk, .ref yo, .ref yt, .int 0, .ref yfa, .ref yfe, .int 0, .int 0, .int 0, .ref yro, .ref yhe, .ref ygr, .int 0, .int 0, .int 0, .ref yta, .int 0, .int 0, .int 0, .int 0, .int 0, .ref ywa, .ref ybi, .ref ysi, .ref ynu, .ref ymo])), (ys, .inl (cI, 449, .inl (fun _ => 0)))] H := hP
  have hD : va_D A [(yt, .inl (cI, 7, .inl (fun _ => 0))), (h0, .inr (9, [.ref ys, .ref yk, .ref yo, .ref yt, .int 0, .ref yfa, .ref yfe, .int 0, .int 0, .int 0, .ref yro, .ref yhe, .ref ygr, .int 0, .int 0, .int 0, .ref yta, .int 0, .int 0, .int 0, .int 0, .int 0, .ref ywa, .ref ybi, .ref ysi, .ref ynu, .ref ymo])), (ys, .inl (cI, 449, .inl (fun _ => 0)))] := hD
  refine lv_aload_n hx hb dX9_mend_4 rfl (lv_at hl 0 rfl) ?_
  refine xg hF kf_X9_109 hK hP 1 rfl rfl dX9_mend_5 ?_
  refine lv_if_eq (tgt := 18) hx hb dX9_mend_8 (by decide) (fun c_2 => ?_) (fun c_2 => absurd (by decide) c_2)
  refine lv_aload_n hx hb dX9_mend_18 rfl (lv_at hl 0 rfl) ?_
  refine xc_Vr hF (c_X9_tripOfHome l D cI cJ cZ cS sa H.size h0 ys yk yo yt yfa yfe yro yhe ygr yta ywa ybi ysi ynu ymo ) kv_X9_226 ⟨rfl, rfl, Nat.le_of_ble_eq_true rfl, Nat.le_of_ble_eq_true rfl⟩ ⟨Nat.le_of_ble_eq_true rfl, Nat.le_of_ble_eq_true rfl⟩ hK hN hP hD [1, 2] rfl rfl 0 rfl rfl rfl rfl hl.1 rfl (Nat.le_of_ble_eq_true rfl) dX9_mend_19 (fun r_3 hw_r_3 => ?_)
  subst hw_r_3
  refine lv_istore_n (lv' := [(1, .int 100000000), (0, .ref h0)]) hx hb dX9_mend_22 rfl hl (by decide) rfl (fun ls hl => ?_)
  refine lv_iconst (v := (-1)) hx hb dX9_mend_23 (by decide) ?_
  refine lv_istore_n (lv' := [(2, .int (-1)), (1, .int 100000000), (0, .ref h0)]) hx hb dX9_mend_24 rfl hl (by decide) rfl (fun ls hl => ?_)
  refine lv_iconst (v := 0) hx hb dX9_mend_25 (by decide) ?_
  refine lv_istore_n (lv' := [(3, .int 0), (2, .int (-1)), (1, .int 100000000), (0, .ref h0)]) hx hb dX9_mend_26 rfl hl (by decide) rfl (fun ls hl => ?_)
  refine lv_iconst (v := 0) hx hb dX9_mend_27 (by decide) ?_
  refine lv_istore (lv' := [(4, .int 0), (3, .int 0), (2, .int (-1)), (1, .int 100000000), (0, .ref h0)]) hx hb dX9_mend_28 hl (by decide) rfl (fun ls hl => ?_)
  refine lv_iload hx hb dX9_mend_30 (lv_at hl 0 rfl) ?_
  refine lv_aload_n hx hb dX9_mend_32 rfl (lv_at hl 4 rfl) ?_
  refine xg hF kf_X9_7 hK hP 1 rfl rfl dX9_mend_33 ?_
  refine lv_iconst (v := 0) hx hb dX9_mend_36 (by decide) ?_
  refine va_iald hx hb hK hP 2 0 rfl rfl (xin 0 449 (by decide) (by decide)) dX9_mend_37 ?_
  refine xl_i (y := 0) rfl ?_
  refine lv_icmp_ge (tgt := 132) hx hb dX9_mend_38 (by decide) (fun c_4 => ?_) (fun c_4 => absurd (by decide) c_4)
  refine lv_iload_n hx hb dX9_mend_132 rfl (lv_at hl 2 rfl) ?_
  refine lv_if_ge (tgt := 145) hx hb dX9_mend_133 (by decide) (fun c_5 => absurd c_5 (by decide)) (fun c_5 => ?_)
  refine lv_aload_n hx hb dX9_mend_136 rfl (lv_at hl 4 rfl) ?_
  refine lv_ldc (v := (-1000000004)) hx hb hown (hu _ uw426) dX9_mend_137 ?_
  refine xc_Vi (wr := [(ys, .inl (cI, 449, .inl (fun _ => 0)))]) hF (c_X9_finds_N l D cI cJ cZ cS sa H.size h0 ys yk yo yt yfa yfe yro yhe ygr yta ywa ybi ysi ynu ymo 0 0 0 (fun _ => 0) ) kv_X9_70 ⟨rfl, rfl, Nat.le_of_ble_eq_true rfl, Nat.le_of_ble_eq_true rfl⟩ ⟨Nat.le_of_ble_eq_true rfl, Nat.le_of_ble_eq_true rfl⟩ hK hN hP hD hS hA [1, 0] [2] rfl rfl rfl rfl (by decide) 0 rfl rfl rfl rfl hl.1 rfl (Nat.le_of_ble_eq_true rfl) dX9_mend_139 (fun r_6 u_r_6 H locs hw_r_6 hP hD hS => ?_)
  have hP : va_P D vwCl [(ys, .inl (cI, 449, .inl (fun _ => 0)))] H := hP
  have hD : va_D A [(ys, .inl (cI, 449, .inl (fun _ => 0)))] := hD
  subst hw_r_6
  refine lv_goto (tgt := 146) hx hb dX9_mend_142 (by decide) ?_
  exact W.iret (v := (-1000000004)) hx hb hr (fun t ht hW => ⟨⟨(-1000000004), (), rfl, rfl, by rw [ht]; exact hP.sub [] rfl, hD.sub [] (by decide) rfl⟩, hS.F ht⟩) hS.2.2 dX9_mend_146 hlk
set_option maxHeartbeats 4000000 in
set_option maxRecDepth 100000 in
theorem c_X9_hollow (l : Launch) (D : va_G) (cI cJ cZ cS : ClassId) (sa : Nat → Nat) (sz : Nat) (h0 : Nat) (ys : Nat) (yk : Nat) (yo : Nat) (yt : Nat) (yfa : Nat) (yfe : Nat) (yro : Nat) (yhe : Nat) (ygr : Nat) (yta : Nat) (ywa : Nat) (ybi : Nat) (ysi : Nat) (ynu : Nat) (ymo : Nat) : Met l yX9_hollow (Cond.code yX9_hollow cX9_hollow 5 (some .int) :: wsU) ({ frames := 0, cells := 0, slots := 0, locals := 0 }) (va_Pc [.ref h0] (XW D (xT cI cJ cZ cS) sa [(h0, .inr (9, [.ref ys, .ref yk, .ref yo, .ref yt, .int 0, .ref yfa, .ref yfe, .int 0, .int 0, .int 0, .ref yro, .ref yhe, .ref ygr, .int 0, .int 0, .int 0, .ref yta, .int 0, .int 0, .int 0, .int 0, .int 0, .ref ywa, .ref ybi, .ref ysi, .ref ynu, .ref ymo])), (ys, .inl (cI, 449, .inl (fun _ => 0)))] sz)) (XQi (fun (r : Int32) (_ : Unit) => r = 0) D (fun _ : Unit => []) (va_A [(h0, .inr (9, [.ref ys, .ref yk, .ref yo, .ref yt, .int 0, .ref yfa, .ref yfe, .int 0, .int 0, .int 0, .ref yro, .ref yhe, .ref ygr, .int 0, .int 0, .int 0, .ref yta, .int 0, .int 0, .int 0, .int 0, .int 0, .ref ywa, .ref ybi, .ref ysi, .ref ynu, .ref ymo])), (ys, .inl (cI, 449, .inl (fun _ => 0)))] sz)) 0 0 (va_A [(h0, .inr (9, [.ref ys, .ref yk, .ref yo, .ref yt, .int 0, .ref yfa, .ref yfe, .int 0, .int 0, .int 0, .ref yro, .ref yhe, .ref ygr, .int 0, .int 0, .int 0, .ref yta, .int 0, .int 0, .int 0, .int 0, .int 0, .ref ywa, .ref ybi, .ref ysi, .ref ynu, .ref ymo])), (ys, .inl (cI, 449, .inl (fun _ => 0)))] sz) := by
  refine xhw (QA := fun A => XQi (fun (r : Int32) (_ : Unit) => r = 0) D (fun _ : Unit => []) A) (by decide) (Nat.le_of_ble_eq_true rfl) ?_
  intro p e s m below meth c ls A hF hr hlk hin hsz hP hK hD hN hA hS hl
  have hF : CallFix p m c cX9_hollow 5 s _ _ RX9 := hF
  have hx := hF.1
  have hb := hF.2.1
  have hml := hF.2.2.1
  have hown := hF.2.2.2.1
  have hu : ∀ w ∈ wsU, w.before _ s = true := fun w h => hF.2.2.2.2 w (List.mem_cons_of_mem _ h)
  have hl : lv_has ls 5 [(0, .ref h0)] := hl
  refine lv_iconst (v := 0) hx hb dX9_hollow_0 (by decide) ?_
  refine lv_istore_n (lv' := [(1, .int 0), (0, .ref h0)]) hx hb dX9_hollow_1 rfl hl (by decide) rfl (fun ls hl => ?_)
  refine lv_iconst (v := 0) hx hb dX9_hollow_2 (by decide) ?_
  refine lv_istore_n (lv' := [(2, .int 0), (1, .int 0), (0, .ref h0)]) hx hb dX9_hollow_3 rfl hl (by decide) rfl (fun ls hl => ?_)
  refine lv_iload_n hx hb dX9_hollow_4 rfl (lv_at hl 0 rfl) ?_
  refine lv_aload_n hx hb dX9_hollow_5 rfl (lv_at hl 2 rfl) ?_
  refine xg hF kf_X9_7 hK hP 0 rfl rfl dX9_hollow_6 ?_
  refine lv_iconst (v := 0) hx hb dX9_hollow_9 (by decide) ?_
  refine va_iald hx hb hK hP 1 0 rfl rfl (xin 0 449 (by decide) (by decide)) dX9_hollow_10 ?_
  refine xl_i (y := 0) rfl ?_
  refine lv_icmp_ge (tgt := 66) hx hb dX9_hollow_11 (by decide) (fun c_1 => ?_) (fun c_1 => absurd (by decide) c_1)
  refine lv_iconst (v := (-1)) hx hb dX9_hollow_66 (by decide) ?_
  refine lv_istore_n (lv' := [(2, .int (-1)), (1, .int 0), (0, .ref h0)]) hx hb dX9_hollow_67 rfl hl (by decide) rfl (fun ls hl => ?_)
  refine lv_iload_n hx hb dX9_hollow_68 rfl (lv_at hl 0 rfl) ?_
  refine lv_iload_n hx hb dX9_hollow_69 rfl (lv_at hl 1 rfl) ?_
  refine lv_icmp_eq (tgt := 119) hx hb dX9_hollow_70 (by decide) (fun c_2 => absurd c_2 (by decide)) (fun c_2 => ?_)
  refine lv_iload_n hx hb dX9_hollow_73 rfl (lv_at hl 1 rfl) ?_
  refine lv_istore_n (lv' := [(2, .int 0), (1, .int 0), (0, .ref h0)]) hx hb dX9_hollow_74 rfl hl (by decide) rfl (fun ls hl => ?_)
  refine lv_iconst (v := 0) hx hb dX9_hollow_75 (by decide) ?_
  refine lv_istore_n (lv' := [(3, .int 0), (2, .int 0), (1, .int 0), (0, .ref h0)]) hx hb dX9_hollow_76 rfl hl (by decide) rfl (fun ls hl => ?_)
  refine lv_iload_n hx hb dX9_hollow_77 rfl (lv_at hl 0 rfl) ?_
  refine lv_aload_n hx hb dX9_hollow_78 rfl (lv_at hl 3 rfl) ?_
  refine xg hF kf_X9_7 hK hP 0 rfl rfl dX9_hollow_79 ?_
  refine lv_iconst (v := 0) hx hb dX9_hollow_82 (by decide) ?_
  refine va_iald hx hb hK hP 1 0 rfl rfl (xin 0 449 (by decide) (by decide)) dX9_hollow_83 ?_
  refine xl_i (y := 0) rfl ?_
  refine lv_icmp_ge (tgt := 116) hx hb dX9_hollow_84 (by decide) (fun c_3 => ?_) (fun c_3 => absurd (by decide) c_3)
  refine lv_goto (tgt := 68) hx hb dX9_hollow_116 (by decide) ?_
  refine lv_iload_n hx hb dX9_hollow_68 rfl (lv_at hl 1 rfl) ?_
  refine lv_iload_n hx hb dX9_hollow_69 rfl (lv_at hl 2 rfl) ?_
  refine lv_icmp_eq (tgt := 119) hx hb dX9_hollow_70 (by decide) (fun c_4 => ?_) (fun c_4 => absurd (by decide) c_4)
  refine lv_iload_n hx hb dX9_hollow_119 rfl (lv_at hl 2 rfl) ?_
  exact W.iret (v := 0) hx hb hr (fun t ht hW => ⟨⟨0, (), rfl, rfl, by rw [ht]; exact hP.sub [] rfl, hD.sub [] (by decide) rfl⟩, hS.F ht⟩) hS.2.2 dX9_hollow_120 hlk
set_option maxHeartbeats 4000000 in
set_option maxRecDepth 100000 in
theorem c_X9_wipe (l : Launch) (D : va_G) (cI cJ cZ cS : ClassId) (sa : Nat → Nat) (sz : Nat) (h0 : Nat) (ys : Nat) (yk : Nat) (yo : Nat) (yt : Nat) (yfa : Nat) (yfe : Nat) (yro : Nat) (yhe : Nat) (ygr : Nat) (yta : Nat) (ywa : Nat) (ybi : Nat) (ysi : Nat) (ynu : Nat) (ymo : Nat) : Met l yX9_wipe (Cond.code yX9_wipe cX9_wipe 2 (some .int) :: wsU) ({ frames := 0, cells := 0, slots := 0, locals := 0 }) (va_Pc [.ref h0] (XW D (xT cI cJ cZ cS) sa [(h0, .inr (9, [.ref ys, .ref yk, .ref yo, .ref yt, .int 0, .ref yfa, .ref yfe, .int 0, .int 0, .int 0, .ref yro, .ref yhe, .ref ygr, .int 0, .int 0, .int 0, .ref yta, .int 0, .int 0, .int 0, .int 0, .int 0, .ref ywa, .ref ybi, .ref ysi, .ref ynu, .ref ymo]))] sz)) (XQi (fun (r : Int32) (_ : Unit) => r = 0) D (fun _ : Unit => []) (va_A [(h0, .inr (9, [.ref ys, .ref yk, .ref yo, .ref yt, .int 0, .ref yfa, .ref yfe, .int 0, .int 0, .int 0, .ref yro, .ref yhe, .ref ygr, .int 0, .int 0, .int 0, .ref yta, .int 0, .int 0, .int 0, .int 0, .int 0, .ref ywa, .ref ybi, .ref ysi, .ref ynu, .ref ymo]))] sz)) 0 0 (va_A [(h0, .inr (9, [.ref ys, .ref yk, .ref yo, .ref yt, .int 0, .ref yfa, .ref yfe, .int 0, .int 0, .int 0, .ref yro, .ref yhe, .ref ygr, .int 0, .int 0, .int 0, .ref yta, .int 0, .int 0, .int 0, .int 0, .int 0, .ref ywa, .ref ybi, .ref ysi, .ref ynu, .ref ymo]))] sz) := by
  refine xhw (QA := fun A => XQi (fun (r : Int32) (_ : Unit) => r = 0) D (fun _ : Unit => []) A) (by decide) (Nat.le_of_ble_eq_true rfl) ?_
  intro p e s m below meth c ls A hF hr hlk hin hsz hP hK hD hN hA hS hl
  have hF : CallFix p m c cX9_wipe 2 s _ _ RX9 := hF
  have hx := hF.1
  have hb := hF.2.1
  have hml := hF.2.2.1
  have hown := hF.2.2.2.1
  have hu : ∀ w ∈ wsU, w.before _ s = true := fun w h => hF.2.2.2.2 w (List.mem_cons_of_mem _ h)
  have hl : lv_has ls 2 [(0, .ref h0)] := hl
  refine lv_aload_n hx hb dX9_wipe_0 rfl (lv_at hl 0 rfl) ?_
  refine xg hF kf_X9_240 hK hP 0 rfl rfl dX9_wipe_1 ?_
  refine lv_istore_n (lv' := [(1, .int 0), (0, .ref h0)]) hx hb dX9_wipe_4 rfl hl (by decide) rfl (fun ls hl => ?_)
  refine lv_aload_n hx hb dX9_wipe_5 rfl (lv_at hl 1 rfl) ?_
  refine lv_iconst (v := 0) hx hb dX9_wipe_6 (by decide) ?_
  refine xp hF kf_X9_240 tyX9_ok nmX9 hK hP hD hS 0 rfl rfl rfl rfl (Nat.le_of_ble_eq_true rfl) dX9_wipe_7 (fun H locs hP hD hS => ?_)
  have hP : va_P D vwCl [(h0, .inr (9, [.ref ys, .ref yk, .ref yo, .ref yt, .int 0, .ref yfa, .ref yfe, .int 0, .int 0, .int 0, .ref yro, .ref yhe, .ref ygr, .int 0, .int 0, .int 0, .ref yta, .int 0, .int 0, .int 0, .int 0, .int 0, .ref ywa, .ref ybi, .ref ysi, .ref ynu, .ref ymo]))] H := hP
  have hD : va_D A [(h0, .inr (9, [.ref ys, .ref yk, .ref yo, .ref yt, .int 0, .ref yfa, .ref yfe, .int 0, .int 0, .int 0, .ref yro, .ref yhe, .ref ygr, .int 0, .int 0, .int 0, .ref yta, .int 0, .int 0, .int 0, .int 0, .int 0, .ref ywa, .ref ybi, .ref ysi, .ref ynu, .ref ymo]))] := hD
  refine lv_iload_n hx hb dX9_wipe_10 rfl (lv_at hl 0 rfl) ?_
  exact W.iret (v := 0) hx hb hr (fun t ht hW => ⟨⟨0, (), rfl, rfl, by rw [ht]; exact hP.sub [] rfl, hD.sub [] (by decide) rfl⟩, hS.F ht⟩) hS.2.2 dX9_wipe_11 hlk
set_option maxHeartbeats 4000000 in
set_option maxRecDepth 100000 in
theorem c_X9_land (l : Launch) (D : va_G) (cI cJ cZ cS : ClassId) (sa : Nat → Nat) (sz : Nat) (h0 : Nat) (ys : Nat) (yk : Nat) (yo : Nat) (yt : Nat) (yfa : Nat) (yfe : Nat) (yro : Nat) (yhe : Nat) (ygr : Nat) (yta : Nat) (ywa : Nat) (ybi : Nat) (ysi : Nat) (ynu : Nat) (ymo : Nat) : Met l yX9_land (Cond.code yX9_land cX9_land 2 (some .int) :: wsU) ({ frames := 3, cells := 0, slots := 0, locals := 67 }) (va_Pc [.ref h0] (XW D (xT cI cJ cZ cS) sa [(h0, .inr (9, [.ref ys, .ref yk, .ref yo, .ref yt, .int 0, .ref yfa, .ref yfe, .int 0, .int 0, .int 0, .ref yro, .ref yhe, .ref ygr, .int 0, .int 0, .int 0, .ref yta, .int 0, .int 0, .int 0, .int 0, .int 0, .ref ywa, .ref ybi, .ref ysi, .ref ynu, .ref ymo])), (ys, .inl (cI, 449, .inl (fun _ => 0))), (yo, .inl (cI, 449, .inl (fun _ => 0)))] sz)) (XQi (fun (r : Int32) (_ : Unit) => r = (-1)) D (fun _ : Unit => []) (va_A [(h0, .inr (9, [.ref ys, .ref yk, .ref yo, .ref yt, .int 0, .ref yfa, .ref yfe, .int 0, .int 0, .int 0, .ref yro, .ref yhe, .ref ygr, .int 0, .int 0, .int 0, .ref yta, .int 0, .int 0, .int 0, .int 0, .int 0, .ref ywa, .ref ybi, .ref ysi, .ref ynu, .ref ymo])), (ys, .inl (cI, 449, .inl (fun _ => 0))), (yo, .inl (cI, 449, .inl (fun _ => 0)))] sz)) 0 0 (va_A [(h0, .inr (9, [.ref ys, .ref yk, .ref yo, .ref yt, .int 0, .ref yfa, .ref yfe, .int 0, .int 0, .int 0, .ref yro, .ref yhe, .ref ygr, .int 0, .int 0, .int 0, .ref yta, .int 0, .int 0, .int 0, .int 0, .int 0, .ref ywa, .ref ybi, .ref ysi, .ref ynu, .ref ymo])), (ys, .inl (cI, 449, .inl (fun _ => 0))), (yo, .inl (cI, 449, .inl (fun _ => 0)))] sz) := by
  refine xhw (QA := fun A => XQi (fun (r : Int32) (_ : Unit) => r = (-1)) D (fun _ : Unit => []) A) (by decide) (Nat.le_of_ble_eq_true rfl) ?_
  intro p e s m below meth c ls A hF hr hlk hin hsz hP hK hD hN hA hS hl
  have hF : CallFix p m c cX9_land 2 s _ _ RX9 := hF
  have hx := hF.1
  have hb := hF.2.1
  have hml := hF.2.2.1
  have hown := hF.2.2.2.1
  have hu : ∀ w ∈ wsU, w.before _ s = true := fun w h => hF.2.2.2.2 w (List.mem_cons_of_mem _ h)
  have hl : lv_has ls 2 [(0, .ref h0)] := hl
  refine lv_aload_n hx hb dX9_land_0 rfl (lv_at hl 0 rfl) ?_
  refine xc_Vv (wr := []) hF (c_X9_puts l D cI cJ cZ cS sa s.heap.size h0 ys yk yo yt yfa yfe yro yhe ygr yta ywa ybi ysi ynu ymo ) kv_X9_217 ⟨rfl, rfl, Nat.le_of_ble_eq_true rfl, Nat.le_of_ble_eq_true rfl⟩ ⟨Nat.le_of_ble_eq_true rfl, Nat.le_of_ble_eq_true rfl⟩ hK hN hP hD hS hA [0, 1, 2] [] rfl rfl rfl rfl (by decide) 0 rfl rfl rfl rfl hl.1 rfl (Nat.le_of_ble_eq_true rfl) dX9_land_1 (fun u_r_1 H locs hw_r_1 hP hD hS => ?_)
  obtain ⟨f2_2, rfl⟩ : ∃ z, z = u_r_1 := ⟨_, rfl⟩
  try dsimp only at hw_r_1
  have hP : va_P D vwCl [(h0, .inr (9, [.ref ys, .ref yk, .ref yo, .ref yt, .int 0, .ref yfa, .ref yfe, .int 0, .int 0, .int 0, .ref yro, .ref yhe, .ref ygr, .int 0, .int 0, .int 0, .ref yta, .int 0, .int 0, .int 0, .int 0, .int 0, .ref ywa, .ref ybi, .ref ysi, .ref ynu, .ref ymo])), (ys, .inl (cI, 449, .inl (fun _ => 0))), (yo, .inl (cI, 449, .inl f2_2))] H := hP
  have hD : va_D A [(h0, .inr (9, [.ref ys, .ref yk, .ref yo, .ref yt, .int 0, .ref yfa, .ref yfe, .int 0, .int 0, .int 0, .ref yro, .ref yhe, .ref ygr, .int 0, .int 0, .int 0, .ref yta, .int 0, .int 0, .int 0, .int 0, .int 0, .ref ywa, .ref ybi, .ref ysi, .ref ynu, .ref ymo])), (ys, .inl (cI, 449, .inl (fun _ => 0))), (yo, .inl (cI, 449, .inl f2_2))] := hD
  refine lv_aload_n hx hb dX9_land_4 rfl (lv_at hl 0 rfl) ?_
  refine lv_iconst (v := 0) hx hb dX9_land_5 (by decide) ?_
  refine xp hF kf_X9_251 tyX9_ok nmX9 hK hP hD hS 0 rfl rfl rfl rfl (Nat.le_of_ble_eq_true rfl) dX9_land_6 (fun H locs hP hD hS => ?_)
  have hP : va_P D vwCl [(h0, .inr (9, [.ref ys, .ref yk, .ref yo, .ref yt, .int 0, .ref yfa, .ref yfe, .int 0, .int 0, .int 0, .ref yro, .ref yhe, .ref ygr, .int 0, .int 0, .int 0, .ref yta, .int 0, .int 0, .int 0, .int 0, .int 0, .ref ywa, .ref ybi, .ref ysi, .ref ynu, .ref ymo])), (ys, .inl (cI, 449, .inl (fun _ => 0))), (yo, .inl (cI, 449, .inl f2_2))] H := hP
  have hD : va_D A [(h0, .inr (9, [.ref ys, .ref yk, .ref yo, .ref yt, .int 0, .ref yfa, .ref yfe, .int 0, .int 0, .int 0, .ref yro, .ref yhe, .ref ygr, .int 0, .int 0, .int 0, .ref yta, .int 0, .int 0, .int 0, .int 0, .int 0, .ref ywa, .ref ybi, .ref ysi, .ref ynu, .ref ymo])), (ys, .inl (cI, 449, .inl (fun _ => 0))), (yo, .inl (cI, 449, .inl f2_2))] := hD
  refine lv_aload_n hx hb dX9_land_9 rfl (lv_at hl 0 rfl) ?_
  refine lv_iconst (v := 0) hx hb dX9_land_10 (by decide) ?_
  refine xp hF kf_X9_266 tyX9_ok nmX9 hK hP hD hS 0 rfl rfl rfl rfl (Nat.le_of_ble_eq_true rfl) dX9_land_11 (fun H locs hP hD hS => ?_)
  have hP : va_P D vwCl [(h0, .inr (9, [.ref ys, .ref yk, .ref yo, .ref yt, .int 0, .ref yfa, .ref yfe, .int 0, .int 0, .int 0, .ref yro, .ref yhe, .ref ygr, .int 0, .int 0, .int 0, .ref yta, .int 0, .int 0, .int 0, .int 0, .int 0, .ref ywa, .ref ybi, .ref ysi, .ref ynu, .ref ymo])), (ys, .inl (cI, 449, .inl (fun _ => 0))), (yo, .inl (cI, 449, .inl f2_2))] H := hP
  have hD : va_D A [(h0, .inr (9, [.ref ys, .ref yk, .ref yo, .ref yt, .int 0, .ref yfa, .ref yfe, .int 0, .int 0, .int 0, .ref yro, .ref yhe, .ref ygr, .int 0, .int 0, .int 0, .ref yta, .int 0, .int 0, .int 0, .int 0, .int 0, .ref ywa, .ref ybi, .ref ysi, .ref ynu, .ref ymo])), (ys, .inl (cI, 449, .inl (fun _ => 0))), (yo, .inl (cI, 449, .inl f2_2))] := hD
  refine lv_aload_n hx hb dX9_land_14 rfl (lv_at hl 0 rfl) ?_
  refine xc_Vv (wr := [(ys, .inl (cI, 449, .inl (fun _ => 0))), (yo, .inl (cI, 449, .inl f2_2))]) hF (c_X9_next l D cI cJ cZ cS sa H.size h0 ys yk yo yt yfa yfe yro yhe ygr yta ywa ybi ysi ynu ymo ) kv_X9_269 ⟨rfl, rfl, Nat.le_of_ble_eq_true rfl, Nat.le_of_ble_eq_true rfl⟩ ⟨Nat.le_of_ble_eq_true rfl, Nat.le_of_ble_eq_true rfl⟩ hK hN hP hD hS hA [0] [1, 2] rfl rfl rfl rfl (by decide) 0 rfl rfl rfl rfl hl.1 rfl (Nat.le_of_ble_eq_true rfl) dX9_land_15 (fun u_r_3 H locs hw_r_3 hP hD hS => ?_)
  have hP : va_P D vwCl [(ys, .inl (cI, 449, .inl (fun _ => 0))), (yo, .inl (cI, 449, .inl f2_2)), (h0, .inr (9, [.ref ys, .ref yk, .ref yo, .ref yt, .int 0, .ref yfa, .ref yfe, .int 0, .int 0, .int 0, .ref yro, .ref yhe, .ref ygr, .int 0, .int 0, .int 0, .ref yta, .int 0, .int 0, .int 0, .int 0, .int 0, .ref ywa, .ref ybi, .ref ysi, .ref ynu, .ref ymo]))] H := hP
  have hD : va_D A [(ys, .inl (cI, 449, .inl (fun _ => 0))), (yo, .inl (cI, 449, .inl f2_2)), (h0, .inr (9, [.ref ys, .ref yk, .ref yo, .ref yt, .int 0, .ref yfa, .ref yfe, .int 0, .int 0, .int 0, .ref yro, .ref yhe, .ref ygr, .int 0, .int 0, .int 0, .ref yta, .int 0, .int 0, .int 0, .int 0, .int 0, .ref ywa, .ref ybi, .ref ysi, .ref ynu, .ref ymo]))] := hD
  refine lv_iconst (v := 1) hx hb dX9_land_18 (by decide) ?_
  refine lv_istore_n (lv' := [(1, .int 1), (0, .ref h0)]) hx hb dX9_land_19 rfl hl (by decide) rfl (fun ls hl => ?_)
  refine lv_aload_n hx hb dX9_land_20 rfl (lv_at hl 1 rfl) ?_
  refine xc_Vv (wr := [(yo, .inl (cI, 449, .inl f2_2))]) hF (c_X9_item l D cI cJ cZ cS sa H.size h0 ys yk yo yt yfa yfe yro yhe ygr yta ywa ybi ysi ynu ymo ) kv_X9_300 ⟨rfl, rfl, Nat.le_of_ble_eq_true rfl, Nat.le_of_ble_eq_true rfl⟩ ⟨Nat.le_of_ble_eq_true rfl, Nat.le_of_ble_eq_true rfl⟩ hK hN hP hD hS hA [2, 0] [1] rfl rfl rfl rfl (by decide) 0 rfl rfl rfl rfl hl.1 rfl (Nat.le_of_ble_eq_true rfl) dX9_land_21 (fun u_r_4 H locs hw_r_4 hP hD hS => ?_)
  have hP : va_P D vwCl [(yo, .inl (cI, 449, .inl f2_2)), (ys, .inl (cI, 449, .inl (fun _ => 0))), (h0, .inr (9, [.ref ys, .ref yk, .ref yo, .ref yt, .int 0, .ref yfa, .ref yfe, .int 0, .int 0, .int 0, .ref yro, .ref yhe, .ref ygr, .int 0, .int 0, .int 0, .ref yta, .int 0, .int 0, .int 0, .int 0, .int 1, .ref ywa, .ref ybi, .ref ysi, .ref ynu, .ref ymo]))] H := hP
  have hD : va_D A [(yo, .inl (cI, 449, .inl f2_2)), (ys, .inl (cI, 449, .inl (fun _ => 0))), (h0, .inr (9, [.ref ys, .ref yk, .ref yo, .ref yt, .int 0, .ref yfa, .ref yfe, .int 0, .int 0, .int 0, .ref yro, .ref yhe, .ref ygr, .int 0, .int 0, .int 0, .ref yta, .int 0, .int 0, .int 0, .int 0, .int 1, .ref ywa, .ref ybi, .ref ysi, .ref ynu, .ref ymo]))] := hD
  refine lv_aload_n hx hb dX9_land_24 rfl (lv_at hl 1 rfl) ?_
  refine xg hF kf_X9_266 hK hP 2 rfl rfl dX9_land_25 ?_
  refine lv_if_ne (tgt := 74) hx hb dX9_land_28 (by decide) (fun c_5 => ?_) (fun c_5 => absurd c_5 (by decide))
  refine lv_aload_n hx hb dX9_land_74 rfl (lv_at hl 1 rfl) ?_
  refine lv_iconst (v := 0) hx hb dX9_land_75 (by decide) ?_
  refine xp hF kf_X9_240 tyX9_ok nmX9 hK hP hD hS 2 rfl rfl rfl rfl (Nat.le_of_ble_eq_true rfl) dX9_land_76 (fun H locs hP hD hS => ?_)
  have hP : va_P D vwCl [(yo, .inl (cI, 449, .inl f2_2)), (ys, .inl (cI, 449, .inl (fun _ => 0))), (h0, .inr (9, [.ref ys, .ref yk, .ref yo, .ref yt, .int 0, .ref yfa, .ref yfe, .int 0, .int 0, .int 0, .ref yro, .ref yhe, .ref ygr, .int 0, .int 0, .int 0, .ref yta, .int 0, .int 0, .int 0, .int 0, .int 1, .ref ywa, .ref ybi, .ref ysi, .ref ynu, .ref ymo]))] H := hP
  have hD : va_D A [(yo, .inl (cI, 449, .inl f2_2)), (ys, .inl (cI, 449, .inl (fun _ => 0))), (h0, .inr (9, [.ref ys, .ref yk, .ref yo, .ref yt, .int 0, .ref yfa, .ref yfe, .int 0, .int 0, .int 0, .ref yro, .ref yhe, .ref ygr, .int 0, .int 0, .int 0, .ref yta, .int 0, .int 0, .int 0, .int 0, .int 1, .ref ywa, .ref ybi, .ref ysi, .ref ynu, .ref ymo]))] := hD
  refine lv_aload_n hx hb dX9_land_79 rfl (lv_at hl 1 rfl) ?_
  refine xg hF kf_X9_266 hK hP 2 rfl rfl dX9_land_80 ?_
  refine lv_if_eq (tgt := 97) hx hb dX9_land_83 (by decide) (fun c_6 => absurd c_6 (by decide)) (fun c_6 => ?_)
  refine lv_aload_n hx hb dX9_land_86 rfl (lv_at hl 1 rfl) ?_
  refine xc_Vv (wr := []) hF (c_X9_putsBack l D cI cJ cZ cS sa H.size h0 ys yk yo yt yfa yfe yro yhe ygr yta ywa ybi ysi ynu ymo 1 f2_2 ) kv_X9_220 ⟨rfl, rfl, Nat.le_of_ble_eq_true rfl, Nat.le_of_ble_eq_true rfl⟩ ⟨Nat.le_of_ble_eq_true rfl, Nat.le_of_ble_eq_true rfl⟩ hK hN hP hD hS hA [2, 1, 0] [] rfl rfl rfl rfl (by decide) 0 rfl rfl rfl rfl hl.1 rfl (Nat.le_of_ble_eq_true rfl) dX9_land_87 (fun u_r_7 H locs hw_r_7 hP hD hS => ?_)
  have hP : va_P D vwCl [(h0, .inr (9, [.ref ys, .ref yk, .ref yo, .ref yt, .int 0, .ref yfa, .ref yfe, .int 0, .int 0, .int 0, .ref yro, .ref yhe, .ref ygr, .int 0, .int 0, .int 0, .ref yta, .int 0, .int 0, .int 0, .int 0, .int 1, .ref ywa, .ref ybi, .ref ysi, .ref ynu, .ref ymo]))] H := hP
  have hD : va_D A [(h0, .inr (9, [.ref ys, .ref yk, .ref yo, .ref yt, .int 0, .ref yfa, .ref yfe, .int 0, .int 0, .int 0, .ref yro, .ref yhe, .ref ygr, .int 0, .int 0, .int 0, .ref yta, .int 0, .int 0, .int 0, .int 0, .int 1, .ref ywa, .ref ybi, .ref ysi, .ref ynu, .ref ymo]))] := hD
  refine lv_iconst (v := (-1)) hx hb dX9_land_90 (by decide) ?_
  refine lv_aload_n hx hb dX9_land_91 rfl (lv_at hl 1 rfl) ?_
  refine xg hF kf_X9_254 hK hP 0 rfl rfl dX9_land_92 ?_
  refine lv_isub hx hb dX9_land_95 ?_
  refine xl_i (y := (-1)) (by decide) ?_
  exact W.iret (v := (-1)) hx hb hr (fun t ht hW => ⟨⟨(-1), (), rfl, rfl, by rw [ht]; exact hP.sub [] rfl, hD.sub [] (by decide) rfl⟩, hS.F ht⟩) hS.2.2 dX9_land_96 hlk
set_option maxHeartbeats 4000000 in
set_option maxRecDepth 100000 in
theorem c_X9_image (l : Launch) (D : va_G) (cI cJ cZ cS : ClassId) (sa : Nat → Nat) (sz : Nat) (h0 : Nat) (ys : Nat) (yk : Nat) (yo : Nat) (yt : Nat) (yfa : Nat) (yfe : Nat) (yro : Nat) (yhe : Nat) (ygr : Nat) (yta : Nat) (ywa : Nat) (ybi : Nat) (ysi : Nat) (ynu : Nat) (ymo : Nat) : Met l yX9_image (Cond.code yX9_image cX9_image 2 (some .int) :: wsU) ({ frames := 0, cells := 0, slots := 0, locals := 0 }) (va_Pc [.ref h0] (XW D (xT cI cJ cZ cS) sa [(h0, .inr (9, [.ref ys, .ref yk, .ref yo, .ref yt, .int 0, .ref yfa, .ref yfe, .int 0, .int 0, .int 0, .ref yro, .ref yhe, .ref ygr, .int 0, .int 0, .int 0, .ref yta, .int 0, .int 0, .int 0, .int 0, .int 0, .ref ywa, .ref ybi, .ref ysi, .ref ynu, .ref ymo])), (ys, .inl (cI, 449, .inl (fun _ => 0))), (yk, .inl (cI, 449, .inl (fun _ => 0)))] sz)) (XQi (fun (r : Int32) (_ : Unit) => r = 1) D (fun _ : Unit => []) (va_A [(h0, .inr (9, [.ref ys, .ref yk, .ref yo, .ref yt, .int 0, .ref yfa, .ref yfe, .int 0, .int 0, .int 0, .ref yro, .ref yhe, .ref ygr, .int 0, .int 0, .int 0, .ref yta, .int 0, .int 0, .int 0, .int 0, .int 0, .ref ywa, .ref ybi, .ref ysi, .ref ynu, .ref ymo])), (ys, .inl (cI, 449, .inl (fun _ => 0))), (yk, .inl (cI, 449, .inl (fun _ => 0)))] sz)) 0 0 (va_A [(h0, .inr (9, [.ref ys, .ref yk, .ref yo, .ref yt, .int 0, .ref yfa, .ref yfe, .int 0, .int 0, .int 0, .ref yro, .ref yhe, .ref ygr, .int 0, .int 0, .int 0, .ref yta, .int 0, .int 0, .int 0, .int 0, .int 0, .ref ywa, .ref ybi, .ref ysi, .ref ynu, .ref ymo])), (ys, .inl (cI, 449, .inl (fun _ => 0))), (yk, .inl (cI, 449, .inl (fun _ => 0)))] sz) := by
  refine xhw (QA := fun A => XQi (fun (r : Int32) (_ : Unit) => r = 1) D (fun _ : Unit => []) A) (by decide) (Nat.le_of_ble_eq_true rfl) ?_
  intro p e s m below meth c ls A hF hr hlk hin hsz hP hK hD hN hA hS hl
  have hF : CallFix p m c cX9_image 2 s _ _ RX9 := hF
  have hx := hF.1
  have hb := hF.2.1
  have hml := hF.2.2.1
  have hown := hF.2.2.2.1
  have hu : ∀ w ∈ wsU, w.before _ s = true := fun w h => hF.2.2.2.2 w (List.mem_cons_of_mem _ h)
  have hl : lv_has ls 2 [(0, .ref h0)] := hl
  refine lv_iconst (v := 0) hx hb dX9_image_0 (by decide) ?_
  refine lv_istore_n (lv' := [(1, .int 0), (0, .ref h0)]) hx hb dX9_image_1 rfl hl (by decide) rfl (fun ls hl => ?_)
  suffices loop_2 : ∀ (n k_1 : Nat) (f9 : Nat → Int32) (H : Heap) (locs : List Loc) (ls : Array Slot), k_1 + n = 449 → va_P D vwCl [(h0, .inr (9, [.ref ys, .ref yk, .ref yo, .ref yt, .int 0, .ref yfa, .ref yfe, .int 0, .int 0, .int 0, .ref yro, .ref yhe, .ref ygr, .int 0, .int 0, .int 0, .ref yta, .int 0, .int 0, .int 0, .int 0, .int 0, .ref ywa, .ref ybi, .ref ysi, .ref ynu, .ref ymo])), (ys, .inl (cI, 449, .inl (fun _ => 0))), (yk, .inl (cI, 449, .inl f9))] H → va_D A [(h0, .inr (9, [.ref ys, .ref yk, .ref yo, .ref yt, .int 0, .ref yfa, .ref yfe, .int 0, .int 0, .int 0, .ref yro, .ref yhe, .ref ygr, .int 0, .int 0, .int 0, .ref yta, .int 0, .int 0, .int 0, .int 0, .int 0, .ref ywa, .ref ybi, .ref ysi, .ref ynu, .ref ymo])), (ys, .inl (cI, 449, .inl (fun _ => 0))), (yk, .inl (cI, 449, .inl f9))] → va_S A s.heap H locs → lv_has ls 2 [(1, .int (nI (k_1))), (0, .ref h0)] → W p l e ({ frames := 0, cells := 0, slots := 0, locals := 0 }) s m ([.ref h0] : List Value).toArray below meth c H locs 0 0 (MQ below (XQi (fun (r : Int32) (_ : Unit) => r = 1) D (fun _ : Unit => []) A) ([.ref h0] : List Value).toArray s 0 0 A) (F0 m 2 ls []) by
    exact loop_2 449 0 (fun _ => 0) _ _ _ (by decide) hP hD hS (lv_sub hl [0, 1] rfl)
  intro n
  induction n with
  | zero =>
    intro k_1 f9 H locs ls hk hP hD hS hl 
    have hk2 : k_1 = 449 := by omega
    subst hk2
    have hl : lv_has ls 2 [(1, .int 449), (0, .ref h0)] := hl
    refine lv_iload_n hx hb dX9_image_2 rfl (lv_at hl 0 rfl) ?_
    refine lv_sipush (v := 449) hx hb dX9_image_3 (by decide) ?_
    refine lv_icmp_ge (tgt := 27) hx hb dX9_image_6 (by decide) (fun c_3 => ?_) (fun c_3 => absurd (by decide) c_3)
    refine lv_aload_n hx hb dX9_image_27 rfl (lv_at hl 1 rfl) ?_
    refine lv_iconst (v := 1) hx hb dX9_image_28 (by decide) ?_
    refine xp hF kf_X9_317 tyX9_ok nmX9 hK hP hD hS 0 rfl rfl rfl rfl (Nat.le_of_ble_eq_true rfl) dX9_image_29 (fun H locs hP hD hS => ?_)
    have hP : va_P D vwCl [(h0, .inr (9, [.ref ys, .ref yk, .ref yo, .ref yt, .int 1, .ref yfa, .ref yfe, .int 0, .int 0, .int 0, .ref yro, .ref yhe, .ref ygr, .int 0, .int 0, .int 0, .ref yta, .int 0, .int 0, .int 0, .int 0, .int 0, .ref ywa, .ref ybi, .ref ysi, .ref ynu, .ref ymo])), (ys, .inl (cI, 449, .inl (fun _ => 0))), (yk, .inl (cI, 449, .inl f9))] H := hP
    have hD : va_D A [(h0, .inr (9, [.ref ys, .ref yk, .ref yo, .ref yt, .int 1, .ref yfa, .ref yfe, .int 0, .int 0, .int 0, .ref yro, .ref yhe, .ref ygr, .int 0, .int 0, .int 0, .ref yta, .int 0, .int 0, .int 0, .int 0, .int 0, .ref ywa, .ref ybi, .ref ysi, .ref ynu, .ref ymo])), (ys, .inl (cI, 449, .inl (fun _ => 0))), (yk, .inl (cI, 449, .inl f9))] := hD
    refine lv_iconst (v := 1) hx hb dX9_image_32 (by decide) ?_
    exact W.iret (v := 1) hx hb hr (fun t ht hW => ⟨⟨1, (), rfl, rfl, by rw [ht]; exact hP.sub [] rfl, hD.sub [] (by decide) rfl⟩, hS.F ht⟩) hS.2.2 dX9_image_33 hlk
  | succ n ih =>
    intro k_1 f9 H locs ls hk hP hD hS hl 
    have hlt_k_1 : k_1 < 449 := by omega
    refine lv_iload_n hx hb dX9_image_2 rfl (lv_at hl 0 rfl) ?_
    refine lv_sipush (v := 449) hx hb dX9_image_3 (by decide) ?_
    refine lv_icmp_ge (tgt := 27) hx hb dX9_image_6 (by decide) (fun c_4 => absurd c_4 (nI_ge hlt_k_1 (by decide))) (fun c_4 => ?_)
    refine lv_aload_n hx hb dX9_image_9 rfl (lv_at hl 1 rfl) ?_
    refine xg hF kf_X9_13 hK hP 0 rfl rfl dX9_image_10 ?_
    refine lv_iload_n hx hb dX9_image_13 rfl (lv_at hl 0 rfl) ?_
    refine lv_aload_n hx hb dX9_image_14 rfl (lv_at hl 1 rfl) ?_
    refine xg hF kf_X9_7 hK hP 0 rfl rfl dX9_image_15 ?_
    refine lv_iload_n hx hb dX9_image_18 rfl (lv_at hl 0 rfl) ?_
    refine va_iald hx hb hK hP 1 0 rfl rfl (vp_in_nI (show k_1 < 449 by omega) (by decide)) dX9_image_19 ?_
    refine xl_i (y := 0) rfl ?_
    refine va_iast hx hb hK hP hD hS 2 0 rfl rfl (vp_in_nI (show k_1 < 449 by omega) (by decide)) dX9_image_20 (fun H locs hP hD hS => ?_)
    obtain ⟨f_5, ef_5⟩ : ∃ g, g = upd f9 (nI (k_1)).toNatClampNeg 0 := ⟨_, rfl⟩
    rw [← ef_5] at hP hD
    have hP : va_P D vwCl [(h0, .inr (9, [.ref ys, .ref yk, .ref yo, .ref yt, .int 0, .ref yfa, .ref yfe, .int 0, .int 0, .int 0, .ref yro, .ref yhe, .ref ygr, .int 0, .int 0, .int 0, .ref yta, .int 0, .int 0, .int 0, .int 0, .int 0, .ref ywa, .ref ybi, .ref ysi, .ref ynu, .ref ymo])), (ys, .inl (cI, 449, .inl (fun _ => 0))), (yk, .inl (cI, 449, .inl f_5))] H := hP
    have hD : va_D A [(h0, .inr (9, [.ref ys, .ref yk, .ref yo, .ref yt, .int 0, .ref yfa, .ref yfe, .int 0, .int 0, .int 0, .ref yro, .ref yhe, .ref ygr, .int 0, .int 0, .int 0, .ref yta, .int 0, .int 0, .int 0, .int 0, .int 0, .ref ywa, .ref ybi, .ref ysi, .ref ynu, .ref ymo])), (ys, .inl (cI, 449, .inl (fun _ => 0))), (yk, .inl (cI, 449, .inl f_5))] := hD
    refine lv_iinc (v := nI (k_1 + 1)) (lv' := [(1, .int (nI (k_1 + 1))), (0, .ref h0)]) hx hb dX9_image_21 hl (k := 0) rfl (nI_1 (k_1)) (by decide) rfl (fun ls hl => ?_)
    refine lv_goto (tgt := 2) hx hb dX9_image_24 (by decide) ?_
    exact ih (k_1 + 1) f_5 _ _ _ (by omega) (hP.sub [0, 1, 2] rfl) (hD.sub [0, 1, 2] (by decide) rfl) hS (lv_sub hl [0, 1] rfl)
set_option maxHeartbeats 4000000 in
set_option maxRecDepth 100000 in
theorem c_X9_undo (l : Launch) (D : va_G) (cI cJ cZ cS : ClassId) (sa : Nat → Nat) (sz : Nat) (h0 : Nat) (ys : Nat) (yk : Nat) (yo : Nat) (yt : Nat) (yfa : Nat) (yfe : Nat) (yro : Nat) (yhe : Nat) (ygr : Nat) (yta : Nat) (ywa : Nat) (ybi : Nat) (ysi : Nat) (ynu : Nat) (ymo : Nat) : Met l yX9_undo (Cond.code yX9_undo cX9_undo 2 (some .int) :: wsU) ({ frames := 1, cells := 0, slots := 0, locals := 21 }) (va_Pc [.ref h0] (XW D (xT cI cJ cZ cS) sa [(h0, .inr (9, [.ref ys, .ref yk, .ref yo, .ref yt, .int 0, .ref yfa, .ref yfe, .int 0, .int 0, .int 0, .ref yro, .ref yhe, .ref ygr, .int 0, .int 0, .int 0, .ref yta, .int 0, .int 0, .int 0, .int 0, .int 0, .ref ywa, .ref ybi, .ref ysi, .ref ynu, .ref ymo])), (yt, .inl (cI, 7, .inl (fun _ => 0)))] sz)) (XQi (fun (r : Int32) (_ : Unit) => r = (-1000000004)) D (fun _ : Unit => []) (va_A [(h0, .inr (9, [.ref ys, .ref yk, .ref yo, .ref yt, .int 0, .ref yfa, .ref yfe, .int 0, .int 0, .int 0, .ref yro, .ref yhe, .ref ygr, .int 0, .int 0, .int 0, .ref yta, .int 0, .int 0, .int 0, .int 0, .int 0, .ref ywa, .ref ybi, .ref ysi, .ref ynu, .ref ymo])), (yt, .inl (cI, 7, .inl (fun _ => 0)))] sz)) 0 0 (va_A [(h0, .inr (9, [.ref ys, .ref yk, .ref yo, .ref yt, .int 0, .ref yfa, .ref yfe, .int 0, .int 0, .int 0, .ref yro, .ref yhe, .ref ygr, .int 0, .int 0, .int 0, .ref yta, .int 0, .int 0, .int 0, .int 0, .int 0, .ref ywa, .ref ybi, .ref ysi, .ref ynu, .ref ymo])), (yt, .inl (cI, 7, .inl (fun _ => 0)))] sz) := by
  refine xhw (QA := fun A => XQi (fun (r : Int32) (_ : Unit) => r = (-1000000004)) D (fun _ : Unit => []) A) (by decide) (Nat.le_of_ble_eq_true rfl) ?_
  intro p e s m below meth c ls A hF hr hlk hin hsz hP hK hD hN hA hS hl
  have hF : CallFix p m c cX9_undo 2 s _ _ RX9 := hF
  have hx := hF.1
  have hb := hF.2.1
  have hml := hF.2.2.1
  have hown := hF.2.2.2.1
  have hu : ∀ w ∈ wsU, w.before _ s = true := fun w h => hF.2.2.2.2 w (List.mem_cons_of_mem _ h)
  have hl : lv_has ls 2 [(0, .ref h0)] := hl
  refine lv_aload_n hx hb dX9_undo_0 rfl (lv_at hl 0 rfl) ?_
  refine xg hF kf_X9_317 hK hP 0 rfl rfl dX9_undo_1 ?_
  refine lv_if_ne (tgt := 14) hx hb dX9_undo_4 (by decide) (fun c_1 => absurd (by decide) c_1) (fun c_1 => ?_)
  refine lv_aload_n hx hb dX9_undo_7 rfl (lv_at hl 0 rfl) ?_
  refine lv_ldc (v := (-1000000004)) hx hb hown (hu _ uw426) dX9_undo_8 ?_
  refine xc_Vi (wr := []) hF (c_X9_finds_N l D cI cJ cZ cS sa s.heap.size h0 ys yk yo yt yfa yfe yro yhe ygr yta ywa ybi ysi ynu ymo 0 0 0 (fun _ => 0) ) kv_X9_70 ⟨rfl, rfl, Nat.le_of_ble_eq_true rfl, Nat.le_of_ble_eq_true rfl⟩ ⟨Nat.le_of_ble_eq_true rfl, Nat.le_of_ble_eq_true rfl⟩ hK hN hP hD hS hA [0, 1] [] rfl rfl rfl rfl (by decide) 0 rfl rfl rfl rfl hl.1 rfl (Nat.le_of_ble_eq_true rfl) dX9_undo_10 (fun r_2 u_r_2 H locs hw_r_2 hP hD hS => ?_)
  have hP : va_P D vwCl [] H := hP
  have hD : va_D A [] := hD
  subst hw_r_2
  exact W.iret (v := (-1000000004)) hx hb hr (fun t ht hW => ⟨⟨(-1000000004), (), rfl, rfl, by rw [ht]; exact hP.sub [] rfl, hD.sub [] (by decide) rfl⟩, hS.F ht⟩) hS.2.2 dX9_undo_13 hlk
set_option maxHeartbeats 4000000 in
set_option maxRecDepth 100000 in
theorem c_X9_tear (l : Launch) (D : va_G) (cI cJ cZ cS : ClassId) (sa : Nat → Nat) (sz : Nat) (h0 : Nat) (ys : Nat) (yk : Nat) (yo : Nat) (yt : Nat) (yfa : Nat) (yfe : Nat) (yro : Nat) (yhe : Nat) (ygr : Nat) (yta : Nat) (ywa : Nat) (ybi : Nat) (ysi : Nat) (ynu : Nat) (ymo : Nat) : Met l yX9_tear (Cond.code yX9_tear cX9_tear 2 (some .int) :: wsU) ({ frames := 0, cells := 0, slots := 0, locals := 0 }) (va_Pc [.ref h0] (XW D (xT cI cJ cZ cS) sa [(h0, .inr (9, [.ref ys, .ref yk, .ref yo, .ref yt, .int 0, .ref yfa, .ref yfe, .int 0, .int 0, .int 0, .ref yro, .ref yhe, .ref ygr, .int 0, .int 0, .int 0, .ref yta, .int 0, .int 0, .int 0, .int 0, .int 0, .ref ywa, .ref ybi, .ref ysi, .ref ynu, .ref ymo]))] sz)) (XQi (fun (r : Int32) (_ : Unit) => r = 0) D (fun _ : Unit => []) (va_A [(h0, .inr (9, [.ref ys, .ref yk, .ref yo, .ref yt, .int 0, .ref yfa, .ref yfe, .int 0, .int 0, .int 0, .ref yro, .ref yhe, .ref ygr, .int 0, .int 0, .int 0, .ref yta, .int 0, .int 0, .int 0, .int 0, .int 0, .ref ywa, .ref ybi, .ref ysi, .ref ynu, .ref ymo]))] sz)) 0 0 (va_A [(h0, .inr (9, [.ref ys, .ref yk, .ref yo, .ref yt, .int 0, .ref yfa, .ref yfe, .int 0, .int 0, .int 0, .ref yro, .ref yhe, .ref ygr, .int 0, .int 0, .int 0, .ref yta, .int 0, .int 0, .int 0, .int 0, .int 0, .ref ywa, .ref ybi, .ref ysi, .ref ynu, .ref ymo]))] sz) := by
  refine xhw (QA := fun A => XQi (fun (r : Int32) (_ : Unit) => r = 0) D (fun _ : Unit => []) A) (by decide) (Nat.le_of_ble_eq_true rfl) ?_
  intro p e s m below meth c ls A hF hr hlk hin hsz hP hK hD hN hA hS hl
  have hF : CallFix p m c cX9_tear 2 s _ _ RX9 := hF
  have hx := hF.1
  have hb := hF.2.1
  have hml := hF.2.2.1
  have hown := hF.2.2.2.1
  have hu : ∀ w ∈ wsU, w.before _ s = true := fun w h => hF.2.2.2.2 w (List.mem_cons_of_mem _ h)
  have hl : lv_has ls 2 [(0, .ref h0)] := hl
  refine lv_aload_n hx hb dX9_tear_0 rfl (lv_at hl 0 rfl) ?_
  refine xg hF kf_X9_317 hK hP 0 rfl rfl dX9_tear_1 ?_
  refine lv_if_eq (tgt := 11) hx hb dX9_tear_4 (by decide) (fun c_1 => ?_) (fun c_1 => absurd (by decide) c_1)
  refine lv_iconst (v := 0) hx hb dX9_tear_11 (by decide) ?_
  refine lv_istore_n (lv' := [(1, .int 0), (0, .ref h0)]) hx hb dX9_tear_12 rfl hl (by decide) rfl (fun ls hl => ?_)
  refine lv_aload_n hx hb dX9_tear_13 rfl (lv_at hl 1 rfl) ?_
  refine lv_iconst (v := 0) hx hb dX9_tear_14 (by decide) ?_
  refine xp hF kf_X9_317 tyX9_ok nmX9 hK hP hD hS 0 rfl rfl rfl rfl (Nat.le_of_ble_eq_true rfl) dX9_tear_15 (fun H locs hP hD hS => ?_)
  have hP : va_P D vwCl [(h0, .inr (9, [.ref ys, .ref yk, .ref yo, .ref yt, .int 0, .ref yfa, .ref yfe, .int 0, .int 0, .int 0, .ref yro, .ref yhe, .ref ygr, .int 0, .int 0, .int 0, .ref yta, .int 0, .int 0, .int 0, .int 0, .int 0, .ref ywa, .ref ybi, .ref ysi, .ref ynu, .ref ymo]))] H := hP
  have hD : va_D A [(h0, .inr (9, [.ref ys, .ref yk, .ref yo, .ref yt, .int 0, .ref yfa, .ref yfe, .int 0, .int 0, .int 0, .ref yro, .ref yhe, .ref ygr, .int 0, .int 0, .int 0, .ref yta, .int 0, .int 0, .int 0, .int 0, .int 0, .ref ywa, .ref ybi, .ref ysi, .ref ynu, .ref ymo]))] := hD
  refine lv_iload_n hx hb dX9_tear_18 rfl (lv_at hl 0 rfl) ?_
  exact W.iret (v := 0) hx hb hr (fun t ht hW => ⟨⟨0, (), rfl, rfl, by rw [ht]; exact hP.sub [] rfl, hD.sub [] (by decide) rfl⟩, hS.F ht⟩) hS.2.2 dX9_tear_19 hlk
