set_option maxHeartbeats 4000000 in
set_option maxRecDepth 100000 in
theorem c_X0_lengthOf (l : Launch) (D : va_G) (cI cJ cZ cS : ClassId) (ta : Nat) (sa sv : Nat → Nat) (sz : Nat) (h0 : Nat) (an : Nat) (Q : Nat) (j : Nat) (k : Nat) (La : Nat → Int32) (hj : j < 10) (hk : k < 10) : Met l yX0_lengthOf (Cond.code yX0_lengthOf cX0_lengthOf 3 (some .int) :: wsU) ({ frames := 0, cells := 0, slots := 0, locals := 0 }) (va_Pc [.ref h0, .int (nI (j)), .int (nI (k))] (XW D (xT cI cJ cZ cS) ta sa sv [(h0, .inr (0, [.int (nI (Q)), .ref an])), (an, .inl (cI, 100, .inl La))] sz)) (vp_Si (fun r : Int32 => (r = La (10 * j + k)))) 0 0 (fun _ => False) := by
  refine xh (QA := fun _ => vp_Si (fun r : Int32 => (r = La (10 * j + k)))) (fr := fun _ _ => False) (by decide) (Nat.le_of_ble_eq_true rfl) ?_
  intro p e s m below meth c ls A hF hr hlk hin hsz hP hK hD hN hZ hA hS hl
  have hF : CallFix p m c cX0_lengthOf 3 s _ _ RX0 := hF
  have hx := hF.1
  have hb := hF.2.1
  have hml := hF.2.2.1
  have hown := hF.2.2.2.1
  have hu : ∀ w ∈ wsU, w.before _ s = true := fun w h => hF.2.2.2.2 w (List.mem_cons_of_mem _ h)
  have hl : lv_has ls 3 [(0, .ref h0), (1, .int (nI (j))), (2, .int (nI (k)))] := hl
  refine lv_aload_n hx hb dX0_lengthOf_0 rfl (lv_at hl 0 rfl) ?_
  refine xg hF kf_X0_15 hK hP 0 rfl rfl dX0_lengthOf_1 ?_
  refine lv_bipush (v := 10) hx hb dX0_lengthOf_4 (by decide) ?_
  refine lv_iload_n hx hb dX0_lengthOf_6 rfl (lv_at hl 1 rfl) ?_
  refine lv_imul hx hb dX0_lengthOf_7 ?_
  refine xl_i (y := nI (10 * j)) (pk_mul 10 j) ?_
  refine lv_iload_n hx hb dX0_lengthOf_8 rfl (lv_at hl 2 rfl) ?_
  refine lv_iadd hx hb dX0_lengthOf_9 ?_
  refine xl_i (y := nI (10 * j + k)) (nI_add (10 * j) k) ?_
  refine va_iald hx hb hK hP 1 0 rfl rfl (vp_in_nI (show 10 * j + k < 100 by omega) (by decide)) dX0_lengthOf_10 ?_
  refine xl_i (y := La (10 * j + k)) (congrArg La (nI_clamp (show 10 * j + k < 2 ^ 31 by omega))) ?_
  exact W.iret (v := La (10 * j + k)) hx hb hr (fun t ht hW => ⟨La (10 * j + k), rfl, (by first | exact rfl), ht⟩) (fun q h => by cases h) dX0_lengthOf_11 hlk
set_option maxHeartbeats 4000000 in
set_option maxRecDepth 100000 in
theorem c_X0_oneWay (l : Launch) (D : va_G) (cI cJ cZ cS : ClassId) (ta : Nat) (sa sv : Nat → Nat) (sz : Nat) (q1 : Nat) (be : Nat) (bl : Nat) (bu : Nat) (bo : Nat) (br : Nat) (bk : Nat) (bw : Nat) (btt : Nat) (bss : Nat) (P : Nat) (lo : Nat → Int32) (d : Nat → Int32) (j : Nat) (k : Nat) (hj : j < 10) (hk : k < 10) : Met l yX0_oneWay (Cond.code yX0_oneWay cX0_oneWay 3 (some .int) :: wsU) ({ frames := 2, cells := 0, slots := 0, locals := 43 }) (va_Pc [.ref q1, .int (nI (j)), .int (nI (k))] (XW D (xT cI cJ cZ cS) ta sa sv [(q1, .inr (1, [.int (nI (P)), .ref be, .ref bl, .ref bu, .ref bo, .ref br, .ref bk, .ref bw, .ref btt, .ref bss])), (bl, .inl (cI, 100, .inl lo)), (bo, .inl (cI, 100, .inl d))] sz)) (vp_Si (fun r : Int32 => True)) 0 0 (fun _ => False) := by
  refine xh (QA := fun _ => vp_Si (fun r : Int32 => True)) (fr := fun _ _ => False) (by decide) (Nat.le_of_ble_eq_true rfl) ?_
  intro p e s m below meth c ls A hF hr hlk hin hsz hP hK hD hN hZ hA hS hl
  have hF : CallFix p m c cX0_oneWay 3 s _ _ RX0 := hF
  have hx := hF.1
  have hb := hF.2.1
  have hml := hF.2.2.1
  have hown := hF.2.2.2.1
  have hu : ∀ w ∈ wsU, w.before _ s = true := fun w h => hF.2.2.2.2 w (List.mem_cons_of_mem _ h)
  have hl : lv_has ls 3 [(0, .ref q1), (1, .int (nI (j))), (2, .int (nI (k)))] := hl
  refine lv_aload_n hx hb dX0_oneWay_0 rfl (lv_at hl 0 rfl) ?_
  refine lv_iload_n hx hb dX0_oneWay_1 rfl (lv_at hl 1 rfl) ?_
  refine lv_iload_n hx hb dX0_oneWay_2 rfl (lv_at hl 2 rfl) ?_
  refine xc_Vr hF (c_X1_isOpen l D cI cJ cZ cS ta sa sv s.heap.size q1 be bl bu bo br bk bw btt bss P j k d (by omega) (by omega)) kv_X0_30 ⟨rfl, rfl, Nat.le_of_ble_eq_true rfl, Nat.le_of_ble_eq_true rfl⟩ ⟨Nat.le_of_ble_eq_true rfl, Nat.le_of_ble_eq_true rfl⟩ hK hN hZ hP hD hS hA [0, 2] rfl rfl 0 rfl rfl rfl rfl hl.1 rfl (Nat.le_of_ble_eq_true rfl) dX0_oneWay_3 (fun r_1 hw_r_1 => ?_)
  rcases hw_r_1 with ⟨rfl, h_2⟩ | ⟨rfl, h_3⟩
  · skip
    refine lv_if_eq (tgt := 23) hx hb dX0_oneWay_6 (by decide) (fun c_4 => absurd c_4 (by decide)) (fun c_4 => ?_)
    refine lv_bipush (v := 100) hx hb dX0_oneWay_9 (by decide) ?_
    refine lv_aload_n hx hb dX0_oneWay_11 rfl (lv_at hl 0 rfl) ?_
    refine lv_iload_n hx hb dX0_oneWay_12 rfl (lv_at hl 1 rfl) ?_
    refine lv_iload_n hx hb dX0_oneWay_13 rfl (lv_at hl 2 rfl) ?_
    refine xc_Vr hF (c_X1_lowOf l D cI cJ cZ cS ta sa sv s.heap.size q1 be bl bu bo br bk bw btt bss P j k lo (by omega) (by omega)) kv_X0_34 ⟨rfl, rfl, Nat.le_of_ble_eq_true rfl, Nat.le_of_ble_eq_true rfl⟩ ⟨Nat.le_of_ble_eq_true rfl, Nat.le_of_ble_eq_true rfl⟩ hK hN hZ hP hD hS hA [0, 1] rfl rfl 0 rfl rfl rfl rfl hl.1 rfl (Nat.le_of_ble_eq_true rfl) dX0_oneWay_14 (fun r_5 hw_r_5 => ?_)
    subst hw_r_5
    refine lv_imul hx hb dX0_oneWay_17 ?_
    refine lv_topi (fun x_6 ex_6 => ?_)
    refine lv_iconst (v := 1) hx hb dX0_oneWay_18 (by decide) ?_
    refine lv_iadd hx hb dX0_oneWay_19 ?_
    refine lv_topi (fun x_7 ex_7 => ?_)
    refine lv_goto (tgt := 25) hx hb dX0_oneWay_20 (by decide) ?_
    exact W.iret (v := x_7) hx hb hr (fun t ht hW => ⟨x_7, rfl, trivial, ht⟩) (fun q h => by cases h) dX0_oneWay_25 hlk
  · skip
    refine lv_if_eq (tgt := 23) hx hb dX0_oneWay_6 (by decide) (fun c_8 => ?_) (fun c_8 => absurd (by decide) c_8)
    refine lv_ldc (v := 1000000000) hx hb hown (hu _ uw79) dX0_oneWay_23 ?_
    exact W.iret (v := 1000000000) hx hb hr (fun t ht hW => ⟨1000000000, rfl, trivial, ht⟩) (fun q h => by cases h) dX0_oneWay_25 hlk
set_option maxHeartbeats 4000000 in
set_option maxRecDepth 100000 in
theorem c_X0_shortenOver (l : Launch) (D : va_G) (cI cJ cZ cS : ClassId) (ta : Nat) (sa sv : Nat → Nat) (sz : Nat) (h0 : Nat) (an : Nat) (Q : Nat) (j : Nat) (La : Nat → Int32) (hQ : Q ≤ 10) (hj : j < 10) : Met l yX0_shortenOver (Cond.code yX0_shortenOver cX0_shortenOver 6 none :: wsU) ({ frames := 1, cells := 0, slots := 0, locals := 40 }) (va_Pc [.ref h0, .int (nI (j))] (XW D (xT cI cJ cZ cS) ta sa sv [(h0, .inr (0, [.int (nI (Q)), .ref an])), (an, .inl (cI, 100, .inl La))] sz)) (XQv (fun (L2 : (Nat → Int32)) => True) D (fun (L2 : Nat → Int32) => [(h0, .inr (0, [.int (nI (Q)), .ref an])), (an, .inl (cI, 100, .inl L2))]) (va_A [(h0, .inr (0, [.int (nI (Q)), .ref an])), (an, .inl (cI, 100, .inl La))] sz)) 0 0 (va_A [(h0, .inr (0, [.int (nI (Q)), .ref an])), (an, .inl (cI, 100, .inl La))] sz) := by
  refine xh (QA := fun A => XQv (fun (L2 : (Nat → Int32)) => True) D (fun (L2 : Nat → Int32) => [(h0, .inr (0, [.int (nI (Q)), .ref an])), (an, .inl (cI, 100, .inl L2))]) A) (fr := fun A => A) (by decide) (Nat.le_of_ble_eq_true rfl) ?_
  intro p e s m below meth c ls A hF hr hlk hin hsz hP hK hD hN hZ hA hS hl
  have hF : CallFix p m c cX0_shortenOver 6 s _ _ RX0 := hF
  have hx := hF.1
  have hb := hF.2.1
  have hml := hF.2.2.1
  have hown := hF.2.2.2.1
  have hu : ∀ w ∈ wsU, w.before _ s = true := fun w h => hF.2.2.2.2 w (List.mem_cons_of_mem _ h)
  have hl : lv_has ls 6 [(0, .ref h0), (1, .int (nI (j)))] := hl
  refine lv_iconst (v := 0) hx hb dX0_shortenOver_0 (by decide) ?_
  refine lv_istore_n (lv' := [(2, .int 0), (0, .ref h0), (1, .int (nI (j)))]) hx hb dX0_shortenOver_1 rfl hl (by decide) rfl (fun ls hl => ?_)
  suffices loop_2 : ∀ (n_2 : Nat) (i : Nat) (L9 : Nat → Int32) (H : Heap) (locs : List Loc) (ls : Array Slot), Q - i < n_2 → (i ≤ Q) → va_P D vwCl [(h0, .inr (0, [.int (nI (Q)), .ref an])), (an, .inl (cI, 100, .inl L9))] H → va_D A [(h0, .inr (0, [.int (nI (Q)), .ref an])), (an, .inl (cI, 100, .inl L9))] → va_S A s.heap H locs → lv_has ls 6 [(2, .int (nI (i))), (0, .ref h0), (1, .int (nI (j)))] → W p l e ({ frames := 1, cells := 0, slots := 0, locals := 40 }) s m ([.ref h0, .int (nI (j))] : List Value).toArray below meth c H locs 0 0 (MQ below (XQv (fun (L2 : (Nat → Int32)) => True) D (fun (L2 : Nat → Int32) => [(h0, .inr (0, [.int (nI (Q)), .ref an])), (an, .inl (cI, 100, .inl L2))]) A) ([.ref h0, .int (nI (j))] : List Value).toArray s 0 0 A) (F0 m 2 ls []) by
    exact loop_2 _ 0 La _ _ _ (Nat.lt_succ_self _) (by omega) hP hD hS (lv_sub hl [0, 1, 2] rfl)
  intro n_2
  induction n_2 with
  | zero =>
    intro i L9 H locs ls hm_2
    exact absurd hm_2 (Nat.not_lt_zero _)
  | succ n_2 ih_2 =>
    intro i L9 H locs ls hm_2 hi hP hD hS hl
    refine lv_iload_n hx hb dX0_shortenOver_2 rfl (lv_at hl 0 rfl) ?_
    refine lv_aload_n hx hb dX0_shortenOver_3 rfl (lv_at hl 1 rfl) ?_
    refine xg hF kf_X0_9 hK hP 0 rfl rfl dX0_shortenOver_4 ?_
    refine lv_icmp_ge (tgt := 91) hx hb dX0_shortenOver_7 (by decide) (fun c_1 => ?_) (fun c_1 => ?_)
    · skip
      have nc_1 : Q ≤ i := xn_le (a := Q) (b := i) (by omega) (by omega) c_1
      exact W.vret hx hb hr (fun t ht hW => ⟨⟨L9, rfl, trivial, by rw [ht]; exact hP.sub [0, 1] rfl, hD.sub [0, 1] (by decide) rfl⟩, hS.F ht⟩) hS.2.2 dX0_shortenOver_91 hlk
    · skip
      have nc_1 : i < Q := xn_nle (a := Q) (b := i) (by omega) (by omega) c_1
      refine lv_aload_n hx hb dX0_shortenOver_10 rfl (lv_at hl 1 rfl) ?_
      refine lv_iload_n hx hb dX0_shortenOver_11 rfl (lv_at hl 0 rfl) ?_
      refine lv_iload_n hx hb dX0_shortenOver_12 rfl (lv_at hl 2 rfl) ?_
      refine xc_Vr hF (c_X0_lengthOf l D cI cJ cZ cS ta sa sv H.size h0 an Q i j L9 (by omega) (by omega)) kv_X0_39 ⟨rfl, rfl, Nat.le_of_ble_eq_true rfl, Nat.le_of_ble_eq_true rfl⟩ ⟨Nat.le_of_ble_eq_true rfl, Nat.le_of_ble_eq_true rfl⟩ hK hN hZ hP hD hS hA [0, 1] rfl rfl 0 rfl rfl rfl rfl hl.1 rfl (Nat.le_of_ble_eq_true rfl) dX0_shortenOver_13 (fun r_2 hw_r_2 => ?_)
      subst hw_r_2
      refine lv_istore_n (lv' := [(3, .int (L9 (10 * i + j))), (2, .int (nI (i))), (0, .ref h0), (1, .int (nI (j)))]) hx hb dX0_shortenOver_16 rfl hl (by decide) rfl (fun ls hl => ?_)
      refine lv_iconst (v := 0) hx hb dX0_shortenOver_17 (by decide) ?_
      refine lv_istore (lv' := [(4, .int 0), (3, .int (L9 (10 * i + j))), (2, .int (nI (i))), (0, .ref h0), (1, .int (nI (j)))]) hx hb dX0_shortenOver_18 hl (by decide) rfl (fun ls hl => ?_)
      suffices loop_20 : ∀ (n_20 : Nat) (k : Nat) (L8 : Nat → Int32) (H : Heap) (locs : List Loc) (ls : Array Slot), Q - k < n_20 → (k ≤ Q) → va_P D vwCl [(h0, .inr (0, [.int (nI (Q)), .ref an])), (an, .inl (cI, 100, .inl L8))] H → va_D A [(h0, .inr (0, [.int (nI (Q)), .ref an])), (an, .inl (cI, 100, .inl L8))] → va_S A s.heap H locs → lv_has ls 6 [(4, .int (nI (k))), (3, .int (L9 (10 * i + j))), (2, .int (nI (i))), (0, .ref h0), (1, .int (nI (j)))] → W p l e ({ frames := 1, cells := 0, slots := 0, locals := 40 }) s m ([.ref h0, .int (nI (j))] : List Value).toArray below meth c H locs 0 0 (MQ below (XQv (fun (L2 : (Nat → Int32)) => True) D (fun (L2 : Nat → Int32) => [(h0, .inr (0, [.int (nI (Q)), .ref an])), (an, .inl (cI, 100, .inl L2))]) A) ([.ref h0, .int (nI (j))] : List Value).toArray s 0 0 A) (F0 m 20 ls []) by
        exact loop_20 _ 0 L9 _ _ _ (Nat.lt_succ_self _) (by omega) hP hD hS (lv_sub hl [0, 1, 2, 3, 4] rfl)
      intro n_20
      induction n_20 with
      | zero =>
        intro k L8 H locs ls hm_20
        exact absurd hm_20 (Nat.not_lt_zero _)
      | succ n_20 ih_20 =>
        intro k L8 H locs ls hm_20 hk hP hD hS hl
        refine lv_iload hx hb dX0_shortenOver_20 (lv_at hl 0 rfl) ?_
        refine lv_aload_n hx hb dX0_shortenOver_22 rfl (lv_at hl 3 rfl) ?_
        refine xg hF kf_X0_9 hK hP 0 rfl rfl dX0_shortenOver_23 ?_
        refine lv_icmp_ge (tgt := 85) hx hb dX0_shortenOver_26 (by decide) (fun c_3 => ?_) (fun c_3 => ?_)
        · skip
          have nc_3 : Q ≤ k := xn_le (a := Q) (b := k) (by omega) (by omega) c_3
          refine lv_iinc (v := nI (i + 1)) (lv' := [(2, .int (nI (i + 1))), (4, .int (nI (k))), (3, .int (L9 (10 * i + j))), (0, .ref h0), (1, .int (nI (j)))]) hx hb dX0_shortenOver_85 hl (k := 2) rfl (nI_1 (i)) (by decide) rfl (fun ls hl => ?_)
          refine lv_goto (tgt := 2) hx hb dX0_shortenOver_88 (by decide) ?_
          exact ih_2 (i + 1) L8 _ _ _ (by omega) (by omega) (hP.sub [0, 1] rfl) (hD.sub [0, 1] (by decide) rfl) hS (lv_sub hl [0, 3, 4] rfl)
        · skip
          have nc_3 : k < Q := xn_nle (a := Q) (b := k) (by omega) (by omega) c_3
          refine lv_iload_n hx hb dX0_shortenOver_29 rfl (lv_at hl 1 rfl) ?_
          refine lv_ldc (v := 1000000000) hx hb hown (hu _ uw79) dX0_shortenOver_30 ?_
          refine lv_icmp_eq (tgt := 85) hx hb dX0_shortenOver_32 (by decide) (fun c_4 => ?_) (fun c_4 => ?_)
          · skip
            refine lv_iinc (v := nI (i + 1)) (lv' := [(2, .int (nI (i + 1))), (4, .int (nI (k))), (3, .int (L9 (10 * i + j))), (0, .ref h0), (1, .int (nI (j)))]) hx hb dX0_shortenOver_85 hl (k := 2) rfl (nI_1 (i)) (by decide) rfl (fun ls hl => ?_)
            refine lv_goto (tgt := 2) hx hb dX0_shortenOver_88 (by decide) ?_
            exact ih_2 (i + 1) L8 _ _ _ (by omega) (by omega) (hP.sub [0, 1] rfl) (hD.sub [0, 1] (by decide) rfl) hS (lv_sub hl [0, 3, 4] rfl)
          · skip
            refine lv_iload_n hx hb dX0_shortenOver_35 rfl (lv_at hl 1 rfl) ?_
            refine lv_aload_n hx hb dX0_shortenOver_36 rfl (lv_at hl 3 rfl) ?_
            refine lv_iload_n hx hb dX0_shortenOver_37 rfl (lv_at hl 4 rfl) ?_
            refine lv_iload hx hb dX0_shortenOver_38 (lv_at hl 0 rfl) ?_
            refine xc_Vr hF (c_X0_lengthOf l D cI cJ cZ cS ta sa sv H.size h0 an Q j k L8 (by omega) (by omega)) kv_X0_39 ⟨rfl, rfl, Nat.le_of_ble_eq_true rfl, Nat.le_of_ble_eq_true rfl⟩ ⟨Nat.le_of_ble_eq_true rfl, Nat.le_of_ble_eq_true rfl⟩ hK hN hZ hP hD hS hA [0, 1] rfl rfl 0 rfl rfl rfl rfl hl.1 rfl (Nat.le_of_ble_eq_true rfl) dX0_shortenOver_40 (fun r_5 hw_r_5 => ?_)
            subst hw_r_5
            refine xc_SNr hF (c_X8_together l D cI cJ cZ cS ta sa sv H.size (L9 (10 * i + j)) (L8 (10 * j + k)) ) kn_X0_42.1 kn_X0_42.2.1 kn_X0_42.2.2 ⟨rfl, rfl, Nat.le_of_ble_eq_true rfl, Nat.le_of_ble_eq_true rfl⟩ ⟨Nat.le_of_ble_eq_true rfl, Nat.le_of_ble_eq_true rfl⟩ hK hN hZ hP hD hS hA [] rfl rfl rfl hl.1 rfl (Nat.le_of_ble_eq_true rfl) dX0_shortenOver_43 (fun r_6 hw_r_6 => ?_)
            refine lv_istore (lv' := [(5, .int r_6), (4, .int (nI (k))), (3, .int (L9 (10 * i + j))), (2, .int (nI (i))), (0, .ref h0), (1, .int (nI (j)))]) hx hb dX0_shortenOver_46 hl (by decide) rfl (fun ls hl => ?_)
            refine lv_iload hx hb dX0_shortenOver_48 (lv_at hl 0 rfl) ?_
            refine lv_aload_n hx hb dX0_shortenOver_50 rfl (lv_at hl 4 rfl) ?_
            refine lv_iload_n hx hb dX0_shortenOver_51 rfl (lv_at hl 3 rfl) ?_
            refine lv_iload hx hb dX0_shortenOver_52 (lv_at hl 1 rfl) ?_
            refine xc_Vr hF (c_X0_lengthOf l D cI cJ cZ cS ta sa sv H.size h0 an Q i k L8 (by omega) (by omega)) kv_X0_39 ⟨rfl, rfl, Nat.le_of_ble_eq_true rfl, Nat.le_of_ble_eq_true rfl⟩ ⟨Nat.le_of_ble_eq_true rfl, Nat.le_of_ble_eq_true rfl⟩ hK hN hZ hP hD hS hA [0, 1] rfl rfl 0 rfl rfl rfl rfl hl.1 rfl (Nat.le_of_ble_eq_true rfl) dX0_shortenOver_54 (fun r_7 hw_r_7 => ?_)
            subst hw_r_7
            refine lv_icmp_ge (tgt := 79) hx hb dX0_shortenOver_57 (by decide) (fun c_8 => ?_) (fun c_8 => ?_)
            · skip
              refine lv_iinc (v := nI (k + 1)) (lv' := [(4, .int (nI (k + 1))), (5, .int r_6), (3, .int (L9 (10 * i + j))), (2, .int (nI (i))), (0, .ref h0), (1, .int (nI (j)))]) hx hb dX0_shortenOver_79 hl (k := 1) rfl (nI_1 (k)) (by decide) rfl (fun ls hl => ?_)
              refine lv_goto (tgt := 20) hx hb dX0_shortenOver_82 (by decide) ?_
              exact ih_20 (k + 1) L8 _ _ _ (by omega) (by omega) (hP.sub [0, 1] rfl) (hD.sub [0, 1] (by decide) rfl) hS (lv_sub hl [0, 2, 3, 4, 5] rfl)
            · skip
              refine lv_aload_n hx hb dX0_shortenOver_60 rfl (lv_at hl 4 rfl) ?_
              refine xg hF kf_X0_15 hK hP 0 rfl rfl dX0_shortenOver_61 ?_
              refine lv_bipush (v := 10) hx hb dX0_shortenOver_64 (by decide) ?_
              refine lv_iload_n hx hb dX0_shortenOver_66 rfl (lv_at hl 3 rfl) ?_
              refine lv_imul hx hb dX0_shortenOver_67 ?_
              refine xl_i (y := nI (10 * i)) (pk_mul 10 i) ?_
              refine lv_iload hx hb dX0_shortenOver_68 (lv_at hl 1 rfl) ?_
              refine lv_iadd hx hb dX0_shortenOver_70 ?_
              refine xl_i (y := nI (10 * i + k)) (nI_add (10 * i) k) ?_
              refine lv_iload hx hb dX0_shortenOver_71 (lv_at hl 0 rfl) ?_
              refine lv_ldc (v := (-100000000)) hx hb hown (hu _ uw89) dX0_shortenOver_73 ?_
              refine va_mmax hx hb (hml.trans hl.1.symm) hown (hu _ uw90) (hu _ uw91) (hu _ uw92) (hu _ uw93) (Nat.le_of_ble_eq_true rfl) (Nat.le_of_ble_eq_true rfl) (Nat.le_of_ble_eq_true rfl) (Nat.le_of_ble_eq_true rfl) dX0_shortenOver_75 ?_
              refine lv_topi (fun x_9 ex_9 => ?_)
              refine va_iast hx hb hK hP hD hS 1 0 rfl rfl (vp_in_nI (show 10 * i + k < 100 by omega) (by decide)) dX0_shortenOver_78 (fun H locs hP hD hS => ?_)
              rw [nI_clamp (show 10 * i + k < 2 ^ 31 by omega)] at hP hD
              obtain ⟨f_10, ef_10⟩ : ∃ g, g = upd L8 (10 * i + k) x_9 := ⟨_, rfl⟩
              rw [← ef_10] at hP hD
              have hP : va_P D vwCl [(h0, .inr (0, [.int (nI (Q)), .ref an])), (an, .inl (cI, 100, .inl f_10))] H := hP
              have hD : va_D A [(h0, .inr (0, [.int (nI (Q)), .ref an])), (an, .inl (cI, 100, .inl f_10))] := hD
              refine lv_iinc (v := nI (k + 1)) (lv' := [(4, .int (nI (k + 1))), (5, .int r_6), (3, .int (L9 (10 * i + j))), (2, .int (nI (i))), (0, .ref h0), (1, .int (nI (j)))]) hx hb dX0_shortenOver_79 hl (k := 1) rfl (nI_1 (k)) (by decide) rfl (fun ls hl => ?_)
              refine lv_goto (tgt := 20) hx hb dX0_shortenOver_82 (by decide) ?_
              exact ih_20 (k + 1) f_10 _ _ _ (by omega) (by omega) (hP.sub [0, 1] rfl) (hD.sub [0, 1] (by decide) rfl) hS (lv_sub hl [0, 2, 3, 4, 5] rfl)
set_option maxHeartbeats 4000000 in
set_option maxRecDepth 100000 in
theorem c_X0_measure (l : Launch) (D : va_G) (cI cJ cZ cS : ClassId) (ta : Nat) (sa sv : Nat → Nat) (sz : Nat) (h0 : Nat) (an : Nat) (Q : Nat) (La : Nat → Int32) (q1 : Nat) (be : Nat) (bl : Nat) (bu : Nat) (bo : Nat) (br : Nat) (bk : Nat) (bw : Nat) (btt : Nat) (bss : Nat) (P : Nat) (lo : Nat → Int32) (d : Nat → Int32) (hP0 : P ≤ 10) : Met l yX0_measure (Cond.code yX0_measure cX0_measure 4 none :: wsU) ({ frames := 3, cells := 0, slots := 0, locals := 65 }) (va_Pc [.ref h0, .ref q1] (XW D (xT cI cJ cZ cS) ta sa sv [(h0, .inr (0, [.int (nI (Q)), .ref an])), (an, .inl (cI, 100, .inl La)), (q1, .inr (1, [.int (nI (P)), .ref be, .ref bl, .ref bu, .ref bo, .ref br, .ref bk, .ref bw, .ref btt, .ref bss])), (bl, .inl (cI, 100, .inl lo)), (bo, .inl (cI, 100, .inl d))] sz)) (XQv (fun (L2 : (Nat → Int32)) => True) D (fun (L2 : Nat → Int32) => [(h0, .inr (0, [.int (nI (P)), .ref an])), (an, .inl (cI, 100, .inl L2)), (q1, .inr (1, [.int (nI (P)), .ref be, .ref bl, .ref bu, .ref bo, .ref br, .ref bk, .ref bw, .ref btt, .ref bss])), (bl, .inl (cI, 100, .inl lo)), (bo, .inl (cI, 100, .inl d))]) (va_A [(h0, .inr (0, [.int (nI (Q)), .ref an])), (an, .inl (cI, 100, .inl La)), (q1, .inr (1, [.int (nI (P)), .ref be, .ref bl, .ref bu, .ref bo, .ref br, .ref bk, .ref bw, .ref btt, .ref bss])), (bl, .inl (cI, 100, .inl lo)), (bo, .inl (cI, 100, .inl d))] sz)) 0 0 (va_A [(h0, .inr (0, [.int (nI (Q)), .ref an])), (an, .inl (cI, 100, .inl La)), (q1, .inr (1, [.int (nI (P)), .ref be, .ref bl, .ref bu, .ref bo, .ref br, .ref bk, .ref bw, .ref btt, .ref bss])), (bl, .inl (cI, 100, .inl lo)), (bo, .inl (cI, 100, .inl d))] sz) := by
  refine xh (QA := fun A => XQv (fun (L2 : (Nat → Int32)) => True) D (fun (L2 : Nat → Int32) => [(h0, .inr (0, [.int (nI (P)), .ref an])), (an, .inl (cI, 100, .inl L2)), (q1, .inr (1, [.int (nI (P)), .ref be, .ref bl, .ref bu, .ref bo, .ref br, .ref bk, .ref bw, .ref btt, .ref bss])), (bl, .inl (cI, 100, .inl lo)), (bo, .inl (cI, 100, .inl d))]) A) (fr := fun A => A) (by decide) (Nat.le_of_ble_eq_true rfl) ?_
  intro p e s m below meth c ls A hF hr hlk hin hsz hP hK hD hN hZ hA hS hl
  have hF : CallFix p m c cX0_measure 4 s _ _ RX0 := hF
  have hx := hF.1
  have hb := hF.2.1
  have hml := hF.2.2.1
  have hown := hF.2.2.2.1
  have hu : ∀ w ∈ wsU, w.before _ s = true := fun w h => hF.2.2.2.2 w (List.mem_cons_of_mem _ h)
  have hl : lv_has ls 4 [(0, .ref h0), (1, .ref q1)] := hl
  refine lv_aload_n hx hb dX0_measure_0 rfl (lv_at hl 0 rfl) ?_
  refine lv_aload_n hx hb dX0_measure_1 rfl (lv_at hl 1 rfl) ?_
  refine xg hF kf_X0_19 hK hP 2 rfl rfl dX0_measure_2 ?_
  refine xp hF kf_X0_9 tyX0_ok nmX0 hK hP hD hS 0 rfl rfl rfl rfl (Nat.le_of_ble_eq_true rfl) dX0_measure_5 (fun H locs hP hD hS => ?_)
  have hP : va_P D vwCl [(h0, .inr (0, [.int (nI (P)), .ref an])), (an, .inl (cI, 100, .inl La)), (q1, .inr (1, [.int (nI (P)), .ref be, .ref bl, .ref bu, .ref bo, .ref br, .ref bk, .ref bw, .ref btt, .ref bss])), (bl, .inl (cI, 100, .inl lo)), (bo, .inl (cI, 100, .inl d))] H := hP
  have hD : va_D A [(h0, .inr (0, [.int (nI (P)), .ref an])), (an, .inl (cI, 100, .inl La)), (q1, .inr (1, [.int (nI (P)), .ref be, .ref bl, .ref bu, .ref bo, .ref br, .ref bk, .ref bw, .ref btt, .ref bss])), (bl, .inl (cI, 100, .inl lo)), (bo, .inl (cI, 100, .inl d))] := hD
  refine lv_iconst (v := 0) hx hb dX0_measure_8 (by decide) ?_
  refine lv_istore_n (lv' := [(2, .int 0), (0, .ref h0), (1, .ref q1)]) hx hb dX0_measure_9 rfl hl (by decide) rfl (fun ls hl => ?_)
  suffices loop_10 : ∀ (n_10 : Nat) (i : Nat) (L9 : Nat → Int32) (H : Heap) (locs : List Loc) (ls : Array Slot), P - i < n_10 → (i ≤ P) → va_P D vwCl [(h0, .inr (0, [.int (nI (P)), .ref an])), (an, .inl (cI, 100, .inl L9)), (q1, .inr (1, [.int (nI (P)), .ref be, .ref bl, .ref bu, .ref bo, .ref br, .ref bk, .ref bw, .ref btt, .ref bss])), (bl, .inl (cI, 100, .inl lo)), (bo, .inl (cI, 100, .inl d))] H → va_D A [(h0, .inr (0, [.int (nI (P)), .ref an])), (an, .inl (cI, 100, .inl L9)), (q1, .inr (1, [.int (nI (P)), .ref be, .ref bl, .ref bu, .ref bo, .ref br, .ref bk, .ref bw, .ref btt, .ref bss])), (bl, .inl (cI, 100, .inl lo)), (bo, .inl (cI, 100, .inl d))] → va_S A s.heap H locs → lv_has ls 4 [(2, .int (nI (i))), (0, .ref h0), (1, .ref q1)] → W p l e ({ frames := 3, cells := 0, slots := 0, locals := 65 }) s m ([.ref h0, .ref q1] : List Value).toArray below meth c H locs 0 0 (MQ below (XQv (fun (L2 : (Nat → Int32)) => True) D (fun (L2 : Nat → Int32) => [(h0, .inr (0, [.int (nI (P)), .ref an])), (an, .inl (cI, 100, .inl L2)), (q1, .inr (1, [.int (nI (P)), .ref be, .ref bl, .ref bu, .ref bo, .ref br, .ref bk, .ref bw, .ref btt, .ref bss])), (bl, .inl (cI, 100, .inl lo)), (bo, .inl (cI, 100, .inl d))]) A) ([.ref h0, .ref q1] : List Value).toArray s 0 0 A) (F0 m 10 ls []) by
    exact loop_10 _ 0 La _ _ _ (Nat.lt_succ_self _) (by omega) hP hD hS (lv_sub hl [0, 1, 2] rfl)
  intro n_10
  induction n_10 with
  | zero =>
    intro i L9 H locs ls hm_10
    exact absurd hm_10 (Nat.not_lt_zero _)
  | succ n_10 ih_10 =>
    intro i L9 H locs ls hm_10 hi hP hD hS hl
    refine lv_iload_n hx hb dX0_measure_10 rfl (lv_at hl 0 rfl) ?_
    refine lv_aload_n hx hb dX0_measure_11 rfl (lv_at hl 1 rfl) ?_
    refine xg hF kf_X0_9 hK hP 0 rfl rfl dX0_measure_12 ?_
    refine lv_icmp_ge (tgt := 66) hx hb dX0_measure_15 (by decide) (fun c_1 => ?_) (fun c_1 => ?_)
    · skip
      have nc_1 : P ≤ i := xn_le (a := P) (b := i) (by omega) (by omega) c_1
      refine lv_iconst (v := 0) hx hb dX0_measure_66 (by decide) ?_
      refine lv_istore_n (lv' := [(2, .int 0), (0, .ref h0), (1, .ref q1)]) hx hb dX0_measure_67 rfl hl (by decide) rfl (fun ls hl => ?_)
      suffices loop_68 : ∀ (n_68 : Nat) (i2 : Nat) (L7 : Nat → Int32) (H : Heap) (locs : List Loc) (ls : Array Slot), P - i2 < n_68 → (i2 ≤ P) → va_P D vwCl [(h0, .inr (0, [.int (nI (P)), .ref an])), (an, .inl (cI, 100, .inl L7)), (q1, .inr (1, [.int (nI (P)), .ref be, .ref bl, .ref bu, .ref bo, .ref br, .ref bk, .ref bw, .ref btt, .ref bss])), (bl, .inl (cI, 100, .inl lo)), (bo, .inl (cI, 100, .inl d))] H → va_D A [(h0, .inr (0, [.int (nI (P)), .ref an])), (an, .inl (cI, 100, .inl L7)), (q1, .inr (1, [.int (nI (P)), .ref be, .ref bl, .ref bu, .ref bo, .ref br, .ref bk, .ref bw, .ref btt, .ref bss])), (bl, .inl (cI, 100, .inl lo)), (bo, .inl (cI, 100, .inl d))] → va_S A s.heap H locs → lv_has ls 4 [(2, .int (nI (i2))), (0, .ref h0), (1, .ref q1)] → W p l e ({ frames := 3, cells := 0, slots := 0, locals := 65 }) s m ([.ref h0, .ref q1] : List Value).toArray below meth c H locs 0 0 (MQ below (XQv (fun (L2 : (Nat → Int32)) => True) D (fun (L2 : Nat → Int32) => [(h0, .inr (0, [.int (nI (P)), .ref an])), (an, .inl (cI, 100, .inl L2)), (q1, .inr (1, [.int (nI (P)), .ref be, .ref bl, .ref bu, .ref bo, .ref br, .ref bk, .ref bw, .ref btt, .ref bss])), (bl, .inl (cI, 100, .inl lo)), (bo, .inl (cI, 100, .inl d))]) A) ([.ref h0, .ref q1] : List Value).toArray s 0 0 A) (F0 m 68 ls []) by
        exact loop_68 _ 0 L9 _ _ _ (Nat.lt_succ_self _) (by omega) hP hD hS (lv_sub hl [0, 1, 2] rfl)
      intro n_68
      induction n_68 with
      | zero =>
        intro i2 L7 H locs ls hm_68
        exact absurd hm_68 (Nat.not_lt_zero _)
      | succ n_68 ih_68 =>
        intro i2 L7 H locs ls hm_68 hi2 hP hD hS hl
        refine lv_iload_n hx hb dX0_measure_68 rfl (lv_at hl 0 rfl) ?_
        refine lv_aload_n hx hb dX0_measure_69 rfl (lv_at hl 1 rfl) ?_
        refine xg hF kf_X0_9 hK hP 0 rfl rfl dX0_measure_70 ?_
        refine lv_icmp_ge (tgt := 87) hx hb dX0_measure_73 (by decide) (fun c_2 => ?_) (fun c_2 => ?_)
        · skip
          have nc_2 : P ≤ i2 := xn_le (a := P) (b := i2) (by omega) (by omega) c_2
          exact W.vret hx hb hr (fun t ht hW => ⟨⟨L7, rfl, trivial, by rw [ht]; exact hP.sub [0, 1, 2, 3, 4] rfl, hD.sub [0, 1, 2, 3, 4] (by decide) rfl⟩, hS.F ht⟩) hS.2.2 dX0_measure_87 hlk
        · skip
          have nc_2 : i2 < P := xn_nle (a := P) (b := i2) (by omega) (by omega) c_2
          refine lv_aload_n hx hb dX0_measure_76 rfl (lv_at hl 1 rfl) ?_
          refine lv_iload_n hx hb dX0_measure_77 rfl (lv_at hl 0 rfl) ?_
          refine xc_Vv (wr := [(q1, .inr (1, [.int (nI (P)), .ref be, .ref bl, .ref bu, .ref bo, .ref br, .ref bk, .ref bw, .ref btt, .ref bss])), (bl, .inl (cI, 100, .inl lo)), (bo, .inl (cI, 100, .inl d))]) hF (c_X0_shortenOver l D cI cJ cZ cS ta sa sv H.size h0 an P i2 L7 (by omega) (by omega)) kv_X0_26 ⟨rfl, rfl, Nat.le_of_ble_eq_true rfl, Nat.le_of_ble_eq_true rfl⟩ ⟨Nat.le_of_ble_eq_true rfl, Nat.le_of_ble_eq_true rfl⟩ hK hN hZ hP hD hS hA [0, 1] [2, 3, 4] rfl rfl rfl rfl (by decide) 0 rfl rfl rfl rfl hl.1 rfl (Nat.le_of_ble_eq_true rfl) dX0_measure_78 (fun u_r_3 H locs hw_r_3 hP hD hS => ?_)
          obtain ⟨L2_4, rfl⟩ : ∃ z, z = u_r_3 := ⟨_, rfl⟩
          try dsimp only at hw_r_3
          have hP : va_P D vwCl [(q1, .inr (1, [.int (nI (P)), .ref be, .ref bl, .ref bu, .ref bo, .ref br, .ref bk, .ref bw, .ref btt, .ref bss])), (bl, .inl (cI, 100, .inl lo)), (bo, .inl (cI, 100, .inl d)), (h0, .inr (0, [.int (nI (P)), .ref an])), (an, .inl (cI, 100, .inl L2_4))] H := hP
          have hD : va_D A [(q1, .inr (1, [.int (nI (P)), .ref be, .ref bl, .ref bu, .ref bo, .ref br, .ref bk, .ref bw, .ref btt, .ref bss])), (bl, .inl (cI, 100, .inl lo)), (bo, .inl (cI, 100, .inl d)), (h0, .inr (0, [.int (nI (P)), .ref an])), (an, .inl (cI, 100, .inl L2_4))] := hD
          refine lv_iinc (v := nI (i2 + 1)) (lv' := [(2, .int (nI (i2 + 1))), (0, .ref h0), (1, .ref q1)]) hx hb dX0_measure_81 hl (k := 0) rfl (nI_1 (i2)) (by decide) rfl (fun ls hl => ?_)
          refine lv_goto (tgt := 68) hx hb dX0_measure_84 (by decide) ?_
          exact ih_68 (i2 + 1) L2_4 _ _ _ (by omega) (by omega) (hP.sub [3, 4, 0, 1, 2] rfl) (hD.sub [3, 4, 0, 1, 2] (by decide) rfl) hS (lv_sub hl [0, 1, 2] rfl)
    · skip
      have nc_1 : i < P := xn_nle (a := P) (b := i) (by omega) (by omega) c_1
      refine lv_iconst (v := 0) hx hb dX0_measure_18 (by decide) ?_
      refine lv_istore_n (lv' := [(3, .int 0), (2, .int (nI (i))), (0, .ref h0), (1, .ref q1)]) hx hb dX0_measure_19 rfl hl (by decide) rfl (fun ls hl => ?_)
      suffices loop_20 : ∀ (n_20 : Nat) (k : Nat) (L8 : Nat → Int32) (H : Heap) (locs : List Loc) (ls : Array Slot), P - k < n_20 → (k ≤ P) → va_P D vwCl [(h0, .inr (0, [.int (nI (P)), .ref an])), (an, .inl (cI, 100, .inl L8)), (q1, .inr (1, [.int (nI (P)), .ref be, .ref bl, .ref bu, .ref bo, .ref br, .ref bk, .ref bw, .ref btt, .ref bss])), (bl, .inl (cI, 100, .inl lo)), (bo, .inl (cI, 100, .inl d))] H → va_D A [(h0, .inr (0, [.int (nI (P)), .ref an])), (an, .inl (cI, 100, .inl L8)), (q1, .inr (1, [.int (nI (P)), .ref be, .ref bl, .ref bu, .ref bo, .ref br, .ref bk, .ref bw, .ref btt, .ref bss])), (bl, .inl (cI, 100, .inl lo)), (bo, .inl (cI, 100, .inl d))] → va_S A s.heap H locs → lv_has ls 4 [(3, .int (nI (k))), (2, .int (nI (i))), (0, .ref h0), (1, .ref q1)] → W p l e ({ frames := 3, cells := 0, slots := 0, locals := 65 }) s m ([.ref h0, .ref q1] : List Value).toArray below meth c H locs 0 0 (MQ below (XQv (fun (L2 : (Nat → Int32)) => True) D (fun (L2 : Nat → Int32) => [(h0, .inr (0, [.int (nI (P)), .ref an])), (an, .inl (cI, 100, .inl L2)), (q1, .inr (1, [.int (nI (P)), .ref be, .ref bl, .ref bu, .ref bo, .ref br, .ref bk, .ref bw, .ref btt, .ref bss])), (bl, .inl (cI, 100, .inl lo)), (bo, .inl (cI, 100, .inl d))]) A) ([.ref h0, .ref q1] : List Value).toArray s 0 0 A) (F0 m 20 ls []) by
        exact loop_20 _ 0 L9 _ _ _ (Nat.lt_succ_self _) (by omega) hP hD hS (lv_sub hl [0, 1, 2, 3] rfl)
      intro n_20
      induction n_20 with
      | zero =>
        intro k L8 H locs ls hm_20
        exact absurd hm_20 (Nat.not_lt_zero _)
      | succ n_20 ih_20 =>
        intro k L8 H locs ls hm_20 hk hP hD hS hl
        refine lv_iload_n hx hb dX0_measure_20 rfl (lv_at hl 0 rfl) ?_
        refine lv_aload_n hx hb dX0_measure_21 rfl (lv_at hl 2 rfl) ?_
        refine xg hF kf_X0_9 hK hP 0 rfl rfl dX0_measure_22 ?_
        refine lv_icmp_ge (tgt := 60) hx hb dX0_measure_25 (by decide) (fun c_5 => ?_) (fun c_5 => ?_)
        · skip
          have nc_5 : P ≤ k := xn_le (a := P) (b := k) (by omega) (by omega) c_5
          refine lv_iinc (v := nI (i + 1)) (lv' := [(2, .int (nI (i + 1))), (3, .int (nI (k))), (0, .ref h0), (1, .ref q1)]) hx hb dX0_measure_60 hl (k := 1) rfl (nI_1 (i)) (by decide) rfl (fun ls hl => ?_)
          refine lv_goto (tgt := 10) hx hb dX0_measure_63 (by decide) ?_
          exact ih_10 (i + 1) L8 _ _ _ (by omega) (by omega) (hP.sub [0, 1, 2, 3, 4] rfl) (hD.sub [0, 1, 2, 3, 4] (by decide) rfl) hS (lv_sub hl [0, 2, 3] rfl)
        · skip
          have nc_5 : k < P := xn_nle (a := P) (b := k) (by omega) (by omega) c_5
          refine lv_aload_n hx hb dX0_measure_28 rfl (lv_at hl 2 rfl) ?_
          refine xg hF kf_X0_15 hK hP 0 rfl rfl dX0_measure_29 ?_
          refine lv_bipush (v := 10) hx hb dX0_measure_32 (by decide) ?_
          refine lv_iload_n hx hb dX0_measure_34 rfl (lv_at hl 1 rfl) ?_
          refine lv_imul hx hb dX0_measure_35 ?_
          refine xl_i (y := nI (10 * i)) (pk_mul 10 i) ?_
          refine lv_iload_n hx hb dX0_measure_36 rfl (lv_at hl 0 rfl) ?_
          refine lv_iadd hx hb dX0_measure_37 ?_
          refine xl_i (y := nI (10 * i + k)) (nI_add (10 * i) k) ?_
          refine lv_iload_n hx hb dX0_measure_38 rfl (lv_at hl 1 rfl) ?_
          refine lv_iload_n hx hb dX0_measure_39 rfl (lv_at hl 0 rfl) ?_
          refine lv_icmp_ne (tgt := 47) hx hb dX0_measure_40 (by decide) (fun c_6 => ?_) (fun c_6 => ?_)
          · skip
            have nc_6 : i ≠ k := xn_ne (a := i) (b := k) (by omega) (by omega) c_6
            refine lv_aload_n hx hb dX0_measure_47 rfl (lv_at hl 3 rfl) ?_
            refine lv_iload_n hx hb dX0_measure_48 rfl (lv_at hl 1 rfl) ?_
            refine lv_iload_n hx hb dX0_measure_49 rfl (lv_at hl 0 rfl) ?_
            refine xc_Sr hF (c_X0_oneWay l D cI cJ cZ cS ta sa sv H.size q1 be bl bu bo br bk bw btt bss P lo d i k (by omega) (by omega)) ks_X0_22 ⟨rfl, rfl, Nat.le_of_ble_eq_true rfl, Nat.le_of_ble_eq_true rfl⟩ ⟨Nat.le_of_ble_eq_true rfl, Nat.le_of_ble_eq_true rfl⟩ hK hN hZ hP hD hS hA [2, 3, 4] rfl rfl rfl hl.1 rfl (Nat.le_of_ble_eq_true rfl) dX0_measure_50 (fun r_7 hw_r_7 => ?_)
            refine va_iast hx hb hK hP hD hS 1 0 rfl rfl (vp_in_nI (show 10 * i + k < 100 by omega) (by decide)) dX0_measure_53 (fun H locs hP hD hS => ?_)
            rw [nI_clamp (show 10 * i + k < 2 ^ 31 by omega)] at hP hD
            obtain ⟨f_8, ef_8⟩ : ∃ g, g = upd L8 (10 * i + k) r_7 := ⟨_, rfl⟩
            rw [← ef_8] at hP hD
            have hP : va_P D vwCl [(h0, .inr (0, [.int (nI (P)), .ref an])), (an, .inl (cI, 100, .inl f_8)), (q1, .inr (1, [.int (nI (P)), .ref be, .ref bl, .ref bu, .ref bo, .ref br, .ref bk, .ref bw, .ref btt, .ref bss])), (bl, .inl (cI, 100, .inl lo)), (bo, .inl (cI, 100, .inl d))] H := hP
            have hD : va_D A [(h0, .inr (0, [.int (nI (P)), .ref an])), (an, .inl (cI, 100, .inl f_8)), (q1, .inr (1, [.int (nI (P)), .ref be, .ref bl, .ref bu, .ref bo, .ref br, .ref bk, .ref bw, .ref btt, .ref bss])), (bl, .inl (cI, 100, .inl lo)), (bo, .inl (cI, 100, .inl d))] := hD
            refine lv_iinc (v := nI (k + 1)) (lv' := [(3, .int (nI (k + 1))), (2, .int (nI (i))), (0, .ref h0), (1, .ref q1)]) hx hb dX0_measure_54 hl (k := 0) rfl (nI_1 (k)) (by decide) rfl (fun ls hl => ?_)
            refine lv_goto (tgt := 20) hx hb dX0_measure_57 (by decide) ?_
            exact ih_20 (k + 1) f_8 _ _ _ (by omega) (by omega) (hP.sub [0, 1, 2, 3, 4] rfl) (hD.sub [0, 1, 2, 3, 4] (by decide) rfl) hS (lv_sub hl [0, 1, 2, 3] rfl)
          · skip
            have nc_6 : i = k := xn_eq (a := i) (b := k) (by omega) (by omega) c_6
            refine lv_iconst (v := 0) hx hb dX0_measure_43 (by decide) ?_
            refine lv_goto (tgt := 53) hx hb dX0_measure_44 (by decide) ?_
            refine va_iast hx hb hK hP hD hS 1 0 rfl rfl (vp_in_nI (show 10 * i + k < 100 by omega) (by decide)) dX0_measure_53 (fun H locs hP hD hS => ?_)
            rw [nI_clamp (show 10 * i + k < 2 ^ 31 by omega)] at hP hD
            obtain ⟨f_9, ef_9⟩ : ∃ g, g = upd L8 (10 * i + k) 0 := ⟨_, rfl⟩
            rw [← ef_9] at hP hD
            have hP : va_P D vwCl [(h0, .inr (0, [.int (nI (P)), .ref an])), (an, .inl (cI, 100, .inl f_9)), (q1, .inr (1, [.int (nI (P)), .ref be, .ref bl, .ref bu, .ref bo, .ref br, .ref bk, .ref bw, .ref btt, .ref bss])), (bl, .inl (cI, 100, .inl lo)), (bo, .inl (cI, 100, .inl d))] H := hP
            have hD : va_D A [(h0, .inr (0, [.int (nI (P)), .ref an])), (an, .inl (cI, 100, .inl f_9)), (q1, .inr (1, [.int (nI (P)), .ref be, .ref bl, .ref bu, .ref bo, .ref br, .ref bk, .ref bw, .ref btt, .ref bss])), (bl, .inl (cI, 100, .inl lo)), (bo, .inl (cI, 100, .inl d))] := hD
            refine lv_iinc (v := nI (k + 1)) (lv' := [(3, .int (nI (k + 1))), (2, .int (nI (i))), (0, .ref h0), (1, .ref q1)]) hx hb dX0_measure_54 hl (k := 0) rfl (nI_1 (k)) (by decide) rfl (fun ls hl => ?_)
            refine lv_goto (tgt := 20) hx hb dX0_measure_57 (by decide) ?_
            exact ih_20 (k + 1) f_9 _ _ _ (by omega) (by omega) (hP.sub [0, 1, 2, 3, 4] rfl) (hD.sub [0, 1, 2, 3, 4] (by decide) rfl) hS (lv_sub hl [0, 1, 2, 3] rfl)
set_option maxHeartbeats 4000000 in
set_option maxRecDepth 100000 in
theorem c_X0_hasLoop (l : Launch) (D : va_G) (cI cJ cZ cS : ClassId) (ta : Nat) (sa sv : Nat → Nat) (sz : Nat) (h0 : Nat) (an : Nat) (Q : Nat) (La : Nat → Int32) (hQ : Q ≤ 10) : Met l yX0_hasLoop (Cond.code yX0_hasLoop cX0_hasLoop 2 (some .boolean) :: wsU) ({ frames := 1, cells := 0, slots := 0, locals := 22 }) (va_Pc [.ref h0] (XW D (xT cI cJ cZ cS) ta sa sv [(h0, .inr (0, [.int (nI (Q)), .ref an])), (an, .inl (cI, 100, .inl La))] sz)) (vp_Si (fun r : Int32 => (r = 1) ∨ (r = 0))) 0 0 (fun _ => False) := by
  refine xh (QA := fun _ => vp_Si (fun r : Int32 => (r = 1) ∨ (r = 0))) (fr := fun _ _ => False) (by decide) (Nat.le_of_ble_eq_true rfl) ?_
  intro p e s m below meth c ls A hF hr hlk hin hsz hP hK hD hN hZ hA hS hl
  have hF : CallFix p m c cX0_hasLoop 2 s _ _ RX0 := hF
  have hx := hF.1
  have hb := hF.2.1
  have hml := hF.2.2.1
  have hown := hF.2.2.2.1
  have hu : ∀ w ∈ wsU, w.before _ s = true := fun w h => hF.2.2.2.2 w (List.mem_cons_of_mem _ h)
  have hl : lv_has ls 2 [(0, .ref h0)] := hl
  refine lv_iconst (v := 0) hx hb dX0_hasLoop_0 (by decide) ?_
  refine lv_istore_n (lv' := [(1, .int 0), (0, .ref h0)]) hx hb dX0_hasLoop_1 rfl hl (by decide) rfl (fun ls hl => ?_)
  suffices loop_2 : ∀ (n_2 : Nat) (i : Nat) (ls : Array Slot), Q - i < n_2 → (i ≤ Q) → lv_has ls 2 [(1, .int (nI (i))), (0, .ref h0)] → W p l e ({ frames := 1, cells := 0, slots := 0, locals := 22 }) s m ([.ref h0] : List Value).toArray below meth c s.heap [] 0 0 (MQ below (vp_Si (fun r : Int32 => (r = 1) ∨ (r = 0))) ([.ref h0] : List Value).toArray s 0 0 (fun _ => False)) (F0 m 2 ls []) by
    exact loop_2 _ 0 _ (Nat.lt_succ_self _) (by omega) (lv_sub hl [0, 1] rfl)
  intro n_2
  induction n_2 with
  | zero =>
    intro i ls hm_2
    exact absurd hm_2 (Nat.not_lt_zero _)
  | succ n_2 ih_2 =>
    intro i ls hm_2 hi hl
    refine lv_iload_n hx hb dX0_hasLoop_2 rfl (lv_at hl 0 rfl) ?_
    refine lv_aload_n hx hb dX0_hasLoop_3 rfl (lv_at hl 1 rfl) ?_
    refine xg hF kf_X0_9 hK hP 0 rfl rfl dX0_hasLoop_4 ?_
    refine lv_icmp_ge (tgt := 27) hx hb dX0_hasLoop_7 (by decide) (fun c_1 => ?_) (fun c_1 => ?_)
    · skip
      have nc_1 : Q ≤ i := xn_le (a := Q) (b := i) (by omega) (by omega) c_1
      refine lv_iconst (v := 0) hx hb dX0_hasLoop_27 (by decide) ?_
      exact W.zret (v := 0) hx hb hr rfl (fun t ht hW => ⟨0, rfl, (by first | exact Or.inr (rfl)), ht⟩) (fun q h => by cases h) dX0_hasLoop_28 hlk
    · skip
      have nc_1 : i < Q := xn_nle (a := Q) (b := i) (by omega) (by omega) c_1
      refine lv_aload_n hx hb dX0_hasLoop_10 rfl (lv_at hl 1 rfl) ?_
      refine lv_iload_n hx hb dX0_hasLoop_11 rfl (lv_at hl 0 rfl) ?_
      refine lv_iload_n hx hb dX0_hasLoop_12 rfl (lv_at hl 0 rfl) ?_
      refine xc_Vr hF (c_X0_lengthOf l D cI cJ cZ cS ta sa sv s.heap.size h0 an Q i i La (by omega) (by omega)) kv_X0_39 ⟨rfl, rfl, Nat.le_of_ble_eq_true rfl, Nat.le_of_ble_eq_true rfl⟩ ⟨Nat.le_of_ble_eq_true rfl, Nat.le_of_ble_eq_true rfl⟩ hK hN hZ hP hD hS hA [0, 1] rfl rfl 0 rfl rfl rfl rfl hl.1 rfl (Nat.le_of_ble_eq_true rfl) dX0_hasLoop_13 (fun r_2 hw_r_2 => ?_)
      subst hw_r_2
      refine lv_if_ge (tgt := 21) hx hb dX0_hasLoop_16 (by decide) (fun c_3 => ?_) (fun c_3 => ?_)
      · skip
        refine lv_iinc (v := nI (i + 1)) (lv' := [(1, .int (nI (i + 1))), (0, .ref h0)]) hx hb dX0_hasLoop_21 hl (k := 0) rfl (nI_1 (i)) (by decide) rfl (fun ls hl => ?_)
        refine lv_goto (tgt := 2) hx hb dX0_hasLoop_24 (by decide) ?_
        exact ih_2 (i + 1) _ (by omega) (by omega) (lv_sub hl [0, 1] rfl)
      · skip
        refine lv_iconst (v := 1) hx hb dX0_hasLoop_19 (by decide) ?_
        exact W.zret (v := 1) hx hb hr rfl (fun t ht hW => ⟨1, rfl, (by first | exact Or.inl rfl), ht⟩) (fun q h => by cases h) dX0_hasLoop_20 hlk
set_option maxHeartbeats 4000000 in
set_option maxRecDepth 100000 in
theorem c_X0_isBackAndForth (l : Launch) (D : va_G) (cI cJ cZ cS : ClassId) (ta : Nat) (sa sv : Nat → Nat) (sz : Nat) (h0 : Nat) (an : Nat) (Q : Nat) (La : Nat → Int32) (j : Nat) (k : Nat) (hj : j < 10) (hk : k < 10) : Met l yX0_isBackAndForth (Cond.code yX0_isBackAndForth cX0_isBackAndForth 3 (some .boolean) :: wsU) ({ frames := 1, cells := 0, slots := 0, locals := 22 }) (va_Pc [.ref h0, .int (nI (j)), .int (nI (k))] (XW D (xT cI cJ cZ cS) ta sa sv [(h0, .inr (0, [.int (nI (Q)), .ref an])), (an, .inl (cI, 100, .inl La))] sz)) (vp_Si (fun r : Int32 => (r = 1) ∨ (r = 0))) 0 0 (fun _ => False) := by
  refine xh (QA := fun _ => vp_Si (fun r : Int32 => (r = 1) ∨ (r = 0))) (fr := fun _ _ => False) (by decide) (Nat.le_of_ble_eq_true rfl) ?_
  intro p e s m below meth c ls A hF hr hlk hin hsz hP hK hD hN hZ hA hS hl
  have hF : CallFix p m c cX0_isBackAndForth 3 s _ _ RX0 := hF
  have hx := hF.1
  have hb := hF.2.1
  have hml := hF.2.2.1
  have hown := hF.2.2.2.1
  have hu : ∀ w ∈ wsU, w.before _ s = true := fun w h => hF.2.2.2.2 w (List.mem_cons_of_mem _ h)
  have hl : lv_has ls 3 [(0, .ref h0), (1, .int (nI (j))), (2, .int (nI (k)))] := hl
  refine lv_aload_n hx hb dX0_isBackAndForth_0 rfl (lv_at hl 0 rfl) ?_
  refine lv_iload_n hx hb dX0_isBackAndForth_1 rfl (lv_at hl 1 rfl) ?_
  refine lv_iload_n hx hb dX0_isBackAndForth_2 rfl (lv_at hl 2 rfl) ?_
  refine xc_Vr hF (c_X0_lengthOf l D cI cJ cZ cS ta sa sv s.heap.size h0 an Q j k La (by omega) (by omega)) kv_X0_39 ⟨rfl, rfl, Nat.le_of_ble_eq_true rfl, Nat.le_of_ble_eq_true rfl⟩ ⟨Nat.le_of_ble_eq_true rfl, Nat.le_of_ble_eq_true rfl⟩ hK hN hZ hP hD hS hA [0, 1] rfl rfl 0 rfl rfl rfl rfl hl.1 rfl (Nat.le_of_ble_eq_true rfl) dX0_isBackAndForth_3 (fun r_1 hw_r_1 => ?_)
  subst hw_r_1
  refine lv_ldc (v := 1000000000) hx hb hown (hu _ uw79) dX0_isBackAndForth_6 ?_
  refine lv_icmp_eq (tgt := 26) hx hb dX0_isBackAndForth_8 (by decide) (fun c_2 => ?_) (fun c_2 => ?_)
  · skip
    refine lv_iconst (v := 0) hx hb dX0_isBackAndForth_26 (by decide) ?_
    exact W.zret (v := 0) hx hb hr rfl (fun t ht hW => ⟨0, rfl, (by first | exact Or.inr (rfl)), ht⟩) (fun q h => by cases h) dX0_isBackAndForth_27 hlk
  · skip
    refine lv_aload_n hx hb dX0_isBackAndForth_11 rfl (lv_at hl 0 rfl) ?_
    refine lv_iload_n hx hb dX0_isBackAndForth_12 rfl (lv_at hl 2 rfl) ?_
    refine lv_iload_n hx hb dX0_isBackAndForth_13 rfl (lv_at hl 1 rfl) ?_
    refine xc_Vr hF (c_X0_lengthOf l D cI cJ cZ cS ta sa sv s.heap.size h0 an Q k j La (by omega) (by omega)) kv_X0_39 ⟨rfl, rfl, Nat.le_of_ble_eq_true rfl, Nat.le_of_ble_eq_true rfl⟩ ⟨Nat.le_of_ble_eq_true rfl, Nat.le_of_ble_eq_true rfl⟩ hK hN hZ hP hD hS hA [0, 1] rfl rfl 0 rfl rfl rfl rfl hl.1 rfl (Nat.le_of_ble_eq_true rfl) dX0_isBackAndForth_14 (fun r_3 hw_r_3 => ?_)
    subst hw_r_3
    refine lv_ldc (v := 1000000000) hx hb hown (hu _ uw79) dX0_isBackAndForth_17 ?_
    refine lv_icmp_eq (tgt := 26) hx hb dX0_isBackAndForth_19 (by decide) (fun c_4 => ?_) (fun c_4 => ?_)
    · skip
      refine lv_iconst (v := 0) hx hb dX0_isBackAndForth_26 (by decide) ?_
      exact W.zret (v := 0) hx hb hr rfl (fun t ht hW => ⟨0, rfl, (by first | exact Or.inr (rfl)), ht⟩) (fun q h => by cases h) dX0_isBackAndForth_27 hlk
    · skip
      refine lv_iconst (v := 1) hx hb dX0_isBackAndForth_22 (by decide) ?_
      refine lv_goto (tgt := 27) hx hb dX0_isBackAndForth_23 (by decide) ?_
      exact W.zret (v := 1) hx hb hr rfl (fun t ht hW => ⟨1, rfl, (by first | exact Or.inl rfl), ht⟩) (fun q h => by cases h) dX0_isBackAndForth_27 hlk
set_option maxHeartbeats 4000000 in
set_option maxRecDepth 100000 in
theorem c_X0_loopSet (l : Launch) (D : va_G) (cI cJ cZ cS : ClassId) (ta : Nat) (sa sv : Nat → Nat) (sz : Nat) (h0 : Nat) (an : Nat) (Q : Nat) (La : Nat → Int32) (hQ : Q ≤ 10) : Met l yX0_loopSet (Cond.code yX0_loopSet cX0_loopSet 4 (some .int) :: wsU) ({ frames := 2, cells := 0, slots := 0, locals := 44 }) (va_Pc [.ref h0] (XW D (xT cI cJ cZ cS) ta sa sv [(h0, .inr (0, [.int (nI (Q)), .ref an])), (an, .inl (cI, 100, .inl La))] sz)) (vp_Si (fun r : Int32 => True)) 0 0 (fun _ => False) := by
  refine xh (QA := fun _ => vp_Si (fun r : Int32 => True)) (fr := fun _ _ => False) (by decide) (Nat.le_of_ble_eq_true rfl) ?_
  intro p e s m below meth c ls A hF hr hlk hin hsz hP hK hD hN hZ hA hS hl
  have hF : CallFix p m c cX0_loopSet 4 s _ _ RX0 := hF
  have hx := hF.1
  have hb := hF.2.1
  have hml := hF.2.2.1
  have hown := hF.2.2.2.1
  have hu : ∀ w ∈ wsU, w.before _ s = true := fun w h => hF.2.2.2.2 w (List.mem_cons_of_mem _ h)
  have hl : lv_has ls 4 [(0, .ref h0)] := hl
  refine lv_iconst (v := 0) hx hb dX0_loopSet_0 (by decide) ?_
  refine lv_istore_n (lv' := [(1, .int 0), (0, .ref h0)]) hx hb dX0_loopSet_1 rfl hl (by decide) rfl (fun ls hl => ?_)
  refine lv_iconst (v := 0) hx hb dX0_loopSet_2 (by decide) ?_
  refine lv_istore_n (lv' := [(2, .int 0), (1, .int 0), (0, .ref h0)]) hx hb dX0_loopSet_3 rfl hl (by decide) rfl (fun ls hl => ?_)
  suffices loop_4 : ∀ (n_4 : Nat) (i : Nat) (u : Int32) (ls : Array Slot), Q - i < n_4 → (i ≤ Q) → lv_has ls 4 [(2, .int (nI (i))), (1, .int u), (0, .ref h0)] → W p l e ({ frames := 2, cells := 0, slots := 0, locals := 44 }) s m ([.ref h0] : List Value).toArray below meth c s.heap [] 0 0 (MQ below (vp_Si (fun r : Int32 => True)) ([.ref h0] : List Value).toArray s 0 0 (fun _ => False)) (F0 m 4 ls []) by
    exact loop_4 _ 0 0 _ (Nat.lt_succ_self _) (by omega) (lv_sub hl [0, 1, 2] rfl)
  intro n_4
  induction n_4 with
  | zero =>
    intro i u ls hm_4
    exact absurd hm_4 (Nat.not_lt_zero _)
  | succ n_4 ih_4 =>
    intro i u ls hm_4 hi hl
    refine lv_iload_n hx hb dX0_loopSet_4 rfl (lv_at hl 0 rfl) ?_
    refine lv_aload_n hx hb dX0_loopSet_5 rfl (lv_at hl 2 rfl) ?_
    refine xg hF kf_X0_9 hK hP 0 rfl rfl dX0_loopSet_6 ?_
    refine lv_icmp_ge (tgt := 58) hx hb dX0_loopSet_9 (by decide) (fun c_1 => ?_) (fun c_1 => ?_)
    · skip
      have nc_1 : Q ≤ i := xn_le (a := Q) (b := i) (by omega) (by omega) c_1
      refine lv_iload_n hx hb dX0_loopSet_58 rfl (lv_at hl 1 rfl) ?_
      exact W.iret (v := u) hx hb hr (fun t ht hW => ⟨u, rfl, trivial, ht⟩) (fun q h => by cases h) dX0_loopSet_59 hlk
    · skip
      have nc_1 : i < Q := xn_nle (a := Q) (b := i) (by omega) (by omega) c_1
      refine lv_iconst (v := 0) hx hb dX0_loopSet_12 (by decide) ?_
      refine lv_istore_n (lv' := [(3, .int 0), (2, .int (nI (i))), (1, .int u), (0, .ref h0)]) hx hb dX0_loopSet_13 rfl hl (by decide) rfl (fun ls hl => ?_)
      suffices loop_14 : ∀ (n_14 : Nat) (k : Nat) (v : Int32) (ls : Array Slot), Q - k < n_14 → (k ≤ Q) → lv_has ls 4 [(3, .int (nI (k))), (2, .int (nI (i))), (1, .int v), (0, .ref h0)] → W p l e ({ frames := 2, cells := 0, slots := 0, locals := 44 }) s m ([.ref h0] : List Value).toArray below meth c s.heap [] 0 0 (MQ below (vp_Si (fun r : Int32 => True)) ([.ref h0] : List Value).toArray s 0 0 (fun _ => False)) (F0 m 14 ls []) by
        exact loop_14 _ 0 u _ (Nat.lt_succ_self _) (by omega) (lv_sub hl [0, 1, 2, 3] rfl)
      intro n_14
      induction n_14 with
      | zero =>
        intro k v ls hm_14
        exact absurd hm_14 (Nat.not_lt_zero _)
      | succ n_14 ih_14 =>
        intro k v ls hm_14 hk hl
        refine lv_iload_n hx hb dX0_loopSet_14 rfl (lv_at hl 0 rfl) ?_
        refine lv_aload_n hx hb dX0_loopSet_15 rfl (lv_at hl 3 rfl) ?_
        refine xg hF kf_X0_9 hK hP 0 rfl rfl dX0_loopSet_16 ?_
        refine lv_icmp_ge (tgt := 52) hx hb dX0_loopSet_19 (by decide) (fun c_2 => ?_) (fun c_2 => ?_)
        · skip
          have nc_2 : Q ≤ k := xn_le (a := Q) (b := k) (by omega) (by omega) c_2
          refine lv_iinc (v := nI (i + 1)) (lv' := [(2, .int (nI (i + 1))), (3, .int (nI (k))), (1, .int v), (0, .ref h0)]) hx hb dX0_loopSet_52 hl (k := 1) rfl (nI_1 (i)) (by decide) rfl (fun ls hl => ?_)
          refine lv_goto (tgt := 4) hx hb dX0_loopSet_55 (by decide) ?_
          exact ih_4 (i + 1) v _ (by omega) (by omega) (lv_sub hl [0, 2, 3] rfl)
        · skip
          have nc_2 : k < Q := xn_nle (a := Q) (b := k) (by omega) (by omega) c_2
          refine lv_aload_n hx hb dX0_loopSet_22 rfl (lv_at hl 3 rfl) ?_
          refine lv_iload_n hx hb dX0_loopSet_23 rfl (lv_at hl 0 rfl) ?_
          refine lv_iload_n hx hb dX0_loopSet_24 rfl (lv_at hl 0 rfl) ?_
          refine xc_Vr hF (c_X0_lengthOf l D cI cJ cZ cS ta sa sv s.heap.size h0 an Q k k La (by omega) (by omega)) kv_X0_39 ⟨rfl, rfl, Nat.le_of_ble_eq_true rfl, Nat.le_of_ble_eq_true rfl⟩ ⟨Nat.le_of_ble_eq_true rfl, Nat.le_of_ble_eq_true rfl⟩ hK hN hZ hP hD hS hA [0, 1] rfl rfl 0 rfl rfl rfl rfl hl.1 rfl (Nat.le_of_ble_eq_true rfl) dX0_loopSet_25 (fun r_3 hw_r_3 => ?_)
          subst hw_r_3
          refine lv_if_ge (tgt := 46) hx hb dX0_loopSet_28 (by decide) (fun c_4 => ?_) (fun c_4 => ?_)
          · skip
            refine lv_iinc (v := nI (k + 1)) (lv' := [(3, .int (nI (k + 1))), (2, .int (nI (i))), (1, .int v), (0, .ref h0)]) hx hb dX0_loopSet_46 hl (k := 0) rfl (nI_1 (k)) (by decide) rfl (fun ls hl => ?_)
            refine lv_goto (tgt := 14) hx hb dX0_loopSet_49 (by decide) ?_
            exact ih_14 (k + 1) v _ (by omega) (by omega) (lv_sub hl [0, 1, 2, 3] rfl)
          · skip
            refine lv_aload_n hx hb dX0_loopSet_31 rfl (lv_at hl 3 rfl) ?_
            refine lv_iload_n hx hb dX0_loopSet_32 rfl (lv_at hl 1 rfl) ?_
            refine lv_iload_n hx hb dX0_loopSet_33 rfl (lv_at hl 0 rfl) ?_
            refine xc_Vr hF (c_X0_isBackAndForth l D cI cJ cZ cS ta sa sv s.heap.size h0 an Q La i k (by omega) (by omega)) kv_X0_51 ⟨rfl, rfl, Nat.le_of_ble_eq_true rfl, Nat.le_of_ble_eq_true rfl⟩ ⟨Nat.le_of_ble_eq_true rfl, Nat.le_of_ble_eq_true rfl⟩ hK hN hZ hP hD hS hA [0, 1] rfl rfl 0 rfl rfl rfl rfl hl.1 rfl (Nat.le_of_ble_eq_true rfl) dX0_loopSet_34 (fun r_5 hw_r_5 => ?_)
            rcases hw_r_5 with rfl | rfl
            · skip
              refine lv_if_eq (tgt := 46) hx hb dX0_loopSet_37 (by decide) (fun c_6 => absurd c_6 (by decide)) (fun c_6 => ?_)
              refine lv_iload_n hx hb dX0_loopSet_40 rfl (lv_at hl 2 rfl) ?_
              refine lv_iconst (v := 1) hx hb dX0_loopSet_41 (by decide) ?_
              refine lv_iload_n hx hb dX0_loopSet_42 rfl (lv_at hl 1 rfl) ?_
              refine lv_ishl hx hb dX0_loopSet_43 ?_
              refine lv_topi (fun x_7 ex_7 => ?_)
              refine lv_ior hx hb dX0_loopSet_44 ?_
              refine lv_topi (fun x_8 ex_8 => ?_)
              refine lv_istore_n (lv' := [(1, .int x_8), (3, .int (nI (k))), (2, .int (nI (i))), (0, .ref h0)]) hx hb dX0_loopSet_45 rfl hl (by decide) rfl (fun ls hl => ?_)
              refine lv_iinc (v := nI (k + 1)) (lv' := [(3, .int (nI (k + 1))), (1, .int x_8), (2, .int (nI (i))), (0, .ref h0)]) hx hb dX0_loopSet_46 hl (k := 1) rfl (nI_1 (k)) (by decide) rfl (fun ls hl => ?_)
              refine lv_goto (tgt := 14) hx hb dX0_loopSet_49 (by decide) ?_
              exact ih_14 (k + 1) x_8 _ (by omega) (by omega) (lv_sub hl [0, 2, 1, 3] rfl)
            · skip
              refine lv_if_eq (tgt := 46) hx hb dX0_loopSet_37 (by decide) (fun c_9 => ?_) (fun c_9 => absurd (by decide) c_9)
              refine lv_iinc (v := nI (k + 1)) (lv' := [(3, .int (nI (k + 1))), (2, .int (nI (i))), (1, .int v), (0, .ref h0)]) hx hb dX0_loopSet_46 hl (k := 0) rfl (nI_1 (k)) (by decide) rfl (fun ls hl => ?_)
              refine lv_goto (tgt := 14) hx hb dX0_loopSet_49 (by decide) ?_
              exact ih_14 (k + 1) v _ (by omega) (by omega) (lv_sub hl [0, 1, 2, 3] rfl)
set_option maxHeartbeats 4000000 in
set_option maxRecDepth 100000 in
theorem c_X0_farOf (l : Launch) (D : va_G) (cI cJ cZ cS : ClassId) (ta : Nat) (sa sv : Nat → Nat) (sz : Nat) (h0 : Nat) (an : Nat) (Q : Nat) (La : Nat → Int32) (j : Nat) (k : Nat) (hj : j < 10) (hk : k < 10) : Met l yX0_farOf (Cond.code yX0_farOf cX0_farOf 4 (some .int) :: wsU) ({ frames := 1, cells := 0, slots := 0, locals := 22 }) (va_Pc [.ref h0, .int (nI (j)), .int (nI (k))] (XW D (xT cI cJ cZ cS) ta sa sv [(h0, .inr (0, [.int (nI (Q)), .ref an])), (an, .inl (cI, 100, .inl La))] sz)) (vp_Si (fun r : Int32 => True)) 0 0 (fun _ => False) := by
  refine xh (QA := fun _ => vp_Si (fun r : Int32 => True)) (fr := fun _ _ => False) (by decide) (Nat.le_of_ble_eq_true rfl) ?_
  intro p e s m below meth c ls A hF hr hlk hin hsz hP hK hD hN hZ hA hS hl
  have hF : CallFix p m c cX0_farOf 4 s _ _ RX0 := hF
  have hx := hF.1
  have hb := hF.2.1
  have hml := hF.2.2.1
  have hown := hF.2.2.2.1
  have hu : ∀ w ∈ wsU, w.before _ s = true := fun w h => hF.2.2.2.2 w (List.mem_cons_of_mem _ h)
  have hl : lv_has ls 4 [(0, .ref h0), (1, .int (nI (j))), (2, .int (nI (k)))] := hl
  refine lv_aload_n hx hb dX0_farOf_0 rfl (lv_at hl 0 rfl) ?_
  refine lv_iload_n hx hb dX0_farOf_1 rfl (lv_at hl 1 rfl) ?_
  refine lv_iload_n hx hb dX0_farOf_2 rfl (lv_at hl 2 rfl) ?_
  refine xc_Vr hF (c_X0_lengthOf l D cI cJ cZ cS ta sa sv s.heap.size h0 an Q j k La (by omega) (by omega)) kv_X0_39 ⟨rfl, rfl, Nat.le_of_ble_eq_true rfl, Nat.le_of_ble_eq_true rfl⟩ ⟨Nat.le_of_ble_eq_true rfl, Nat.le_of_ble_eq_true rfl⟩ hK hN hZ hP hD hS hA [0, 1] rfl rfl 0 rfl rfl rfl rfl hl.1 rfl (Nat.le_of_ble_eq_true rfl) dX0_farOf_3 (fun r_1 hw_r_1 => ?_)
  subst hw_r_1
  refine lv_istore_n (lv' := [(3, .int (La (10 * j + k))), (0, .ref h0), (1, .int (nI (j))), (2, .int (nI (k)))]) hx hb dX0_farOf_6 rfl hl (by decide) rfl (fun ls hl => ?_)
  refine lv_iload_n hx hb dX0_farOf_7 rfl (lv_at hl 0 rfl) ?_
  refine lv_ldc (v := 1000000000) hx hb hown (hu _ uw79) dX0_farOf_8 ?_
  refine lv_icmp_ne (tgt := 18) hx hb dX0_farOf_10 (by decide) (fun c_2 => ?_) (fun c_2 => ?_)
  · skip
    refine lv_iload_n hx hb dX0_farOf_18 rfl (lv_at hl 0 rfl) ?_
    refine lv_bipush (v := 100) hx hb dX0_farOf_19 (by decide) ?_
    refine xc_Sr hF (c_J9_floorDiv_7cf53 l D cI cJ cZ cS ta sa sv s.heap.size (La (10 * j + k)) ) ks_X0_54 ⟨rfl, rfl, Nat.le_of_ble_eq_true rfl, Nat.le_of_ble_eq_true rfl⟩ ⟨Nat.le_of_ble_eq_true rfl, Nat.le_of_ble_eq_true rfl⟩ hK hN hZ hP hD hS hA [] rfl rfl rfl hl.1 rfl (Nat.le_of_ble_eq_true rfl) dX0_farOf_21 (fun r_3 hw_r_3 => ?_)
    exact W.iret (v := r_3) hx hb hr (fun t ht hW => ⟨r_3, rfl, trivial, ht⟩) (fun q h => by cases h) dX0_farOf_24 hlk
  · skip
    refine lv_ldc (v := 1000000000) hx hb hown (hu _ uw79) dX0_farOf_13 ?_
    refine lv_goto (tgt := 24) hx hb dX0_farOf_15 (by decide) ?_
    exact W.iret (v := 1000000000) hx hb hr (fun t ht hW => ⟨1000000000, rfl, trivial, ht⟩) (fun q h => by cases h) dX0_farOf_24 hlk
set_option maxHeartbeats 4000000 in
set_option maxRecDepth 100000 in
theorem c_X0_waysOf (l : Launch) (D : va_G) (cI cJ cZ cS : ClassId) (ta : Nat) (sa sv : Nat → Nat) (sz : Nat) (h0 : Nat) (an : Nat) (Q : Nat) (La : Nat → Int32) (j : Nat) (k : Nat) (hj : j < 10) (hk : k < 10) : Met l yX0_waysOf (Cond.code yX0_waysOf cX0_waysOf 4 (some .int) :: wsU) ({ frames := 1, cells := 0, slots := 0, locals := 22 }) (va_Pc [.ref h0, .int (nI (j)), .int (nI (k))] (XW D (xT cI cJ cZ cS) ta sa sv [(h0, .inr (0, [.int (nI (Q)), .ref an])), (an, .inl (cI, 100, .inl La))] sz)) (vp_Si (fun r : Int32 => True)) 0 0 (fun _ => False) := by
  refine xh (QA := fun _ => vp_Si (fun r : Int32 => True)) (fr := fun _ _ => False) (by decide) (Nat.le_of_ble_eq_true rfl) ?_
  intro p e s m below meth c ls A hF hr hlk hin hsz hP hK hD hN hZ hA hS hl
  have hF : CallFix p m c cX0_waysOf 4 s _ _ RX0 := hF
  have hx := hF.1
  have hb := hF.2.1
  have hml := hF.2.2.1
  have hown := hF.2.2.2.1
  have hu : ∀ w ∈ wsU, w.before _ s = true := fun w h => hF.2.2.2.2 w (List.mem_cons_of_mem _ h)
  have hl : lv_has ls 4 [(0, .ref h0), (1, .int (nI (j))), (2, .int (nI (k)))] := hl
  refine lv_aload_n hx hb dX0_waysOf_0 rfl (lv_at hl 0 rfl) ?_
  refine lv_iload_n hx hb dX0_waysOf_1 rfl (lv_at hl 1 rfl) ?_
  refine lv_iload_n hx hb dX0_waysOf_2 rfl (lv_at hl 2 rfl) ?_
  refine xc_Vr hF (c_X0_lengthOf l D cI cJ cZ cS ta sa sv s.heap.size h0 an Q j k La (by omega) (by omega)) kv_X0_39 ⟨rfl, rfl, Nat.le_of_ble_eq_true rfl, Nat.le_of_ble_eq_true rfl⟩ ⟨Nat.le_of_ble_eq_true rfl, Nat.le_of_ble_eq_true rfl⟩ hK hN hZ hP hD hS hA [0, 1] rfl rfl 0 rfl rfl rfl rfl hl.1 rfl (Nat.le_of_ble_eq_true rfl) dX0_waysOf_3 (fun r_1 hw_r_1 => ?_)
  subst hw_r_1
  refine lv_istore_n (lv' := [(3, .int (La (10 * j + k))), (0, .ref h0), (1, .int (nI (j))), (2, .int (nI (k)))]) hx hb dX0_waysOf_6 rfl hl (by decide) rfl (fun ls hl => ?_)
  refine lv_iload_n hx hb dX0_waysOf_7 rfl (lv_at hl 0 rfl) ?_
  refine lv_ldc (v := 1000000000) hx hb hown (hu _ uw79) dX0_waysOf_8 ?_
  refine lv_icmp_ne (tgt := 17) hx hb dX0_waysOf_10 (by decide) (fun c_2 => ?_) (fun c_2 => ?_)
  · skip
    refine lv_iload_n hx hb dX0_waysOf_17 rfl (lv_at hl 0 rfl) ?_
    refine lv_bipush (v := 100) hx hb dX0_waysOf_18 (by decide) ?_
    refine xc_Sr hF (c_J9_floorMod_7cf53 l D cI cJ cZ cS ta sa sv s.heap.size (La (10 * j + k)) ) ks_X0_57 ⟨rfl, rfl, Nat.le_of_ble_eq_true rfl, Nat.le_of_ble_eq_true rfl⟩ ⟨Nat.le_of_ble_eq_true rfl, Nat.le_of_ble_eq_true rfl⟩ hK hN hZ hP hD hS hA [] rfl rfl rfl hl.1 rfl (Nat.le_of_ble_eq_true rfl) dX0_waysOf_20 (fun r_3 hw_r_3 => ?_)
    exact W.iret (v := r_3) hx hb hr (fun t ht hW => ⟨r_3, rfl, trivial, ht⟩) (fun q h => by cases h) dX0_waysOf_23 hlk
  · skip
    refine lv_iconst (v := (-1)) hx hb dX0_waysOf_13 (by decide) ?_
    refine lv_goto (tgt := 23) hx hb dX0_waysOf_14 (by decide) ?_
    exact W.iret (v := (-1)) hx hb hr (fun t ht hW => ⟨(-1), rfl, trivial, ht⟩) (fun q h => by cases h) dX0_waysOf_23 hlk
set_option maxHeartbeats 4000000 in
set_option maxRecDepth 100000 in
theorem c_X0_nextStop (l : Launch) (D : va_G) (cI cJ cZ cS : ClassId) (ta : Nat) (sa sv : Nat → Nat) (sz : Nat) (h0 : Nat) (an : Nat) (Q : Nat) (La : Nat → Int32) (q1 : Nat) (be : Nat) (bl : Nat) (bu : Nat) (bo : Nat) (br : Nat) (bk : Nat) (bw : Nat) (btt : Nat) (bss : Nat) (P : Nat) (lo : Nat → Int32) (d : Nat → Int32) (j : Nat) (w : Nat) (hQ : Q ≤ 10) (hj : j < 10) (hw9 : w < 10) : Met l yX0_nextStop (Cond.code yX0_nextStop cX0_nextStop 5 (some .int) :: wsU) ({ frames := 3, cells := 0, slots := 0, locals := 65 }) (va_Pc [.ref h0, .ref q1, .int (nI (j)), .int (nI (w))] (XW D (xT cI cJ cZ cS) ta sa sv [(h0, .inr (0, [.int (nI (Q)), .ref an])), (an, .inl (cI, 100, .inl La)), (q1, .inr (1, [.int (nI (P)), .ref be, .ref bl, .ref bu, .ref bo, .ref br, .ref bk, .ref bw, .ref btt, .ref bss])), (bl, .inl (cI, 100, .inl lo)), (bo, .inl (cI, 100, .inl d))] sz)) (vp_Si (fun r : Int32 => (∃ (y : Nat), r = nI (y) ∧ (y < 10)))) 0 0 (fun _ => False) := by
  refine xh (QA := fun _ => vp_Si (fun r : Int32 => (∃ (y : Nat), r = nI (y) ∧ (y < 10)))) (fr := fun _ _ => False) (by decide) (Nat.le_of_ble_eq_true rfl) ?_
  intro p e s m below meth c ls A hF hr hlk hin hsz hP hK hD hN hZ hA hS hl
  have hF : CallFix p m c cX0_nextStop 5 s _ _ RX0 := hF
  have hx := hF.1
  have hb := hF.2.1
  have hml := hF.2.2.1
  have hown := hF.2.2.2.1
  have hu : ∀ w ∈ wsU, w.before _ s = true := fun w h => hF.2.2.2.2 w (List.mem_cons_of_mem _ h)
  have hl : lv_has ls 5 [(0, .ref h0), (1, .ref q1), (2, .int (nI (j))), (3, .int (nI (w)))] := hl
  refine lv_iconst (v := 0) hx hb dX0_nextStop_0 (by decide) ?_
  refine lv_istore (lv' := [(4, .int 0), (0, .ref h0), (1, .ref q1), (2, .int (nI (j))), (3, .int (nI (w)))]) hx hb dX0_nextStop_1 hl (by decide) rfl (fun ls hl => ?_)
  suffices loop_3 : ∀ (n_3 : Nat) (i : Nat) (ls : Array Slot), Q - i < n_3 → (i ≤ Q) → lv_has ls 5 [(4, .int (nI (i))), (0, .ref h0), (1, .ref q1), (2, .int (nI (j))), (3, .int (nI (w)))] → W p l e ({ frames := 3, cells := 0, slots := 0, locals := 65 }) s m ([.ref h0, .ref q1, .int (nI (j)), .int (nI (w))] : List Value).toArray below meth c s.heap [] 0 0 (MQ below (vp_Si (fun r : Int32 => (∃ (y : Nat), r = nI (y) ∧ (y < 10)))) ([.ref h0, .ref q1, .int (nI (j)), .int (nI (w))] : List Value).toArray s 0 0 (fun _ => False)) (F0 m 3 ls []) by
    exact loop_3 _ 0 _ (Nat.lt_succ_self _) (by omega) (lv_sub hl [0, 1, 2, 3, 4] rfl)
  intro n_3
  induction n_3 with
  | zero =>
    intro i ls hm_3
    exact absurd hm_3 (Nat.not_lt_zero _)
  | succ n_3 ih_3 =>
    intro i ls hm_3 hi hl
    refine lv_iload hx hb dX0_nextStop_3 (lv_at hl 0 rfl) ?_
    refine lv_aload_n hx hb dX0_nextStop_5 rfl (lv_at hl 1 rfl) ?_
    refine xg hF kf_X0_9 hK hP 0 rfl rfl dX0_nextStop_6 ?_
    refine lv_icmp_ge (tgt := 53) hx hb dX0_nextStop_9 (by decide) (fun c_1 => ?_) (fun c_1 => ?_)
    · skip
      have nc_1 : Q ≤ i := xn_le (a := Q) (b := i) (by omega) (by omega) c_1
      refine lv_iload_n hx hb dX0_nextStop_53 rfl (lv_at hl 4 rfl) ?_
      exact W.iret (v := nI (w)) hx hb hr (fun t ht hW => ⟨nI (w), rfl, (by first | exact ⟨w, rfl, (by first | assumption | omega | exact Or.inl (by first | assumption | omega) | exact Or.inr (by first | assumption | omega))⟩), ht⟩) (fun q h => by cases h) dX0_nextStop_54 hlk
    · skip
      have nc_1 : i < Q := xn_nle (a := Q) (b := i) (by omega) (by omega) c_1
      refine lv_iload hx hb dX0_nextStop_12 (lv_at hl 0 rfl) ?_
      refine lv_iload_n hx hb dX0_nextStop_14 rfl (lv_at hl 3 rfl) ?_
      refine lv_icmp_eq (tgt := 47) hx hb dX0_nextStop_15 (by decide) (fun c_2 => ?_) (fun c_2 => ?_)
      · skip
        have nc_2 : i = j := xn_eq (a := i) (b := j) (by omega) (by omega) c_2
        refine lv_iinc (v := nI (i + 1)) (lv' := [(4, .int (nI (i + 1))), (0, .ref h0), (1, .ref q1), (2, .int (nI (j))), (3, .int (nI (w)))]) hx hb dX0_nextStop_47 hl (k := 0) rfl (nI_1 (i)) (by decide) rfl (fun ls hl => ?_)
        refine lv_goto (tgt := 3) hx hb dX0_nextStop_50 (by decide) ?_
        exact ih_3 (i + 1) _ (by omega) (by omega) (lv_sub hl [0, 1, 2, 3, 4] rfl)
      · skip
        have nc_2 : i ≠ j := xn_ne (a := i) (b := j) (by omega) (by omega) c_2
        refine lv_aload_n hx hb dX0_nextStop_18 rfl (lv_at hl 2 rfl) ?_
        refine lv_iload_n hx hb dX0_nextStop_19 rfl (lv_at hl 3 rfl) ?_
        refine lv_iload hx hb dX0_nextStop_20 (lv_at hl 0 rfl) ?_
        refine xc_Sr hF (c_X0_oneWay l D cI cJ cZ cS ta sa sv s.heap.size q1 be bl bu bo br bk bw btt bss P lo d j i (by omega) (by omega)) ks_X0_22 ⟨rfl, rfl, Nat.le_of_ble_eq_true rfl, Nat.le_of_ble_eq_true rfl⟩ ⟨Nat.le_of_ble_eq_true rfl, Nat.le_of_ble_eq_true rfl⟩ hK hN hZ hP hD hS hA [2, 3, 4] rfl rfl rfl hl.1 rfl (Nat.le_of_ble_eq_true rfl) dX0_nextStop_22 (fun r_3 hw_r_3 => ?_)
        refine lv_aload_n hx hb dX0_nextStop_25 rfl (lv_at hl 1 rfl) ?_
        refine lv_iload hx hb dX0_nextStop_26 (lv_at hl 0 rfl) ?_
        refine lv_iload_n hx hb dX0_nextStop_28 rfl (lv_at hl 4 rfl) ?_
        refine xc_Vr hF (c_X0_lengthOf l D cI cJ cZ cS ta sa sv s.heap.size h0 an Q i w La (by omega) (by omega)) kv_X0_39 ⟨rfl, rfl, Nat.le_of_ble_eq_true rfl, Nat.le_of_ble_eq_true rfl⟩ ⟨Nat.le_of_ble_eq_true rfl, Nat.le_of_ble_eq_true rfl⟩ hK hN hZ hP hD hS hA [0, 1] rfl rfl 0 rfl rfl rfl rfl hl.1 rfl (Nat.le_of_ble_eq_true rfl) dX0_nextStop_29 (fun r_4 hw_r_4 => ?_)
        subst hw_r_4
        refine xc_SNr hF (c_X8_together l D cI cJ cZ cS ta sa sv s.heap.size r_3 (La (10 * i + w)) ) kn_X0_42.1 kn_X0_42.2.1 kn_X0_42.2.2 ⟨rfl, rfl, Nat.le_of_ble_eq_true rfl, Nat.le_of_ble_eq_true rfl⟩ ⟨Nat.le_of_ble_eq_true rfl, Nat.le_of_ble_eq_true rfl⟩ hK hN hZ hP hD hS hA [] rfl rfl rfl hl.1 rfl (Nat.le_of_ble_eq_true rfl) dX0_nextStop_32 (fun r_5 hw_r_5 => ?_)
        refine lv_aload_n hx hb dX0_nextStop_35 rfl (lv_at hl 1 rfl) ?_
        refine lv_iload_n hx hb dX0_nextStop_36 rfl (lv_at hl 3 rfl) ?_
        refine lv_iload_n hx hb dX0_nextStop_37 rfl (lv_at hl 4 rfl) ?_
        refine xc_Vr hF (c_X0_lengthOf l D cI cJ cZ cS ta sa sv s.heap.size h0 an Q j w La (by omega) (by omega)) kv_X0_39 ⟨rfl, rfl, Nat.le_of_ble_eq_true rfl, Nat.le_of_ble_eq_true rfl⟩ ⟨Nat.le_of_ble_eq_true rfl, Nat.le_of_ble_eq_true rfl⟩ hK hN hZ hP hD hS hA [0, 1] rfl rfl 0 rfl rfl rfl rfl hl.1 rfl (Nat.le_of_ble_eq_true rfl) dX0_nextStop_38 (fun r_6 hw_r_6 => ?_)
        subst hw_r_6
        refine lv_icmp_ne (tgt := 47) hx hb dX0_nextStop_41 (by decide) (fun c_7 => ?_) (fun c_7 => ?_)
        · skip
          refine lv_iinc (v := nI (i + 1)) (lv' := [(4, .int (nI (i + 1))), (0, .ref h0), (1, .ref q1), (2, .int (nI (j))), (3, .int (nI (w)))]) hx hb dX0_nextStop_47 hl (k := 0) rfl (nI_1 (i)) (by decide) rfl (fun ls hl => ?_)
          refine lv_goto (tgt := 3) hx hb dX0_nextStop_50 (by decide) ?_
          exact ih_3 (i + 1) _ (by omega) (by omega) (lv_sub hl [0, 1, 2, 3, 4] rfl)
        · skip
          refine lv_iload hx hb dX0_nextStop_44 (lv_at hl 0 rfl) ?_
          exact W.iret (v := nI (i)) hx hb hr (fun t ht hW => ⟨nI (i), rfl, (by first | exact ⟨i, rfl, (by first | assumption | omega | exact Or.inl (by first | assumption | omega) | exact Or.inr (by first | assumption | omega))⟩), ht⟩) (fun q h => by cases h) dX0_nextStop_46 hlk
set_option maxHeartbeats 4000000 in
set_option maxRecDepth 100000 in
theorem c_X0_stopOf (l : Launch) (D : va_G) (cI cJ cZ cS : ClassId) (ta : Nat) (sa sv : Nat → Nat) (sz : Nat) (h0 : Nat) (an : Nat) (Q : Nat) (La : Nat → Int32) (q1 : Nat) (be : Nat) (bl : Nat) (bu : Nat) (bo : Nat) (br : Nat) (bk : Nat) (bw : Nat) (btt : Nat) (bss : Nat) (P : Nat) (lo : Nat → Int32) (d : Nat → Int32) (j : Nat) (w : Nat) (z : Nat) (hQ : Q ≤ 10) (hj : j < 10) (hw9 : w < 10) (hz : z ≤ 10) : Met l yX0_stopOf (Cond.code yX0_stopOf cX0_stopOf 7 (some .int) :: wsU) ({ frames := 4, cells := 0, slots := 0, locals := 89 }) (va_Pc [.ref h0, .ref q1, .int (nI (j)), .int (nI (w)), .int (nI (z))] (XW D (xT cI cJ cZ cS) ta sa sv [(h0, .inr (0, [.int (nI (Q)), .ref an])), (an, .inl (cI, 100, .inl La)), (q1, .inr (1, [.int (nI (P)), .ref be, .ref bl, .ref bu, .ref bo, .ref br, .ref bk, .ref bw, .ref btt, .ref bss])), (bl, .inl (cI, 100, .inl lo)), (bo, .inl (cI, 100, .inl d))] sz)) (vp_Si (fun r : Int32 => (∃ (y : Nat), r = nI (y) ∧ (y < 10)))) 0 0 (fun _ => False) := by
  refine xh (QA := fun _ => vp_Si (fun r : Int32 => (∃ (y : Nat), r = nI (y) ∧ (y < 10)))) (fr := fun _ _ => False) (by decide) (Nat.le_of_ble_eq_true rfl) ?_
  intro p e s m below meth c ls A hF hr hlk hin hsz hP hK hD hN hZ hA hS hl
  have hF : CallFix p m c cX0_stopOf 7 s _ _ RX0 := hF
  have hx := hF.1
  have hb := hF.2.1
  have hml := hF.2.2.1
  have hown := hF.2.2.2.1
  have hu : ∀ w ∈ wsU, w.before _ s = true := fun w h => hF.2.2.2.2 w (List.mem_cons_of_mem _ h)
  have hl : lv_has ls 7 [(0, .ref h0), (1, .ref q1), (2, .int (nI (j))), (3, .int (nI (w))), (4, .int (nI (z)))] := hl
  refine lv_iload_n hx hb dX0_stopOf_0 rfl (lv_at hl 2 rfl) ?_
  refine lv_istore (lv' := [(5, .int (nI (j))), (0, .ref h0), (1, .ref q1), (2, .int (nI (j))), (3, .int (nI (w))), (4, .int (nI (z)))]) hx hb dX0_stopOf_1 hl (by decide) rfl (fun ls hl => ?_)
  refine lv_iconst (v := 0) hx hb dX0_stopOf_3 (by decide) ?_
  refine lv_istore (lv' := [(6, .int 0), (5, .int (nI (j))), (0, .ref h0), (1, .ref q1), (2, .int (nI (j))), (3, .int (nI (w))), (4, .int (nI (z)))]) hx hb dX0_stopOf_4 hl (by decide) rfl (fun ls hl => ?_)
  suffices loop_6 : ∀ (n_6 : Nat) (i : Nat) (y9 : Nat) (ls : Array Slot), z - i < n_6 → (i ≤ z) → (y9 < 10) → lv_has ls 7 [(6, .int (nI (i))), (5, .int (nI (y9))), (0, .ref h0), (1, .ref q1), (2, .int (nI (j))), (3, .int (nI (w))), (4, .int (nI (z)))] → W p l e ({ frames := 4, cells := 0, slots := 0, locals := 89 }) s m ([.ref h0, .ref q1, .int (nI (j)), .int (nI (w)), .int (nI (z))] : List Value).toArray below meth c s.heap [] 0 0 (MQ below (vp_Si (fun r : Int32 => (∃ (y : Nat), r = nI (y) ∧ (y < 10)))) ([.ref h0, .ref q1, .int (nI (j)), .int (nI (w)), .int (nI (z))] : List Value).toArray s 0 0 (fun _ => False)) (F0 m 6 ls []) by
    exact loop_6 _ 0 j _ (Nat.lt_succ_self _) (by omega) (by omega) (lv_sub hl [0, 1, 2, 3, 4, 5, 6] rfl)
  intro n_6
  induction n_6 with
  | zero =>
    intro i y9 ls hm_6
    exact absurd hm_6 (Nat.not_lt_zero _)
  | succ n_6 ih_6 =>
    intro i y9 ls hm_6 hi hy9 hl
    refine lv_iload hx hb dX0_stopOf_6 (lv_at hl 0 rfl) ?_
    refine lv_iload hx hb dX0_stopOf_8 (lv_at hl 6 rfl) ?_
    refine lv_icmp_ge (tgt := 29) hx hb dX0_stopOf_10 (by decide) (fun c_1 => ?_) (fun c_1 => ?_)
    · skip
      have nc_1 : z ≤ i := xn_le (a := z) (b := i) (by omega) (by omega) c_1
      refine lv_iload hx hb dX0_stopOf_29 (lv_at hl 1 rfl) ?_
      exact W.iret (v := nI (y9)) hx hb hr (fun t ht hW => ⟨nI (y9), rfl, (by first | exact ⟨y9, rfl, (by first | assumption | omega | exact Or.inl (by first | assumption | omega) | exact Or.inr (by first | assumption | omega))⟩), ht⟩) (fun q h => by cases h) dX0_stopOf_31 hlk
    · skip
      have nc_1 : i < z := xn_nle (a := z) (b := i) (by omega) (by omega) c_1
      refine lv_aload_n hx hb dX0_stopOf_13 rfl (lv_at hl 2 rfl) ?_
      refine lv_aload_n hx hb dX0_stopOf_14 rfl (lv_at hl 3 rfl) ?_
      refine lv_iload hx hb dX0_stopOf_15 (lv_at hl 1 rfl) ?_
      refine lv_iload_n hx hb dX0_stopOf_17 rfl (lv_at hl 5 rfl) ?_
      refine xc_Vr hF (c_X0_nextStop l D cI cJ cZ cS ta sa sv s.heap.size h0 an Q La q1 be bl bu bo br bk bw btt bss P lo d y9 w (by omega) (by omega) (by omega)) kv_X0_60 ⟨rfl, rfl, Nat.le_of_ble_eq_true rfl, Nat.le_of_ble_eq_true rfl⟩ ⟨Nat.le_of_ble_eq_true rfl, Nat.le_of_ble_eq_true rfl⟩ hK hN hZ hP hD hS hA [0, 1, 2, 3, 4] rfl rfl 0 rfl rfl rfl rfl hl.1 rfl (Nat.le_of_ble_eq_true rfl) dX0_stopOf_18 (fun r_2 hw_r_2 => ?_)
      obtain ⟨y_3, rfl, h_4⟩ := hw_r_2
      refine lv_istore (lv' := [(5, .int (nI (y_3))), (6, .int (nI (i))), (0, .ref h0), (1, .ref q1), (2, .int (nI (j))), (3, .int (nI (w))), (4, .int (nI (z)))]) hx hb dX0_stopOf_21 hl (by decide) rfl (fun ls hl => ?_)
      refine lv_iinc (v := nI (i + 1)) (lv' := [(6, .int (nI (i + 1))), (5, .int (nI (y_3))), (0, .ref h0), (1, .ref q1), (2, .int (nI (j))), (3, .int (nI (w))), (4, .int (nI (z)))]) hx hb dX0_stopOf_23 hl (k := 1) rfl (nI_1 (i)) (by decide) rfl (fun ls hl => ?_)
      refine lv_goto (tgt := 6) hx hb dX0_stopOf_26 (by decide) ?_
      exact ih_6 (i + 1) y_3 _ (by omega) (by omega) (by omega) (lv_sub hl [0, 1, 2, 3, 4, 5, 6] rfl)
set_option maxHeartbeats 4000000 in
set_option maxRecDepth 100000 in
theorem c_X0_tripOf (l : Launch) (D : va_G) (cI cJ cZ cS : ClassId) (ta : Nat) (sa sv : Nat → Nat) (sz : Nat) (h0 : Nat) (an : Nat) (Q : Nat) (La : Nat → Int32) (q1 : Nat) (be : Nat) (bl : Nat) (bu : Nat) (bo : Nat) (br : Nat) (bk : Nat) (bw : Nat) (btt : Nat) (bss : Nat) (P : Nat) (er : Nat → Int32) (j : Nat) (hQ : Q ≤ 10) (hj : j < 10) : Met l yX0_tripOf (Cond.code yX0_tripOf cX0_tripOf 6 (some .int) :: wsU) ({ frames := 2, cells := 0, slots := 0, locals := 45 }) (va_Pc [.ref h0, .ref q1, .int (nI (j))] (XW D (xT cI cJ cZ cS) ta sa sv [(h0, .inr (0, [.int (nI (Q)), .ref an])), (an, .inl (cI, 100, .inl La)), (q1, .inr (1, [.int (nI (P)), .ref be, .ref bl, .ref bu, .ref bo, .ref br, .ref bk, .ref bw, .ref btt, .ref bss])), (be, .inl (cI, 10, .inl er))] sz)) (vp_Si (fun r : Int32 => True)) 0 0 (fun _ => False) := by
  refine xh (QA := fun _ => vp_Si (fun r : Int32 => True)) (fr := fun _ _ => False) (by decide) (Nat.le_of_ble_eq_true rfl) ?_
  intro p e s m below meth c ls A hF hr hlk hin hsz hP hK hD hN hZ hA hS hl
  have hF : CallFix p m c cX0_tripOf 6 s _ _ RX0 := hF
  have hx := hF.1
  have hb := hF.2.1
  have hml := hF.2.2.1
  have hown := hF.2.2.2.1
  have hu : ∀ w ∈ wsU, w.before _ s = true := fun w h => hF.2.2.2.2 w (List.mem_cons_of_mem _ h)
  have hl : lv_has ls 6 [(0, .ref h0), (1, .ref q1), (2, .int (nI (j)))] := hl
  refine lv_iconst (v := 0) hx hb dX0_tripOf_0 (by decide) ?_
  refine lv_istore_n (lv' := [(3, .int 0), (0, .ref h0), (1, .ref q1), (2, .int (nI (j)))]) hx hb dX0_tripOf_1 rfl hl (by decide) rfl (fun ls hl => ?_)
  refine lv_iconst (v := 0) hx hb dX0_tripOf_2 (by decide) ?_
  refine lv_istore (lv' := [(4, .int 0), (3, .int 0), (0, .ref h0), (1, .ref q1), (2, .int (nI (j)))]) hx hb dX0_tripOf_3 hl (by decide) rfl (fun ls hl => ?_)
  suffices loop_5 : ∀ (n_5 : Nat) (i : Nat) (u : Int32) (ls : Array Slot), Q - i < n_5 → (i ≤ Q) → lv_has ls 6 [(4, .int (nI (i))), (3, .int u), (0, .ref h0), (1, .ref q1), (2, .int (nI (j)))] → W p l e ({ frames := 2, cells := 0, slots := 0, locals := 45 }) s m ([.ref h0, .ref q1, .int (nI (j))] : List Value).toArray below meth c s.heap [] 0 0 (MQ below (vp_Si (fun r : Int32 => True)) ([.ref h0, .ref q1, .int (nI (j))] : List Value).toArray s 0 0 (fun _ => False)) (F0 m 5 ls []) by
    exact loop_5 _ 0 0 _ (Nat.lt_succ_self _) (by omega) (lv_sub hl [0, 1, 2, 3, 4] rfl)
  intro n_5
  induction n_5 with
  | zero =>
    intro i u ls hm_5
    exact absurd hm_5 (Nat.not_lt_zero _)
  | succ n_5 ih_5 =>
    intro i u ls hm_5 hi hl
    refine lv_iload hx hb dX0_tripOf_5 (lv_at hl 0 rfl) ?_
    refine lv_aload_n hx hb dX0_tripOf_7 rfl (lv_at hl 2 rfl) ?_
    refine xg hF kf_X0_9 hK hP 0 rfl rfl dX0_tripOf_8 ?_
    refine lv_icmp_ge (tgt := 72) hx hb dX0_tripOf_11 (by decide) (fun c_1 => ?_) (fun c_1 => ?_)
    · skip
      have nc_1 : Q ≤ i := xn_le (a := Q) (b := i) (by omega) (by omega) c_1
      refine lv_iload_n hx hb dX0_tripOf_72 rfl (lv_at hl 1 rfl) ?_
      exact W.iret (v := u) hx hb hr (fun t ht hW => ⟨u, rfl, trivial, ht⟩) (fun q h => by cases h) dX0_tripOf_73 hlk
    · skip
      have nc_1 : i < Q := xn_nle (a := Q) (b := i) (by omega) (by omega) c_1
      refine lv_aload_n hx hb dX0_tripOf_14 rfl (lv_at hl 3 rfl) ?_
      refine xg hF kf_X0_63 hK hP 2 rfl rfl dX0_tripOf_15 ?_
      refine lv_iload hx hb dX0_tripOf_18 (lv_at hl 0 rfl) ?_
      refine va_iald hx hb hK hP 3 0 rfl rfl (vp_in_nI (show i < 10 by omega) (by decide)) dX0_tripOf_20 ?_
      refine xl_i (y := er i) (congrArg er (nI_clamp (show i < 2 ^ 31 by omega))) ?_
      refine lv_if_le (tgt := 66) hx hb dX0_tripOf_21 (by decide) (fun c_2 => ?_) (fun c_2 => ?_)
      · skip
        refine lv_iinc (v := nI (i + 1)) (lv' := [(4, .int (nI (i + 1))), (3, .int u), (0, .ref h0), (1, .ref q1), (2, .int (nI (j)))]) hx hb dX0_tripOf_66 hl (k := 0) rfl (nI_1 (i)) (by decide) rfl (fun ls hl => ?_)
        refine lv_goto (tgt := 5) hx hb dX0_tripOf_69 (by decide) ?_
        exact ih_5 (i + 1) u _ (by omega) (by omega) (lv_sub hl [0, 1, 2, 3, 4] rfl)
      · skip
        refine lv_aload_n hx hb dX0_tripOf_24 rfl (lv_at hl 2 rfl) ?_
        refine lv_iload_n hx hb dX0_tripOf_25 rfl (lv_at hl 4 rfl) ?_
        refine lv_iload hx hb dX0_tripOf_26 (lv_at hl 0 rfl) ?_
        refine xc_Vr hF (c_X0_farOf l D cI cJ cZ cS ta sa sv s.heap.size h0 an Q La j i (by omega) (by omega)) kv_X0_66 ⟨rfl, rfl, Nat.le_of_ble_eq_true rfl, Nat.le_of_ble_eq_true rfl⟩ ⟨Nat.le_of_ble_eq_true rfl, Nat.le_of_ble_eq_true rfl⟩ hK hN hZ hP hD hS hA [0, 1] rfl rfl 0 rfl rfl rfl rfl hl.1 rfl (Nat.le_of_ble_eq_true rfl) dX0_tripOf_28 (fun r_3 hw_r_3 => ?_)
        refine lv_aload_n hx hb dX0_tripOf_31 rfl (lv_at hl 2 rfl) ?_
        refine lv_iload hx hb dX0_tripOf_32 (lv_at hl 0 rfl) ?_
        refine lv_iload_n hx hb dX0_tripOf_34 rfl (lv_at hl 4 rfl) ?_
        refine xc_Vr hF (c_X0_farOf l D cI cJ cZ cS ta sa sv s.heap.size h0 an Q La i j (by omega) (by omega)) kv_X0_66 ⟨rfl, rfl, Nat.le_of_ble_eq_true rfl, Nat.le_of_ble_eq_true rfl⟩ ⟨Nat.le_of_ble_eq_true rfl, Nat.le_of_ble_eq_true rfl⟩ hK hN hZ hP hD hS hA [0, 1] rfl rfl 0 rfl rfl rfl rfl hl.1 rfl (Nat.le_of_ble_eq_true rfl) dX0_tripOf_35 (fun r_4 hw_r_4 => ?_)
        refine xc_SNr hF (c_X8_together l D cI cJ cZ cS ta sa sv s.heap.size r_3 r_4 ) kn_X0_42.1 kn_X0_42.2.1 kn_X0_42.2.2 ⟨rfl, rfl, Nat.le_of_ble_eq_true rfl, Nat.le_of_ble_eq_true rfl⟩ ⟨Nat.le_of_ble_eq_true rfl, Nat.le_of_ble_eq_true rfl⟩ hK hN hZ hP hD hS hA [] rfl rfl rfl hl.1 rfl (Nat.le_of_ble_eq_true rfl) dX0_tripOf_38 (fun r_5 hw_r_5 => ?_)
        refine lv_istore (lv' := [(5, .int r_5), (4, .int (nI (i))), (3, .int u), (0, .ref h0), (1, .ref q1), (2, .int (nI (j)))]) hx hb dX0_tripOf_41 hl (by decide) rfl (fun ls hl => ?_)
        refine lv_iload hx hb dX0_tripOf_43 (lv_at hl 0 rfl) ?_
        refine lv_ldc (v := 1000000000) hx hb hown (hu _ uw79) dX0_tripOf_45 ?_
        refine lv_icmp_ne (tgt := 53) hx hb dX0_tripOf_47 (by decide) (fun c_6 => ?_) (fun c_6 => ?_)
        · skip
          refine lv_iload_n hx hb dX0_tripOf_53 rfl (lv_at hl 2 rfl) ?_
          refine lv_aload_n hx hb dX0_tripOf_54 rfl (lv_at hl 4 rfl) ?_
          refine xg hF kf_X0_63 hK hP 2 rfl rfl dX0_tripOf_55 ?_
          refine lv_iload hx hb dX0_tripOf_58 (lv_at hl 1 rfl) ?_
          refine va_iald hx hb hK hP 3 0 rfl rfl (vp_in_nI (show i < 10 by omega) (by decide)) dX0_tripOf_60 ?_
          refine xl_i (y := er i) (congrArg er (nI_clamp (show i < 2 ^ 31 by omega))) ?_
          refine lv_iload hx hb dX0_tripOf_61 (lv_at hl 0 rfl) ?_
          refine lv_imul hx hb dX0_tripOf_63 ?_
          refine lv_topi (fun x_7 ex_7 => ?_)
          refine lv_iadd hx hb dX0_tripOf_64 ?_
          refine lv_topi (fun x_8 ex_8 => ?_)
          refine lv_istore_n (lv' := [(3, .int x_8), (5, .int r_5), (4, .int (nI (i))), (0, .ref h0), (1, .ref q1), (2, .int (nI (j)))]) hx hb dX0_tripOf_65 rfl hl (by decide) rfl (fun ls hl => ?_)
          refine lv_iinc (v := nI (i + 1)) (lv' := [(4, .int (nI (i + 1))), (3, .int x_8), (5, .int r_5), (0, .ref h0), (1, .ref q1), (2, .int (nI (j)))]) hx hb dX0_tripOf_66 hl (k := 2) rfl (nI_1 (i)) (by decide) rfl (fun ls hl => ?_)
          refine lv_goto (tgt := 5) hx hb dX0_tripOf_69 (by decide) ?_
          exact ih_5 (i + 1) x_8 _ (by omega) (by omega) (lv_sub hl [0, 1, 3, 4, 5] rfl)
        · skip
          refine lv_ldc (v := 1000000000) hx hb hown (hu _ uw79) dX0_tripOf_50 ?_
          exact W.iret (v := 1000000000) hx hb hr (fun t ht hW => ⟨1000000000, rfl, trivial, ht⟩) (fun q h => by cases h) dX0_tripOf_52 hlk
set_option maxHeartbeats 4000000 in
set_option maxRecDepth 100000 in
theorem c_X0_homeOf (l : Launch) (D : va_G) (cI cJ cZ cS : ClassId) (ta : Nat) (sa sv : Nat → Nat) (sz : Nat) (h0 : Nat) (an : Nat) (Q : Nat) (La : Nat → Int32) (q1 : Nat) (be : Nat) (bl : Nat) (bu : Nat) (bo : Nat) (br : Nat) (bk : Nat) (bw : Nat) (btt : Nat) (bss : Nat) (P : Nat) (er : Nat → Int32) (hQ : Q ≤ 10) : Met l yX0_homeOf (Cond.code yX0_homeOf cX0_homeOf 6 (some .int) :: wsU) ({ frames := 3, cells := 0, slots := 0, locals := 70 }) (va_Pc [.ref h0, .ref q1] (XW D (xT cI cJ cZ cS) ta sa sv [(h0, .inr (0, [.int (nI (Q)), .ref an])), (an, .inl (cI, 100, .inl La)), (q1, .inr (1, [.int (nI (P)), .ref be, .ref bl, .ref bu, .ref bo, .ref br, .ref bk, .ref bw, .ref btt, .ref bss])), (be, .inl (cI, 10, .inl er))] sz)) (vp_Si (fun r : Int32 => (r = (-1)) ∨ (∃ (y : Nat), r = nI (y) ∧ (y < Q)))) 0 0 (fun _ => False) := by
  refine xh (QA := fun _ => vp_Si (fun r : Int32 => (r = (-1)) ∨ (∃ (y : Nat), r = nI (y) ∧ (y < Q)))) (fr := fun _ _ => False) (by decide) (Nat.le_of_ble_eq_true rfl) ?_
  intro p e s m below meth c ls A hF hr hlk hin hsz hP hK hD hN hZ hA hS hl
  have hF : CallFix p m c cX0_homeOf 6 s _ _ RX0 := hF
  have hx := hF.1
  have hb := hF.2.1
  have hml := hF.2.2.1
  have hown := hF.2.2.2.1
  have hu : ∀ w ∈ wsU, w.before _ s = true := fun w h => hF.2.2.2.2 w (List.mem_cons_of_mem _ h)
  have hl : lv_has ls 6 [(0, .ref h0), (1, .ref q1)] := hl
  refine lv_iconst (v := (-1)) hx hb dX0_homeOf_0 (by decide) ?_
  refine lv_istore_n (lv' := [(2, .int (-1)), (0, .ref h0), (1, .ref q1)]) hx hb dX0_homeOf_1 rfl hl (by decide) rfl (fun ls hl => ?_)
  refine lv_ldc (v := 1000000000) hx hb hown (hu _ uw79) dX0_homeOf_2 ?_
  refine lv_istore_n (lv' := [(3, .int 1000000000), (2, .int (-1)), (0, .ref h0), (1, .ref q1)]) hx hb dX0_homeOf_4 rfl hl (by decide) rfl (fun ls hl => ?_)
  refine lv_iconst (v := 0) hx hb dX0_homeOf_5 (by decide) ?_
  refine lv_istore (lv' := [(4, .int 0), (3, .int 1000000000), (2, .int (-1)), (0, .ref h0), (1, .ref q1)]) hx hb dX0_homeOf_6 hl (by decide) rfl (fun ls hl => ?_)
  suffices loop_8 : ∀ (n_8 : Nat) (i : Nat) (x : Int32) (u : Int32) (ls : Array Slot), Q - i < n_8 → (i ≤ Q) → (x = -1 ∨ ∃ y, y < Q ∧ x = nI y) → lv_has ls 6 [(4, .int (nI (i))), (3, .int u), (2, .int x), (0, .ref h0), (1, .ref q1)] → W p l e ({ frames := 3, cells := 0, slots := 0, locals := 70 }) s m ([.ref h0, .ref q1] : List Value).toArray below meth c s.heap [] 0 0 (MQ below (vp_Si (fun r : Int32 => (r = (-1)) ∨ (∃ (y : Nat), r = nI (y) ∧ (y < Q)))) ([.ref h0, .ref q1] : List Value).toArray s 0 0 (fun _ => False)) (F0 m 8 ls []) by
    exact loop_8 _ 0 (-1) 1000000000 _ (Nat.lt_succ_self _) (by omega) (Or.inl rfl) (lv_sub hl [0, 1, 2, 3, 4] rfl)
  intro n_8
  induction n_8 with
  | zero =>
    intro i x u ls hm_8
    exact absurd hm_8 (Nat.not_lt_zero _)
  | succ n_8 ih_8 =>
    intro i x u ls hm_8 hi hx9 hl
    refine lv_iload hx hb dX0_homeOf_8 (lv_at hl 0 rfl) ?_
    refine lv_aload_n hx hb dX0_homeOf_10 rfl (lv_at hl 3 rfl) ?_
    refine xg hF kf_X0_9 hK hP 0 rfl rfl dX0_homeOf_11 ?_
    refine lv_icmp_ge (tgt := 44) hx hb dX0_homeOf_14 (by decide) (fun c_1 => ?_) (fun c_1 => ?_)
    · skip
      have nc_1 : Q ≤ i := xn_le (a := Q) (b := i) (by omega) (by omega) c_1
      refine lv_iload_n hx hb dX0_homeOf_44 rfl (lv_at hl 2 rfl) ?_
      exact W.iret (v := x) hx hb hr (fun t ht hW => ⟨x, rfl, (xoptp hx9), ht⟩) (fun q h => by cases h) dX0_homeOf_45 hlk
    · skip
      have nc_1 : i < Q := xn_nle (a := Q) (b := i) (by omega) (by omega) c_1
      refine lv_aload_n hx hb dX0_homeOf_17 rfl (lv_at hl 3 rfl) ?_
      refine lv_aload_n hx hb dX0_homeOf_18 rfl (lv_at hl 4 rfl) ?_
      refine lv_iload hx hb dX0_homeOf_19 (lv_at hl 0 rfl) ?_
      refine xc_Vr hF (c_X0_tripOf l D cI cJ cZ cS ta sa sv s.heap.size h0 an Q La q1 be bl bu bo br bk bw btt bss P er i (by omega) (by omega)) kv_X0_69 ⟨rfl, rfl, Nat.le_of_ble_eq_true rfl, Nat.le_of_ble_eq_true rfl⟩ ⟨Nat.le_of_ble_eq_true rfl, Nat.le_of_ble_eq_true rfl⟩ hK hN hZ hP hD hS hA [0, 1, 2, 3] rfl rfl 0 rfl rfl rfl rfl hl.1 rfl (Nat.le_of_ble_eq_true rfl) dX0_homeOf_21 (fun r_2 hw_r_2 => ?_)
      refine lv_istore (lv' := [(5, .int r_2), (4, .int (nI (i))), (3, .int u), (2, .int x), (0, .ref h0), (1, .ref q1)]) hx hb dX0_homeOf_24 hl (by decide) rfl (fun ls hl => ?_)
      refine lv_iload hx hb dX0_homeOf_26 (lv_at hl 0 rfl) ?_
      refine lv_iload_n hx hb dX0_homeOf_28 rfl (lv_at hl 2 rfl) ?_
      refine lv_icmp_ge (tgt := 38) hx hb dX0_homeOf_29 (by decide) (fun c_3 => ?_) (fun c_3 => ?_)
      · skip
        refine lv_iinc (v := nI (i + 1)) (lv' := [(4, .int (nI (i + 1))), (5, .int r_2), (3, .int u), (2, .int x), (0, .ref h0), (1, .ref q1)]) hx hb dX0_homeOf_38 hl (k := 1) rfl (nI_1 (i)) (by decide) rfl (fun ls hl => ?_)
        refine lv_goto (tgt := 8) hx hb dX0_homeOf_41 (by decide) ?_
        exact ih_8 (i + 1) x u _ (by omega) (by omega) hx9 (lv_sub hl [0, 2, 3, 4, 5] rfl)
      · skip
        refine lv_iload hx hb dX0_homeOf_32 (lv_at hl 1 rfl) ?_
        refine lv_istore_n (lv' := [(2, .int (nI (i))), (5, .int r_2), (4, .int (nI (i))), (3, .int u), (0, .ref h0), (1, .ref q1)]) hx hb dX0_homeOf_34 rfl hl (by decide) rfl (fun ls hl => ?_)
        refine lv_iload hx hb dX0_homeOf_35 (lv_at hl 1 rfl) ?_
        refine lv_istore_n (lv' := [(3, .int r_2), (2, .int (nI (i))), (5, .int r_2), (4, .int (nI (i))), (0, .ref h0), (1, .ref q1)]) hx hb dX0_homeOf_37 rfl hl (by decide) rfl (fun ls hl => ?_)
        refine lv_iinc (v := nI (i + 1)) (lv' := [(4, .int (nI (i + 1))), (3, .int r_2), (2, .int (nI (i))), (5, .int r_2), (0, .ref h0), (1, .ref q1)]) hx hb dX0_homeOf_38 hl (k := 3) rfl (nI_1 (i)) (by decide) rfl (fun ls hl => ?_)
        refine lv_goto (tgt := 8) hx hb dX0_homeOf_41 (by decide) ?_
        exact ih_8 (i + 1) (nI (i)) r_2 _ (by omega) (by omega) (Or.inr ⟨(i), by omega, rfl⟩) (lv_sub hl [0, 1, 2, 4, 5] rfl)
set_option maxHeartbeats 4000000 in
set_option maxRecDepth 100000 in
theorem c_X0_leastTrip (l : Launch) (D : va_G) (cI cJ cZ cS : ClassId) (ta : Nat) (sa sv : Nat → Nat) (sz : Nat) (h0 : Nat) (an : Nat) (Q : Nat) (La : Nat → Int32) (q1 : Nat) (be : Nat) (bl : Nat) (bu : Nat) (bo : Nat) (br : Nat) (bk : Nat) (bw : Nat) (btt : Nat) (bss : Nat) (P : Nat) (er : Nat → Int32) (hQ : Q ≤ 10) : Met l yX0_leastTrip (Cond.code yX0_leastTrip cX0_leastTrip 3 (some .int) :: wsU) ({ frames := 4, cells := 0, slots := 0, locals := 95 }) (va_Pc [.ref h0, .ref q1] (XW D (xT cI cJ cZ cS) ta sa sv [(h0, .inr (0, [.int (nI (Q)), .ref an])), (an, .inl (cI, 100, .inl La)), (q1, .inr (1, [.int (nI (P)), .ref be, .ref bl, .ref bu, .ref bo, .ref br, .ref bk, .ref bw, .ref btt, .ref bss])), (be, .inl (cI, 10, .inl er))] sz)) (vp_Si (fun r : Int32 => True)) 0 0 (fun _ => False) := by
  refine xh (QA := fun _ => vp_Si (fun r : Int32 => True)) (fr := fun _ _ => False) (by decide) (Nat.le_of_ble_eq_true rfl) ?_
  intro p e s m below meth c ls A hF hr hlk hin hsz hP hK hD hN hZ hA hS hl
  have hF : CallFix p m c cX0_leastTrip 3 s _ _ RX0 := hF
  have hx := hF.1
  have hb := hF.2.1
  have hml := hF.2.2.1
  have hown := hF.2.2.2.1
  have hu : ∀ w ∈ wsU, w.before _ s = true := fun w h => hF.2.2.2.2 w (List.mem_cons_of_mem _ h)
  have hl : lv_has ls 3 [(0, .ref h0), (1, .ref q1)] := hl
  refine lv_aload_n hx hb dX0_leastTrip_0 rfl (lv_at hl 0 rfl) ?_
  refine lv_aload_n hx hb dX0_leastTrip_1 rfl (lv_at hl 1 rfl) ?_
  refine xc_Vr hF (c_X0_homeOf l D cI cJ cZ cS ta sa sv s.heap.size h0 an Q La q1 be bl bu bo br bk bw btt bss P er (by omega)) kv_X0_73 ⟨rfl, rfl, Nat.le_of_ble_eq_true rfl, Nat.le_of_ble_eq_true rfl⟩ ⟨Nat.le_of_ble_eq_true rfl, Nat.le_of_ble_eq_true rfl⟩ hK hN hZ hP hD hS hA [0, 1, 2, 3] rfl rfl 0 rfl rfl rfl rfl hl.1 rfl (Nat.le_of_ble_eq_true rfl) dX0_leastTrip_2 (fun r_1 hw_r_1 => ?_)
  rcases hw_r_1 with rfl | ⟨y_2, rfl, h_3⟩
  · skip
    refine lv_istore_n (lv' := [(2, .int (-1)), (0, .ref h0), (1, .ref q1)]) hx hb dX0_leastTrip_5 rfl hl (by decide) rfl (fun ls hl => ?_)
    refine lv_iload_n hx hb dX0_leastTrip_6 rfl (lv_at hl 0 rfl) ?_
    refine lv_if_ge (tgt := 15) hx hb dX0_leastTrip_7 (by decide) (fun c_4 => absurd c_4 (by decide)) (fun c_4 => ?_)
    refine lv_ldc (v := 1000000000) hx hb hown (hu _ uw79) dX0_leastTrip_10 ?_
    refine lv_goto (tgt := 21) hx hb dX0_leastTrip_12 (by decide) ?_
    exact W.iret (v := 1000000000) hx hb hr (fun t ht hW => ⟨1000000000, rfl, trivial, ht⟩) (fun q h => by cases h) dX0_leastTrip_21 hlk
  · skip
    refine lv_istore_n (lv' := [(2, .int (nI (y_2))), (0, .ref h0), (1, .ref q1)]) hx hb dX0_leastTrip_5 rfl hl (by decide) rfl (fun ls hl => ?_)
    refine lv_iload_n hx hb dX0_leastTrip_6 rfl (lv_at hl 0 rfl) ?_
    refine lv_if_ge (tgt := 15) hx hb dX0_leastTrip_7 (by decide) (fun c_5 => ?_) (fun c_5 => by have nc_5 : y_2 < 0 := xn_nle (a := 0) (b := y_2) (by omega) (by omega) c_5; omega)
    have nc_5 : 0 ≤ y_2 := xn_le (a := 0) (b := y_2) (by omega) (by omega) c_5
    refine lv_aload_n hx hb dX0_leastTrip_15 rfl (lv_at hl 1 rfl) ?_
    refine lv_aload_n hx hb dX0_leastTrip_16 rfl (lv_at hl 2 rfl) ?_
    refine lv_iload_n hx hb dX0_leastTrip_17 rfl (lv_at hl 0 rfl) ?_
    refine xc_Vr hF (c_X0_tripOf l D cI cJ cZ cS ta sa sv s.heap.size h0 an Q La q1 be bl bu bo br bk bw btt bss P er y_2 (by omega) (by omega)) kv_X0_69 ⟨rfl, rfl, Nat.le_of_ble_eq_true rfl, Nat.le_of_ble_eq_true rfl⟩ ⟨Nat.le_of_ble_eq_true rfl, Nat.le_of_ble_eq_true rfl⟩ hK hN hZ hP hD hS hA [0, 1, 2, 3] rfl rfl 0 rfl rfl rfl rfl hl.1 rfl (Nat.le_of_ble_eq_true rfl) dX0_leastTrip_18 (fun r_6 hw_r_6 => ?_)
    exact W.iret (v := r_6) hx hb hr (fun t ht hW => ⟨r_6, rfl, trivial, ht⟩) (fun q h => by cases h) dX0_leastTrip_21 hlk
set_option maxHeartbeats 4000000 in
set_option maxRecDepth 100000 in
theorem c_X0_priceOf (l : Launch) (D : va_G) (cI cJ cZ cS : ClassId) (ta : Nat) (sa sv : Nat → Nat) (sz : Nat) (h0 : Nat) (an : Nat) (Q : Nat) (La : Nat → Int32) (j : Nat) (k : Nat) (w : Nat) (p0 : Int32) (hj : j < 10) (hk : k < 10) (hw9 : w < 10) : Met l yX0_priceOf (Cond.code yX0_priceOf cX0_priceOf 8 (some .int) :: wsU) ({ frames := 2, cells := 0, slots := 0, locals := 45 }) (va_Pc [.ref h0, .int (nI (j)), .int (nI (k)), .int (nI (w)), .int p0] (XW D (xT cI cJ cZ cS) ta sa sv [(h0, .inr (0, [.int (nI (Q)), .ref an])), (an, .inl (cI, 100, .inl La))] sz)) (vp_Si (fun r : Int32 => True)) 0 0 (fun _ => False) := by
  refine xh (QA := fun _ => vp_Si (fun r : Int32 => True)) (fr := fun _ _ => False) (by decide) (Nat.le_of_ble_eq_true rfl) ?_
  intro p e s m below meth c ls A hF hr hlk hin hsz hP hK hD hN hZ hA hS hl
  have hF : CallFix p m c cX0_priceOf 8 s _ _ RX0 := hF
  have hx := hF.1
  have hb := hF.2.1
  have hml := hF.2.2.1
  have hown := hF.2.2.2.1
  have hu : ∀ w ∈ wsU, w.before _ s = true := fun w h => hF.2.2.2.2 w (List.mem_cons_of_mem _ h)
  have hl : lv_has ls 8 [(0, .ref h0), (1, .int (nI (j))), (2, .int (nI (k))), (3, .int (nI (w))), (4, .int p0)] := hl
  refine lv_aload_n hx hb dX0_priceOf_0 rfl (lv_at hl 0 rfl) ?_
  refine lv_iload_n hx hb dX0_priceOf_1 rfl (lv_at hl 1 rfl) ?_
  refine lv_iload_n hx hb dX0_priceOf_2 rfl (lv_at hl 3 rfl) ?_
  refine xc_Vr hF (c_X0_farOf l D cI cJ cZ cS ta sa sv s.heap.size h0 an Q La j w (by omega) (by omega)) kv_X0_66 ⟨rfl, rfl, Nat.le_of_ble_eq_true rfl, Nat.le_of_ble_eq_true rfl⟩ ⟨Nat.le_of_ble_eq_true rfl, Nat.le_of_ble_eq_true rfl⟩ hK hN hZ hP hD hS hA [0, 1] rfl rfl 0 rfl rfl rfl rfl hl.1 rfl (Nat.le_of_ble_eq_true rfl) dX0_priceOf_3 (fun r_1 hw_r_1 => ?_)
  refine lv_istore (lv' := [(5, .int r_1), (0, .ref h0), (1, .int (nI (j))), (2, .int (nI (k))), (3, .int (nI (w))), (4, .int p0)]) hx hb dX0_priceOf_6 hl (by decide) rfl (fun ls hl => ?_)
  refine lv_aload_n hx hb dX0_priceOf_8 rfl (lv_at hl 1 rfl) ?_
  refine lv_iload_n hx hb dX0_priceOf_9 rfl (lv_at hl 3 rfl) ?_
  refine lv_iload_n hx hb dX0_priceOf_10 rfl (lv_at hl 4 rfl) ?_
  refine xc_Vr hF (c_X0_farOf l D cI cJ cZ cS ta sa sv s.heap.size h0 an Q La k w (by omega) (by omega)) kv_X0_66 ⟨rfl, rfl, Nat.le_of_ble_eq_true rfl, Nat.le_of_ble_eq_true rfl⟩ ⟨Nat.le_of_ble_eq_true rfl, Nat.le_of_ble_eq_true rfl⟩ hK hN hZ hP hD hS hA [0, 1] rfl rfl 0 rfl rfl rfl rfl hl.1 rfl (Nat.le_of_ble_eq_true rfl) dX0_priceOf_11 (fun r_2 hw_r_2 => ?_)
  refine lv_istore (lv' := [(6, .int r_2), (5, .int r_1), (0, .ref h0), (1, .int (nI (j))), (2, .int (nI (k))), (3, .int (nI (w))), (4, .int p0)]) hx hb dX0_priceOf_14 hl (by decide) rfl (fun ls hl => ?_)
  refine lv_iload hx hb dX0_priceOf_16 (lv_at hl 6 rfl) ?_
  refine lv_iconst (v := 1) hx hb dX0_priceOf_18 (by decide) ?_
  refine lv_icmp_ne (tgt := 30) hx hb dX0_priceOf_19 (by decide) (fun c_3 => ?_) (fun c_3 => ?_)
  · skip
    refine lv_iload hx hb dX0_priceOf_30 (lv_at hl 1 rfl) ?_
    refine lv_iload hx hb dX0_priceOf_32 (lv_at hl 0 rfl) ?_
    refine xc_SNr hF (c_X8_together l D cI cJ cZ cS ta sa sv s.heap.size r_1 r_2 ) kn_X0_42.1 kn_X0_42.2.1 kn_X0_42.2.2 ⟨rfl, rfl, Nat.le_of_ble_eq_true rfl, Nat.le_of_ble_eq_true rfl⟩ ⟨Nat.le_of_ble_eq_true rfl, Nat.le_of_ble_eq_true rfl⟩ hK hN hZ hP hD hS hA [] rfl rfl rfl hl.1 rfl (Nat.le_of_ble_eq_true rfl) dX0_priceOf_34 (fun r_4 hw_r_4 => ?_)
    refine lv_istore (lv' := [(7, .int r_4), (6, .int r_2), (5, .int r_1), (0, .ref h0), (1, .int (nI (j))), (2, .int (nI (k))), (3, .int (nI (w))), (4, .int p0)]) hx hb dX0_priceOf_37 hl (by decide) rfl (fun ls hl => ?_)
    refine lv_iload hx hb dX0_priceOf_39 (lv_at hl 7 rfl) ?_
    refine lv_if_ne (tgt := 49) hx hb dX0_priceOf_41 (by decide) (fun c_5 => ?_) (fun c_5 => ?_)
    · skip
      refine lv_iload hx hb dX0_priceOf_49 (lv_at hl 0 rfl) ?_
      refine lv_aload_n hx hb dX0_priceOf_51 rfl (lv_at hl 3 rfl) ?_
      refine lv_iload_n hx hb dX0_priceOf_52 rfl (lv_at hl 6 rfl) ?_
      refine lv_iload_n hx hb dX0_priceOf_53 rfl (lv_at hl 4 rfl) ?_
      refine xc_Vr hF (c_X0_farOf l D cI cJ cZ cS ta sa sv s.heap.size h0 an Q La w j (by omega) (by omega)) kv_X0_66 ⟨rfl, rfl, Nat.le_of_ble_eq_true rfl, Nat.le_of_ble_eq_true rfl⟩ ⟨Nat.le_of_ble_eq_true rfl, Nat.le_of_ble_eq_true rfl⟩ hK hN hZ hP hD hS hA [0, 1] rfl rfl 0 rfl rfl rfl rfl hl.1 rfl (Nat.le_of_ble_eq_true rfl) dX0_priceOf_54 (fun r_6 hw_r_6 => ?_)
      refine lv_aload_n hx hb dX0_priceOf_57 rfl (lv_at hl 3 rfl) ?_
      refine lv_iload_n hx hb dX0_priceOf_58 rfl (lv_at hl 6 rfl) ?_
      refine lv_iload_n hx hb dX0_priceOf_59 rfl (lv_at hl 5 rfl) ?_
      refine xc_Vr hF (c_X0_farOf l D cI cJ cZ cS ta sa sv s.heap.size h0 an Q La w k (by omega) (by omega)) kv_X0_66 ⟨rfl, rfl, Nat.le_of_ble_eq_true rfl, Nat.le_of_ble_eq_true rfl⟩ ⟨Nat.le_of_ble_eq_true rfl, Nat.le_of_ble_eq_true rfl⟩ hK hN hZ hP hD hS hA [0, 1] rfl rfl 0 rfl rfl rfl rfl hl.1 rfl (Nat.le_of_ble_eq_true rfl) dX0_priceOf_60 (fun r_7 hw_r_7 => ?_)
      refine xc_SNr hF (c_X8_together l D cI cJ cZ cS ta sa sv s.heap.size r_6 r_7 ) kn_X0_42.1 kn_X0_42.2.1 kn_X0_42.2.2 ⟨rfl, rfl, Nat.le_of_ble_eq_true rfl, Nat.le_of_ble_eq_true rfl⟩ ⟨Nat.le_of_ble_eq_true rfl, Nat.le_of_ble_eq_true rfl⟩ hK hN hZ hP hD hS hA [] rfl rfl rfl hl.1 rfl (Nat.le_of_ble_eq_true rfl) dX0_priceOf_63 (fun r_8 hw_r_8 => ?_)
      refine xc_SNr hF (c_X8_together l D cI cJ cZ cS ta sa sv s.heap.size r_4 r_8 ) kn_X0_42.1 kn_X0_42.2.1 kn_X0_42.2.2 ⟨rfl, rfl, Nat.le_of_ble_eq_true rfl, Nat.le_of_ble_eq_true rfl⟩ ⟨Nat.le_of_ble_eq_true rfl, Nat.le_of_ble_eq_true rfl⟩ hK hN hZ hP hD hS hA [] rfl rfl rfl hl.1 rfl (Nat.le_of_ble_eq_true rfl) dX0_priceOf_66 (fun r_9 hw_r_9 => ?_)
      exact W.iret (v := r_9) hx hb hr (fun t ht hW => ⟨r_9, rfl, trivial, ht⟩) (fun q h => by cases h) dX0_priceOf_69 hlk
    · skip
      refine lv_iload hx hb dX0_priceOf_44 (lv_at hl 0 rfl) ?_
      refine lv_goto (tgt := 69) hx hb dX0_priceOf_46 (by decide) ?_
      exact W.iret (v := r_4) hx hb hr (fun t ht hW => ⟨r_4, rfl, trivial, ht⟩) (fun q h => by cases h) dX0_priceOf_69 hlk
  · skip
    refine lv_iload hx hb dX0_priceOf_22 (lv_at hl 1 rfl) ?_
    refine lv_iload hx hb dX0_priceOf_24 (lv_at hl 0 rfl) ?_
    refine va_mmax hx hb (hml.trans hl.1.symm) hown (hu _ uw90) (hu _ uw91) (hu _ uw92) (hu _ uw93) (Nat.le_of_ble_eq_true rfl) (Nat.le_of_ble_eq_true rfl) (Nat.le_of_ble_eq_true rfl) (Nat.le_of_ble_eq_true rfl) dX0_priceOf_26 ?_
    refine lv_topi (fun x_10 ex_10 => ?_)
    exact W.iret (v := x_10) hx hb hr (fun t ht hW => ⟨x_10, rfl, trivial, ht⟩) (fun q h => by cases h) dX0_priceOf_29 hlk
set_option maxHeartbeats 4000000 in
set_option maxRecDepth 100000 in
theorem c_X0_meetingOf (l : Launch) (D : va_G) (cI cJ cZ cS : ClassId) (ta : Nat) (sa sv : Nat → Nat) (sz : Nat) (h0 : Nat) (an : Nat) (Q : Nat) (La : Nat → Int32) (j : Nat) (k : Nat) (p0 : Int32) (hQ : Q ≤ 10) (hj : j < 10) (hk : k < 10) : Met l yX0_meetingOf (Cond.code yX0_meetingOf cX0_meetingOf 8 (some .int) :: wsU) ({ frames := 3, cells := 0, slots := 0, locals := 72 }) (va_Pc [.ref h0, .int (nI (j)), .int (nI (k)), .int p0] (XW D (xT cI cJ cZ cS) ta sa sv [(h0, .inr (0, [.int (nI (Q)), .ref an])), (an, .inl (cI, 100, .inl La))] sz)) (vp_Si (fun r : Int32 => (r = (-1)) ∨ (∃ (y : Nat), r = nI (y) ∧ (y < Q)))) 0 0 (fun _ => False) := by
  refine xh (QA := fun _ => vp_Si (fun r : Int32 => (r = (-1)) ∨ (∃ (y : Nat), r = nI (y) ∧ (y < Q)))) (fr := fun _ _ => False) (by decide) (Nat.le_of_ble_eq_true rfl) ?_
  intro p e s m below meth c ls A hF hr hlk hin hsz hP hK hD hN hZ hA hS hl
  have hF : CallFix p m c cX0_meetingOf 8 s _ _ RX0 := hF
  have hx := hF.1
  have hb := hF.2.1
  have hml := hF.2.2.1
  have hown := hF.2.2.2.1
  have hu : ∀ w ∈ wsU, w.before _ s = true := fun w h => hF.2.2.2.2 w (List.mem_cons_of_mem _ h)
  have hl : lv_has ls 8 [(0, .ref h0), (1, .int (nI (j))), (2, .int (nI (k))), (3, .int p0)] := hl
  refine lv_iconst (v := (-1)) hx hb dX0_meetingOf_0 (by decide) ?_
  refine lv_istore (lv' := [(4, .int (-1)), (0, .ref h0), (1, .int (nI (j))), (2, .int (nI (k))), (3, .int p0)]) hx hb dX0_meetingOf_1 hl (by decide) rfl (fun ls hl => ?_)
  refine lv_ldc (v := 1000000000) hx hb hown (hu _ uw79) dX0_meetingOf_3 ?_
  refine lv_istore (lv' := [(5, .int 1000000000), (4, .int (-1)), (0, .ref h0), (1, .int (nI (j))), (2, .int (nI (k))), (3, .int p0)]) hx hb dX0_meetingOf_5 hl (by decide) rfl (fun ls hl => ?_)
  refine lv_iconst (v := 0) hx hb dX0_meetingOf_7 (by decide) ?_
  refine lv_istore (lv' := [(6, .int 0), (5, .int 1000000000), (4, .int (-1)), (0, .ref h0), (1, .int (nI (j))), (2, .int (nI (k))), (3, .int p0)]) hx hb dX0_meetingOf_8 hl (by decide) rfl (fun ls hl => ?_)
  suffices loop_10 : ∀ (n_10 : Nat) (i : Nat) (x : Int32) (u : Int32) (ls : Array Slot), Q - i < n_10 → (i ≤ Q) → (x = -1 ∨ ∃ y, y < Q ∧ x = nI y) → lv_has ls 8 [(6, .int (nI (i))), (5, .int u), (4, .int x), (0, .ref h0), (1, .int (nI (j))), (2, .int (nI (k))), (3, .int p0)] → W p l e ({ frames := 3, cells := 0, slots := 0, locals := 72 }) s m ([.ref h0, .int (nI (j)), .int (nI (k)), .int p0] : List Value).toArray below meth c s.heap [] 0 0 (MQ below (vp_Si (fun r : Int32 => (r = (-1)) ∨ (∃ (y : Nat), r = nI (y) ∧ (y < Q)))) ([.ref h0, .int (nI (j)), .int (nI (k)), .int p0] : List Value).toArray s 0 0 (fun _ => False)) (F0 m 10 ls []) by
    exact loop_10 _ 0 (-1) 1000000000 _ (Nat.lt_succ_self _) (by omega) (Or.inl rfl) (lv_sub hl [0, 1, 2, 3, 4, 5, 6] rfl)
  intro n_10
  induction n_10 with
  | zero =>
    intro i x u ls hm_10
    exact absurd hm_10 (Nat.not_lt_zero _)
  | succ n_10 ih_10 =>
    intro i x u ls hm_10 hi hx9 hl
    refine lv_iload hx hb dX0_meetingOf_10 (lv_at hl 0 rfl) ?_
    refine lv_aload_n hx hb dX0_meetingOf_12 rfl (lv_at hl 3 rfl) ?_
    refine xg hF kf_X0_9 hK hP 0 rfl rfl dX0_meetingOf_13 ?_
    refine lv_icmp_ge (tgt := 51) hx hb dX0_meetingOf_16 (by decide) (fun c_1 => ?_) (fun c_1 => ?_)
    · skip
      have nc_1 : Q ≤ i := xn_le (a := Q) (b := i) (by omega) (by omega) c_1
      refine lv_iload hx hb dX0_meetingOf_51 (lv_at hl 2 rfl) ?_
      exact W.iret (v := x) hx hb hr (fun t ht hW => ⟨x, rfl, (xoptp hx9), ht⟩) (fun q h => by cases h) dX0_meetingOf_53 hlk
    · skip
      have nc_1 : i < Q := xn_nle (a := Q) (b := i) (by omega) (by omega) c_1
      refine lv_aload_n hx hb dX0_meetingOf_19 rfl (lv_at hl 3 rfl) ?_
      refine lv_iload_n hx hb dX0_meetingOf_20 rfl (lv_at hl 4 rfl) ?_
      refine lv_iload_n hx hb dX0_meetingOf_21 rfl (lv_at hl 5 rfl) ?_
      refine lv_iload hx hb dX0_meetingOf_22 (lv_at hl 0 rfl) ?_
      refine lv_iload_n hx hb dX0_meetingOf_24 rfl (lv_at hl 6 rfl) ?_
      refine xc_Vr hF (c_X0_priceOf l D cI cJ cZ cS ta sa sv s.heap.size h0 an Q La j k i p0 (by omega) (by omega) (by omega)) kv_X0_77 ⟨rfl, rfl, Nat.le_of_ble_eq_true rfl, Nat.le_of_ble_eq_true rfl⟩ ⟨Nat.le_of_ble_eq_true rfl, Nat.le_of_ble_eq_true rfl⟩ hK hN hZ hP hD hS hA [0, 1] rfl rfl 0 rfl rfl rfl rfl hl.1 rfl (Nat.le_of_ble_eq_true rfl) dX0_meetingOf_25 (fun r_2 hw_r_2 => ?_)
      refine lv_istore (lv' := [(7, .int r_2), (6, .int (nI (i))), (5, .int u), (4, .int x), (0, .ref h0), (1, .int (nI (j))), (2, .int (nI (k))), (3, .int p0)]) hx hb dX0_meetingOf_28 hl (by decide) rfl (fun ls hl => ?_)
      refine lv_iload hx hb dX0_meetingOf_30 (lv_at hl 0 rfl) ?_
      refine lv_iload hx hb dX0_meetingOf_32 (lv_at hl 2 rfl) ?_
      refine lv_icmp_ge (tgt := 45) hx hb dX0_meetingOf_34 (by decide) (fun c_3 => ?_) (fun c_3 => ?_)
      · skip
        refine lv_iinc (v := nI (i + 1)) (lv' := [(6, .int (nI (i + 1))), (7, .int r_2), (5, .int u), (4, .int x), (0, .ref h0), (1, .int (nI (j))), (2, .int (nI (k))), (3, .int p0)]) hx hb dX0_meetingOf_45 hl (k := 1) rfl (nI_1 (i)) (by decide) rfl (fun ls hl => ?_)
        refine lv_goto (tgt := 10) hx hb dX0_meetingOf_48 (by decide) ?_
        exact ih_10 (i + 1) x u _ (by omega) (by omega) hx9 (lv_sub hl [0, 2, 3, 4, 5, 6, 7] rfl)
      · skip
        refine lv_iload hx hb dX0_meetingOf_37 (lv_at hl 1 rfl) ?_
        refine lv_istore (lv' := [(4, .int (nI (i))), (7, .int r_2), (6, .int (nI (i))), (5, .int u), (0, .ref h0), (1, .int (nI (j))), (2, .int (nI (k))), (3, .int p0)]) hx hb dX0_meetingOf_39 hl (by decide) rfl (fun ls hl => ?_)
        refine lv_iload hx hb dX0_meetingOf_41 (lv_at hl 1 rfl) ?_
        refine lv_istore (lv' := [(5, .int r_2), (4, .int (nI (i))), (7, .int r_2), (6, .int (nI (i))), (0, .ref h0), (1, .int (nI (j))), (2, .int (nI (k))), (3, .int p0)]) hx hb dX0_meetingOf_43 hl (by decide) rfl (fun ls hl => ?_)
        refine lv_iinc (v := nI (i + 1)) (lv' := [(6, .int (nI (i + 1))), (5, .int r_2), (4, .int (nI (i))), (7, .int r_2), (0, .ref h0), (1, .int (nI (j))), (2, .int (nI (k))), (3, .int p0)]) hx hb dX0_meetingOf_45 hl (k := 3) rfl (nI_1 (i)) (by decide) rfl (fun ls hl => ?_)
        refine lv_goto (tgt := 10) hx hb dX0_meetingOf_48 (by decide) ?_
        exact ih_10 (i + 1) (nI (i)) r_2 _ (by omega) (by omega) (Or.inr ⟨(i), by omega, rfl⟩) (lv_sub hl [0, 1, 2, 4, 5, 6, 7] rfl)
set_option maxHeartbeats 4000000 in
set_option maxRecDepth 100000 in
theorem c_X0_mendFrom (l : Launch) (D : va_G) (cI cJ cZ cS : ClassId) (ta : Nat) (sa sv : Nat → Nat) (sz : Nat) (h0 : Nat) (an : Nat) (Q : Nat) (La : Nat → Int32) (q2 : Nat) (cn : Nat) (Q2 : Nat) (Lc : Nat → Int32) (q1 : Nat) (be : Nat) (bl : Nat) (bu : Nat) (bo : Nat) (br : Nat) (bk : Nat) (bw : Nat) (btt : Nat) (bss : Nat) (P : Nat) (lo : Nat → Int32) (d : Nat → Int32) (j : Nat) (k : Nat) (hj : j < 10) (hk : k < 10) (hQ2 : Q2 ≤ 10) : Met l yX0_mendFrom (Cond.code yX0_mendFrom cX0_mendFrom 13 (some .boolean) :: wsU) ({ frames := 3, cells := 0, slots := 0, locals := 65 }) (va_Pc [.ref h0, .ref q2, .ref q1, .int (nI (j)), .int (nI (k))] (XW D (xT cI cJ cZ cS) ta sa sv [(h0, .inr (0, [.int (nI (Q)), .ref an])), (an, .inl (cI, 100, .inl La)), (q2, .inr (0, [.int (nI (Q2)), .ref cn])), (cn, .inl (cI, 100, .inl Lc)), (q1, .inr (1, [.int (nI (P)), .ref be, .ref bl, .ref bu, .ref bo, .ref br, .ref bk, .ref bw, .ref btt, .ref bss])), (bl, .inl (cI, 100, .inl lo)), (bo, .inl (cI, 100, .inl d))] sz)) (XQi (fun (r : Int32) (u : Nat × (Nat → Int32)) => match u with | (Q9, L2) => ((r = 1 ∧ (Q9 = Q2)) ∨ (r = 0 ∧ (Q9 = Q)))) D (fun (u : Nat × (Nat → Int32)) => match u with | (Q9, L2) => [(h0, .inr (0, [.int (nI (Q9)), .ref an])), (an, .inl (cI, 100, .inl L2)), (q2, .inr (0, [.int (nI (Q2)), .ref cn])), (cn, .inl (cI, 100, .inl Lc)), (q1, .inr (1, [.int (nI (P)), .ref be, .ref bl, .ref bu, .ref bo, .ref br, .ref bk, .ref bw, .ref btt, .ref bss])), (bl, .inl (cI, 100, .inl lo)), (bo, .inl (cI, 100, .inl d))]) (va_A [(h0, .inr (0, [.int (nI (Q)), .ref an])), (an, .inl (cI, 100, .inl La)), (q2, .inr (0, [.int (nI (Q2)), .ref cn])), (cn, .inl (cI, 100, .inl Lc)), (q1, .inr (1, [.int (nI (P)), .ref be, .ref bl, .ref bu, .ref bo, .ref br, .ref bk, .ref bw, .ref btt, .ref bss])), (bl, .inl (cI, 100, .inl lo)), (bo, .inl (cI, 100, .inl d))] sz)) 0 0 (va_A [(h0, .inr (0, [.int (nI (Q)), .ref an])), (an, .inl (cI, 100, .inl La)), (q2, .inr (0, [.int (nI (Q2)), .ref cn])), (cn, .inl (cI, 100, .inl Lc)), (q1, .inr (1, [.int (nI (P)), .ref be, .ref bl, .ref bu, .ref bo, .ref br, .ref bk, .ref bw, .ref btt, .ref bss])), (bl, .inl (cI, 100, .inl lo)), (bo, .inl (cI, 100, .inl d))] sz) := by
  refine xh (QA := fun A => XQi (fun (r : Int32) (u : Nat × (Nat → Int32)) => match u with | (Q9, L2) => ((r = 1 ∧ (Q9 = Q2)) ∨ (r = 0 ∧ (Q9 = Q)))) D (fun (u : Nat × (Nat → Int32)) => match u with | (Q9, L2) => [(h0, .inr (0, [.int (nI (Q9)), .ref an])), (an, .inl (cI, 100, .inl L2)), (q2, .inr (0, [.int (nI (Q2)), .ref cn])), (cn, .inl (cI, 100, .inl Lc)), (q1, .inr (1, [.int (nI (P)), .ref be, .ref bl, .ref bu, .ref bo, .ref br, .ref bk, .ref bw, .ref btt, .ref bss])), (bl, .inl (cI, 100, .inl lo)), (bo, .inl (cI, 100, .inl d))]) A) (fr := fun A => A) (by decide) (Nat.le_of_ble_eq_true rfl) ?_
  intro p e s m below meth c ls A hF hr hlk hin hsz hP hK hD hN hZ hA hS hl
  have hF : CallFix p m c cX0_mendFrom 13 s _ _ RX0 := hF
  have hx := hF.1
  have hb := hF.2.1
  have hml := hF.2.2.1
  have hown := hF.2.2.2.1
  have hu : ∀ w ∈ wsU, w.before _ s = true := fun w h => hF.2.2.2.2 w (List.mem_cons_of_mem _ h)
  have hl : lv_has ls 13 [(0, .ref h0), (1, .ref q2), (2, .ref q1), (3, .int (nI (j))), (4, .int (nI (k)))] := hl
  refine lv_aload_n hx hb dX0_mendFrom_0 rfl (lv_at hl 2 rfl) ?_
  refine lv_iload_n hx hb dX0_mendFrom_1 rfl (lv_at hl 3 rfl) ?_
  refine lv_iload hx hb dX0_mendFrom_2 (lv_at hl 4 rfl) ?_
  refine xc_Vr hF (c_X1_lowOf l D cI cJ cZ cS ta sa sv s.heap.size q1 be bl bu bo br bk bw btt bss P j k lo (by omega) (by omega)) kv_X0_34 ⟨rfl, rfl, Nat.le_of_ble_eq_true rfl, Nat.le_of_ble_eq_true rfl⟩ ⟨Nat.le_of_ble_eq_true rfl, Nat.le_of_ble_eq_true rfl⟩ hK hN hZ hP hD hS hA [4, 5] rfl rfl 0 rfl rfl rfl rfl hl.1 rfl (Nat.le_of_ble_eq_true rfl) dX0_mendFrom_4 (fun r_1 hw_r_1 => ?_)
  subst hw_r_1
  refine lv_aload_n hx hb dX0_mendFrom_7 rfl (lv_at hl 2 rfl) ?_
  refine lv_iload hx hb dX0_mendFrom_8 (lv_at hl 4 rfl) ?_
  refine lv_iload_n hx hb dX0_mendFrom_10 rfl (lv_at hl 3 rfl) ?_
  refine xc_Vr hF (c_X1_lowOf l D cI cJ cZ cS ta sa sv s.heap.size q1 be bl bu bo br bk bw btt bss P k j lo (by omega) (by omega)) kv_X0_34 ⟨rfl, rfl, Nat.le_of_ble_eq_true rfl, Nat.le_of_ble_eq_true rfl⟩ ⟨Nat.le_of_ble_eq_true rfl, Nat.le_of_ble_eq_true rfl⟩ hK hN hZ hP hD hS hA [4, 5] rfl rfl 0 rfl rfl rfl rfl hl.1 rfl (Nat.le_of_ble_eq_true rfl) dX0_mendFrom_11 (fun r_2 hw_r_2 => ?_)
  subst hw_r_2
  refine lv_icmp_gt (tgt := 21) hx hb dX0_mendFrom_14 (by decide) (fun c_3 => ?_) (fun c_3 => ?_)
  · skip
    refine lv_iconst (v := 0) hx hb dX0_mendFrom_21 (by decide) ?_
    refine lv_istore (lv' := [(5, .int 0), (0, .ref h0), (1, .ref q2), (2, .ref q1), (3, .int (nI (j))), (4, .int (nI (k)))]) hx hb dX0_mendFrom_22 hl (by decide) rfl (fun ls hl => ?_)
    refine lv_iload hx hb dX0_mendFrom_24 (lv_at hl 0 rfl) ?_
    refine lv_if_eq (tgt := 34) hx hb dX0_mendFrom_26 (by decide) (fun c_4 => ?_) (fun c_4 => absurd (by decide) c_4)
    refine lv_iload_n hx hb dX0_mendFrom_34 rfl (lv_at hl 4 rfl) ?_
    refine lv_istore (lv' := [(6, .int (nI (j))), (5, .int 0), (0, .ref h0), (1, .ref q2), (2, .ref q1), (3, .int (nI (j))), (4, .int (nI (k)))]) hx hb dX0_mendFrom_35 hl (by decide) rfl (fun ls hl => ?_)
    refine lv_iload hx hb dX0_mendFrom_37 (lv_at hl 1 rfl) ?_
    refine lv_if_eq (tgt := 46) hx hb dX0_mendFrom_39 (by decide) (fun c_5 => ?_) (fun c_5 => absurd (by decide) c_5)
    refine lv_iload hx hb dX0_mendFrom_46 (lv_at hl 6 rfl) ?_
    refine lv_istore (lv' := [(7, .int (nI (k))), (6, .int (nI (j))), (5, .int 0), (0, .ref h0), (1, .ref q2), (2, .ref q1), (3, .int (nI (j))), (4, .int (nI (k)))]) hx hb dX0_mendFrom_48 hl (by decide) rfl (fun ls hl => ?_)
    refine lv_aload_n hx hb dX0_mendFrom_50 rfl (lv_at hl 5 rfl) ?_
    refine lv_iload hx hb dX0_mendFrom_51 (lv_at hl 0 rfl) ?_
    refine lv_iload hx hb dX0_mendFrom_53 (lv_at hl 1 rfl) ?_
    refine xc_Sr hF (c_X0_oneWay l D cI cJ cZ cS ta sa sv s.heap.size q1 be bl bu bo br bk bw btt bss P lo d k j (by omega) (by omega)) ks_X0_22 ⟨rfl, rfl, Nat.le_of_ble_eq_true rfl, Nat.le_of_ble_eq_true rfl⟩ ⟨Nat.le_of_ble_eq_true rfl, Nat.le_of_ble_eq_true rfl⟩ hK hN hZ hP hD hS hA [4, 5, 6] rfl rfl rfl hl.1 rfl (Nat.le_of_ble_eq_true rfl) dX0_mendFrom_55 (fun r_6 hw_r_6 => ?_)
    refine lv_istore (lv' := [(8, .int r_6), (7, .int (nI (k))), (6, .int (nI (j))), (5, .int 0), (0, .ref h0), (1, .ref q2), (2, .ref q1), (3, .int (nI (j))), (4, .int (nI (k)))]) hx hb dX0_mendFrom_58 hl (by decide) rfl (fun ls hl => ?_)
    refine lv_iload hx hb dX0_mendFrom_60 (lv_at hl 0 rfl) ?_
    refine lv_aload_n hx hb dX0_mendFrom_62 rfl (lv_at hl 5 rfl) ?_
    refine lv_iload hx hb dX0_mendFrom_63 (lv_at hl 1 rfl) ?_
    refine lv_iload hx hb dX0_mendFrom_65 (lv_at hl 2 rfl) ?_
    refine xc_Vr hF (c_X0_lengthOf l D cI cJ cZ cS ta sa sv s.heap.size q2 cn Q2 k j Lc (by omega) (by omega)) kv_X0_39 ⟨rfl, rfl, Nat.le_of_ble_eq_true rfl, Nat.le_of_ble_eq_true rfl⟩ ⟨Nat.le_of_ble_eq_true rfl, Nat.le_of_ble_eq_true rfl⟩ hK hN hZ hP hD hS hA [2, 3] rfl rfl 0 rfl rfl rfl rfl hl.1 rfl (Nat.le_of_ble_eq_true rfl) dX0_mendFrom_67 (fun r_7 hw_r_7 => ?_)
    subst hw_r_7
    refine xc_SNr hF (c_X8_together l D cI cJ cZ cS ta sa sv s.heap.size r_6 (Lc (10 * k + j)) ) kn_X0_42.1 kn_X0_42.2.1 kn_X0_42.2.2 ⟨rfl, rfl, Nat.le_of_ble_eq_true rfl, Nat.le_of_ble_eq_true rfl⟩ ⟨Nat.le_of_ble_eq_true rfl, Nat.le_of_ble_eq_true rfl⟩ hK hN hZ hP hD hS hA [] rfl rfl rfl hl.1 rfl (Nat.le_of_ble_eq_true rfl) dX0_mendFrom_70 (fun r_8 hw_r_8 => ?_)
    refine lv_if_ge (tgt := 78) hx hb dX0_mendFrom_73 (by decide) (fun c_9 => ?_) (fun c_9 => ?_)
    · skip
      refine lv_aload_n hx hb dX0_mendFrom_78 rfl (lv_at hl 4 rfl) ?_
      refine lv_aload_n hx hb dX0_mendFrom_79 rfl (lv_at hl 5 rfl) ?_
      refine xg hF kf_X0_9 hK hP 2 rfl rfl dX0_mendFrom_80 ?_
      refine xp hF kf_X0_9 tyX0_ok nmX0 hK hP hD hS 0 rfl rfl rfl rfl (Nat.le_of_ble_eq_true rfl) dX0_mendFrom_83 (fun H locs hP hD hS => ?_)
      have hP : va_P D vwCl [(h0, .inr (0, [.int (nI (Q2)), .ref an])), (an, .inl (cI, 100, .inl La)), (q2, .inr (0, [.int (nI (Q2)), .ref cn])), (cn, .inl (cI, 100, .inl Lc)), (q1, .inr (1, [.int (nI (P)), .ref be, .ref bl, .ref bu, .ref bo, .ref br, .ref bk, .ref bw, .ref btt, .ref bss])), (bl, .inl (cI, 100, .inl lo)), (bo, .inl (cI, 100, .inl d))] H := hP
      have hD : va_D A [(h0, .inr (0, [.int (nI (Q2)), .ref an])), (an, .inl (cI, 100, .inl La)), (q2, .inr (0, [.int (nI (Q2)), .ref cn])), (cn, .inl (cI, 100, .inl Lc)), (q1, .inr (1, [.int (nI (P)), .ref be, .ref bl, .ref bu, .ref bo, .ref br, .ref bk, .ref bw, .ref btt, .ref bss])), (bl, .inl (cI, 100, .inl lo)), (bo, .inl (cI, 100, .inl d))] := hD
      refine lv_iconst (v := 0) hx hb dX0_mendFrom_86 (by decide) ?_
      refine lv_istore (lv' := [(9, .int 0), (8, .int r_6), (7, .int (nI (k))), (6, .int (nI (j))), (5, .int 0), (0, .ref h0), (1, .ref q2), (2, .ref q1), (3, .int (nI (j))), (4, .int (nI (k)))]) hx hb dX0_mendFrom_87 hl (by decide) rfl (fun ls hl => ?_)
      suffices loop_89 : ∀ (n_89 : Nat) (i : Nat) (L9 : Nat → Int32) (H : Heap) (locs : List Loc) (ls : Array Slot), Q2 - i < n_89 → (i ≤ Q2) → va_P D vwCl [(h0, .inr (0, [.int (nI (Q2)), .ref an])), (an, .inl (cI, 100, .inl L9)), (q2, .inr (0, [.int (nI (Q2)), .ref cn])), (cn, .inl (cI, 100, .inl Lc)), (q1, .inr (1, [.int (nI (P)), .ref be, .ref bl, .ref bu, .ref bo, .ref br, .ref bk, .ref bw, .ref btt, .ref bss])), (bl, .inl (cI, 100, .inl lo)), (bo, .inl (cI, 100, .inl d))] H → va_D A [(h0, .inr (0, [.int (nI (Q2)), .ref an])), (an, .inl (cI, 100, .inl L9)), (q2, .inr (0, [.int (nI (Q2)), .ref cn])), (cn, .inl (cI, 100, .inl Lc)), (q1, .inr (1, [.int (nI (P)), .ref be, .ref bl, .ref bu, .ref bo, .ref br, .ref bk, .ref bw, .ref btt, .ref bss])), (bl, .inl (cI, 100, .inl lo)), (bo, .inl (cI, 100, .inl d))] → va_S A s.heap H locs → lv_has ls 13 [(9, .int (nI (i))), (8, .int r_6), (7, .int (nI (k))), (6, .int (nI (j))), (5, .int 0), (0, .ref h0), (1, .ref q2), (2, .ref q1), (3, .int (nI (j))), (4, .int (nI (k)))] → W p l e ({ frames := 3, cells := 0, slots := 0, locals := 65 }) s m ([.ref h0, .ref q2, .ref q1, .int (nI (j)), .int (nI (k))] : List Value).toArray below meth c H locs 0 0 (MQ below (XQi (fun (r : Int32) (u : Nat × (Nat → Int32)) => match u with | (Q9, L2) => ((r = 1 ∧ (Q9 = Q2)) ∨ (r = 0 ∧ (Q9 = Q)))) D (fun (u : Nat × (Nat → Int32)) => match u with | (Q9, L2) => [(h0, .inr (0, [.int (nI (Q9)), .ref an])), (an, .inl (cI, 100, .inl L2)), (q2, .inr (0, [.int (nI (Q2)), .ref cn])), (cn, .inl (cI, 100, .inl Lc)), (q1, .inr (1, [.int (nI (P)), .ref be, .ref bl, .ref bu, .ref bo, .ref br, .ref bk, .ref bw, .ref btt, .ref bss])), (bl, .inl (cI, 100, .inl lo)), (bo, .inl (cI, 100, .inl d))]) A) ([.ref h0, .ref q2, .ref q1, .int (nI (j)), .int (nI (k))] : List Value).toArray s 0 0 A) (F0 m 89 ls []) by
        exact loop_89 _ 0 La _ _ _ (Nat.lt_succ_self _) (by omega) hP hD hS (lv_sub hl [0, 1, 2, 3, 4, 5, 6, 7, 8, 9] rfl)
      intro n_89
      induction n_89 with
      | zero =>
        intro i L9 H locs ls hm_89
        exact absurd hm_89 (Nat.not_lt_zero _)
      | succ n_89 ih_89 =>
        intro i L9 H locs ls hm_89 hi hP hD hS hl
        refine lv_iload hx hb dX0_mendFrom_89 (lv_at hl 0 rfl) ?_
        refine lv_aload_n hx hb dX0_mendFrom_91 rfl (lv_at hl 5 rfl) ?_
        refine xg hF kf_X0_9 hK hP 0 rfl rfl dX0_mendFrom_92 ?_
        refine lv_icmp_ge (tgt := 178) hx hb dX0_mendFrom_95 (by decide) (fun c_10 => ?_) (fun c_10 => ?_)
        · skip
          have nc_10 : Q2 ≤ i := xn_le (a := Q2) (b := i) (by omega) (by omega) c_10
          refine lv_iconst (v := 1) hx hb dX0_mendFrom_178 (by decide) ?_
          exact W.zret (v := 1) hx hb hr rfl (fun t ht hW => ⟨⟨1, (Q2, L9), rfl, (by first | exact Or.inl ⟨rfl, (by first | assumption | omega | exact Or.inl (by first | assumption | omega) | exact Or.inr (by first | assumption | omega))⟩), by rw [ht]; exact hP.sub [0, 1, 2, 3, 4, 5, 6] rfl, hD.sub [0, 1, 2, 3, 4, 5, 6] (by decide) rfl⟩, hS.F ht⟩) hS.2.2 dX0_mendFrom_179 hlk
        · skip
          have nc_10 : i < Q2 := xn_nle (a := Q2) (b := i) (by omega) (by omega) c_10
          refine lv_aload_n hx hb dX0_mendFrom_98 rfl (lv_at hl 6 rfl) ?_
          refine lv_iload hx hb dX0_mendFrom_99 (lv_at hl 0 rfl) ?_
          refine lv_iload hx hb dX0_mendFrom_101 (lv_at hl 3 rfl) ?_
          refine xc_Vr hF (c_X0_lengthOf l D cI cJ cZ cS ta sa sv H.size q2 cn Q2 i j Lc (by omega) (by omega)) kv_X0_39 ⟨rfl, rfl, Nat.le_of_ble_eq_true rfl, Nat.le_of_ble_eq_true rfl⟩ ⟨Nat.le_of_ble_eq_true rfl, Nat.le_of_ble_eq_true rfl⟩ hK hN hZ hP hD hS hA [2, 3] rfl rfl 0 rfl rfl rfl rfl hl.1 rfl (Nat.le_of_ble_eq_true rfl) dX0_mendFrom_103 (fun r_11 hw_r_11 => ?_)
          subst hw_r_11
          refine lv_iload hx hb dX0_mendFrom_106 (lv_at hl 1 rfl) ?_
          refine xc_SNr hF (c_X8_together l D cI cJ cZ cS ta sa sv H.size (Lc (10 * i + j)) r_6 ) kn_X0_42.1 kn_X0_42.2.1 kn_X0_42.2.2 ⟨rfl, rfl, Nat.le_of_ble_eq_true rfl, Nat.le_of_ble_eq_true rfl⟩ ⟨Nat.le_of_ble_eq_true rfl, Nat.le_of_ble_eq_true rfl⟩ hK hN hZ hP hD hS hA [] rfl rfl rfl hl.1 rfl (Nat.le_of_ble_eq_true rfl) dX0_mendFrom_108 (fun r_12 hw_r_12 => ?_)
          refine lv_istore (lv' := [(10, .int r_12), (9, .int (nI (i))), (8, .int r_6), (7, .int (nI (k))), (6, .int (nI (j))), (5, .int 0), (0, .ref h0), (1, .ref q2), (2, .ref q1), (3, .int (nI (j))), (4, .int (nI (k)))]) hx hb dX0_mendFrom_111 hl (by decide) rfl (fun ls hl => ?_)
          refine lv_iconst (v := 0) hx hb dX0_mendFrom_113 (by decide) ?_
          refine lv_istore (lv' := [(11, .int 0), (10, .int r_12), (9, .int (nI (i))), (8, .int r_6), (7, .int (nI (k))), (6, .int (nI (j))), (5, .int 0), (0, .ref h0), (1, .ref q2), (2, .ref q1), (3, .int (nI (j))), (4, .int (nI (k)))]) hx hb dX0_mendFrom_114 hl (by decide) rfl (fun ls hl => ?_)
          suffices loop_116 : ∀ (n_116 : Nat) (i2 : Nat) (L8 : Nat → Int32) (H : Heap) (locs : List Loc) (ls : Array Slot), Q2 - i2 < n_116 → (i2 ≤ Q2) → va_P D vwCl [(h0, .inr (0, [.int (nI (Q2)), .ref an])), (an, .inl (cI, 100, .inl L8)), (q2, .inr (0, [.int (nI (Q2)), .ref cn])), (cn, .inl (cI, 100, .inl Lc)), (q1, .inr (1, [.int (nI (P)), .ref be, .ref bl, .ref bu, .ref bo, .ref br, .ref bk, .ref bw, .ref btt, .ref bss])), (bl, .inl (cI, 100, .inl lo)), (bo, .inl (cI, 100, .inl d))] H → va_D A [(h0, .inr (0, [.int (nI (Q2)), .ref an])), (an, .inl (cI, 100, .inl L8)), (q2, .inr (0, [.int (nI (Q2)), .ref cn])), (cn, .inl (cI, 100, .inl Lc)), (q1, .inr (1, [.int (nI (P)), .ref be, .ref bl, .ref bu, .ref bo, .ref br, .ref bk, .ref bw, .ref btt, .ref bss])), (bl, .inl (cI, 100, .inl lo)), (bo, .inl (cI, 100, .inl d))] → va_S A s.heap H locs → lv_has ls 13 [(11, .int (nI (i2))), (10, .int r_12), (9, .int (nI (i))), (8, .int r_6), (7, .int (nI (k))), (6, .int (nI (j))), (5, .int 0), (0, .ref h0), (1, .ref q2), (2, .ref q1), (3, .int (nI (j))), (4, .int (nI (k)))] → W p l e ({ frames := 3, cells := 0, slots := 0, locals := 65 }) s m ([.ref h0, .ref q2, .ref q1, .int (nI (j)), .int (nI (k))] : List Value).toArray below meth c H locs 0 0 (MQ below (XQi (fun (r : Int32) (u : Nat × (Nat → Int32)) => match u with | (Q9, L2) => ((r = 1 ∧ (Q9 = Q2)) ∨ (r = 0 ∧ (Q9 = Q)))) D (fun (u : Nat × (Nat → Int32)) => match u with | (Q9, L2) => [(h0, .inr (0, [.int (nI (Q9)), .ref an])), (an, .inl (cI, 100, .inl L2)), (q2, .inr (0, [.int (nI (Q2)), .ref cn])), (cn, .inl (cI, 100, .inl Lc)), (q1, .inr (1, [.int (nI (P)), .ref be, .ref bl, .ref bu, .ref bo, .ref br, .ref bk, .ref bw, .ref btt, .ref bss])), (bl, .inl (cI, 100, .inl lo)), (bo, .inl (cI, 100, .inl d))]) A) ([.ref h0, .ref q2, .ref q1, .int (nI (j)), .int (nI (k))] : List Value).toArray s 0 0 A) (F0 m 116 ls []) by
            exact loop_116 _ 0 L9 _ _ _ (Nat.lt_succ_self _) (by omega) hP hD hS (lv_sub hl [0, 1, 2, 3, 4, 5, 6, 7, 8, 9, 10, 11] rfl)
          intro n_116
          induction n_116 with
          | zero =>
            intro i2 L8 H locs ls hm_116
            exact absurd hm_116 (Nat.not_lt_zero _)
          | succ n_116 ih_116 =>
            intro i2 L8 H locs ls hm_116 hi2 hP hD hS hl
            refine lv_iload hx hb dX0_mendFrom_116 (lv_at hl 0 rfl) ?_
            refine lv_aload_n hx hb dX0_mendFrom_118 rfl (lv_at hl 7 rfl) ?_
            refine xg hF kf_X0_9 hK hP 0 rfl rfl dX0_mendFrom_119 ?_
            refine lv_icmp_ge (tgt := 172) hx hb dX0_mendFrom_122 (by decide) (fun c_13 => ?_) (fun c_13 => ?_)
            · skip
              have nc_13 : Q2 ≤ i2 := xn_le (a := Q2) (b := i2) (by omega) (by omega) c_13
              refine lv_iinc (v := nI (i + 1)) (lv' := [(9, .int (nI (i + 1))), (11, .int (nI (i2))), (10, .int r_12), (8, .int r_6), (7, .int (nI (k))), (6, .int (nI (j))), (5, .int 0), (0, .ref h0), (1, .ref q2), (2, .ref q1), (3, .int (nI (j))), (4, .int (nI (k)))]) hx hb dX0_mendFrom_172 hl (k := 2) rfl (nI_1 (i)) (by decide) rfl (fun ls hl => ?_)
              refine lv_goto (tgt := 89) hx hb dX0_mendFrom_175 (by decide) ?_
              exact ih_89 (i + 1) L8 _ _ _ (by omega) (by omega) (hP.sub [0, 1, 2, 3, 4, 5, 6] rfl) (hD.sub [0, 1, 2, 3, 4, 5, 6] (by decide) rfl) hS (lv_sub hl [0, 3, 4, 5, 6, 7, 8, 9, 10, 11] rfl)
            · skip
              have nc_13 : i2 < Q2 := xn_nle (a := Q2) (b := i2) (by omega) (by omega) c_13
              refine lv_iload hx hb dX0_mendFrom_125 (lv_at hl 1 rfl) ?_
              refine lv_aload_n hx hb dX0_mendFrom_127 rfl (lv_at hl 8 rfl) ?_
              refine lv_iload hx hb dX0_mendFrom_128 (lv_at hl 4 rfl) ?_
              refine lv_iload hx hb dX0_mendFrom_130 (lv_at hl 0 rfl) ?_
              refine xc_Vr hF (c_X0_lengthOf l D cI cJ cZ cS ta sa sv H.size q2 cn Q2 k i2 Lc (by omega) (by omega)) kv_X0_39 ⟨rfl, rfl, Nat.le_of_ble_eq_true rfl, Nat.le_of_ble_eq_true rfl⟩ ⟨Nat.le_of_ble_eq_true rfl, Nat.le_of_ble_eq_true rfl⟩ hK hN hZ hP hD hS hA [2, 3] rfl rfl 0 rfl rfl rfl rfl hl.1 rfl (Nat.le_of_ble_eq_true rfl) dX0_mendFrom_132 (fun r_14 hw_r_14 => ?_)
              subst hw_r_14
              refine xc_SNr hF (c_X8_together l D cI cJ cZ cS ta sa sv H.size r_12 (Lc (10 * k + i2)) ) kn_X0_42.1 kn_X0_42.2.1 kn_X0_42.2.2 ⟨rfl, rfl, Nat.le_of_ble_eq_true rfl, Nat.le_of_ble_eq_true rfl⟩ ⟨Nat.le_of_ble_eq_true rfl, Nat.le_of_ble_eq_true rfl⟩ hK hN hZ hP hD hS hA [] rfl rfl rfl hl.1 rfl (Nat.le_of_ble_eq_true rfl) dX0_mendFrom_135 (fun r_15 hw_r_15 => ?_)
              refine lv_istore (lv' := [(12, .int r_15), (11, .int (nI (i2))), (10, .int r_12), (9, .int (nI (i))), (8, .int r_6), (7, .int (nI (k))), (6, .int (nI (j))), (5, .int 0), (0, .ref h0), (1, .ref q2), (2, .ref q1), (3, .int (nI (j))), (4, .int (nI (k)))]) hx hb dX0_mendFrom_138 hl (by decide) rfl (fun ls hl => ?_)
              refine lv_aload_n hx hb dX0_mendFrom_140 rfl (lv_at hl 8 rfl) ?_
              refine xg hF kf_X0_15 hK hP 0 rfl rfl dX0_mendFrom_141 ?_
              refine lv_bipush (v := 10) hx hb dX0_mendFrom_144 (by decide) ?_
              refine lv_iload hx hb dX0_mendFrom_146 (lv_at hl 3 rfl) ?_
              refine lv_imul hx hb dX0_mendFrom_148 ?_
              refine xl_i (y := nI (10 * i)) (pk_mul 10 i) ?_
              refine lv_iload hx hb dX0_mendFrom_149 (lv_at hl 1 rfl) ?_
              refine lv_iadd hx hb dX0_mendFrom_151 ?_
              refine xl_i (y := nI (10 * i + i2)) (nI_add (10 * i) i2) ?_
              refine lv_iload hx hb dX0_mendFrom_152 (lv_at hl 0 rfl) ?_
              refine lv_aload_n hx hb dX0_mendFrom_154 rfl (lv_at hl 9 rfl) ?_
              refine lv_iload hx hb dX0_mendFrom_155 (lv_at hl 3 rfl) ?_
              refine lv_iload hx hb dX0_mendFrom_157 (lv_at hl 1 rfl) ?_
              refine xc_Vr hF (c_X0_lengthOf l D cI cJ cZ cS ta sa sv H.size q2 cn Q2 i i2 Lc (by omega) (by omega)) kv_X0_39 ⟨rfl, rfl, Nat.le_of_ble_eq_true rfl, Nat.le_of_ble_eq_true rfl⟩ ⟨Nat.le_of_ble_eq_true rfl, Nat.le_of_ble_eq_true rfl⟩ hK hN hZ hP hD hS hA [2, 3] rfl rfl 0 rfl rfl rfl rfl hl.1 rfl (Nat.le_of_ble_eq_true rfl) dX0_mendFrom_159 (fun r_16 hw_r_16 => ?_)
              subst hw_r_16
              refine va_mmin hx hb (hml.trans hl.1.symm) hown (hu _ uw136) (hu _ uw137) (hu _ uw92) (hu _ uw138) (Nat.le_of_ble_eq_true rfl) (Nat.le_of_ble_eq_true rfl) (Nat.le_of_ble_eq_true rfl) (Nat.le_of_ble_eq_true rfl) dX0_mendFrom_162 ?_
              refine lv_topi (fun x_17 ex_17 => ?_)
              refine va_iast hx hb hK hP hD hS 1 0 rfl rfl (vp_in_nI (show 10 * i + i2 < 100 by omega) (by decide)) dX0_mendFrom_165 (fun H locs hP hD hS => ?_)
              rw [nI_clamp (show 10 * i + i2 < 2 ^ 31 by omega)] at hP hD
              obtain ⟨f_18, ef_18⟩ : ∃ g, g = upd L8 (10 * i + i2) x_17 := ⟨_, rfl⟩
              rw [← ef_18] at hP hD
              have hP : va_P D vwCl [(h0, .inr (0, [.int (nI (Q2)), .ref an])), (an, .inl (cI, 100, .inl f_18)), (q2, .inr (0, [.int (nI (Q2)), .ref cn])), (cn, .inl (cI, 100, .inl Lc)), (q1, .inr (1, [.int (nI (P)), .ref be, .ref bl, .ref bu, .ref bo, .ref br, .ref bk, .ref bw, .ref btt, .ref bss])), (bl, .inl (cI, 100, .inl lo)), (bo, .inl (cI, 100, .inl d))] H := hP
              have hD : va_D A [(h0, .inr (0, [.int (nI (Q2)), .ref an])), (an, .inl (cI, 100, .inl f_18)), (q2, .inr (0, [.int (nI (Q2)), .ref cn])), (cn, .inl (cI, 100, .inl Lc)), (q1, .inr (1, [.int (nI (P)), .ref be, .ref bl, .ref bu, .ref bo, .ref br, .ref bk, .ref bw, .ref btt, .ref bss])), (bl, .inl (cI, 100, .inl lo)), (bo, .inl (cI, 100, .inl d))] := hD
              refine lv_iinc (v := nI (i2 + 1)) (lv' := [(11, .int (nI (i2 + 1))), (12, .int r_15), (10, .int r_12), (9, .int (nI (i))), (8, .int r_6), (7, .int (nI (k))), (6, .int (nI (j))), (5, .int 0), (0, .ref h0), (1, .ref q2), (2, .ref q1), (3, .int (nI (j))), (4, .int (nI (k)))]) hx hb dX0_mendFrom_166 hl (k := 1) rfl (nI_1 (i2)) (by decide) rfl (fun ls hl => ?_)
              refine lv_goto (tgt := 116) hx hb dX0_mendFrom_169 (by decide) ?_
              exact ih_116 (i2 + 1) f_18 _ _ _ (by omega) (by omega) (hP.sub [0, 1, 2, 3, 4, 5, 6] rfl) (hD.sub [0, 1, 2, 3, 4, 5, 6] (by decide) rfl) hS (lv_sub hl [0, 2, 3, 4, 5, 6, 7, 8, 9, 10, 11, 12] rfl)
    · skip
      refine lv_iconst (v := 0) hx hb dX0_mendFrom_76 (by decide) ?_
      exact W.zret (v := 0) hx hb hr rfl (fun t ht hW => ⟨⟨0, (Q, La), rfl, (by first | exact Or.inr (⟨rfl, (by first | assumption | omega | exact Or.inl (by first | assumption | omega) | exact Or.inr (by first | assumption | omega))⟩)), by rw [ht]; exact hP.sub [0, 1, 2, 3, 4, 5, 6] rfl, hD.sub [0, 1, 2, 3, 4, 5, 6] (by decide) rfl⟩, hS.F ht⟩) hS.2.2 dX0_mendFrom_77 hlk
  · skip
    refine lv_iconst (v := 1) hx hb dX0_mendFrom_17 (by decide) ?_
    refine lv_goto (tgt := 22) hx hb dX0_mendFrom_18 (by decide) ?_
    refine lv_istore (lv' := [(5, .int 1), (0, .ref h0), (1, .ref q2), (2, .ref q1), (3, .int (nI (j))), (4, .int (nI (k)))]) hx hb dX0_mendFrom_22 hl (by decide) rfl (fun ls hl => ?_)
    refine lv_iload hx hb dX0_mendFrom_24 (lv_at hl 0 rfl) ?_
    refine lv_if_eq (tgt := 34) hx hb dX0_mendFrom_26 (by decide) (fun c_19 => absurd c_19 (by decide)) (fun c_19 => ?_)
    refine lv_iload hx hb dX0_mendFrom_29 (lv_at hl 5 rfl) ?_
    refine lv_goto (tgt := 35) hx hb dX0_mendFrom_31 (by decide) ?_
    refine lv_istore (lv' := [(6, .int (nI (k))), (5, .int 1), (0, .ref h0), (1, .ref q2), (2, .ref q1), (3, .int (nI (j))), (4, .int (nI (k)))]) hx hb dX0_mendFrom_35 hl (by decide) rfl (fun ls hl => ?_)
    refine lv_iload hx hb dX0_mendFrom_37 (lv_at hl 1 rfl) ?_
    refine lv_if_eq (tgt := 46) hx hb dX0_mendFrom_39 (by decide) (fun c_20 => absurd c_20 (by decide)) (fun c_20 => ?_)
    refine lv_iload_n hx hb dX0_mendFrom_42 rfl (lv_at hl 5 rfl) ?_
    refine lv_goto (tgt := 48) hx hb dX0_mendFrom_43 (by decide) ?_
    refine lv_istore (lv' := [(7, .int (nI (j))), (6, .int (nI (k))), (5, .int 1), (0, .ref h0), (1, .ref q2), (2, .ref q1), (3, .int (nI (j))), (4, .int (nI (k)))]) hx hb dX0_mendFrom_48 hl (by decide) rfl (fun ls hl => ?_)
    refine lv_aload_n hx hb dX0_mendFrom_50 rfl (lv_at hl 5 rfl) ?_
    refine lv_iload hx hb dX0_mendFrom_51 (lv_at hl 0 rfl) ?_
    refine lv_iload hx hb dX0_mendFrom_53 (lv_at hl 1 rfl) ?_
    refine xc_Sr hF (c_X0_oneWay l D cI cJ cZ cS ta sa sv s.heap.size q1 be bl bu bo br bk bw btt bss P lo d j k (by omega) (by omega)) ks_X0_22 ⟨rfl, rfl, Nat.le_of_ble_eq_true rfl, Nat.le_of_ble_eq_true rfl⟩ ⟨Nat.le_of_ble_eq_true rfl, Nat.le_of_ble_eq_true rfl⟩ hK hN hZ hP hD hS hA [4, 5, 6] rfl rfl rfl hl.1 rfl (Nat.le_of_ble_eq_true rfl) dX0_mendFrom_55 (fun r_21 hw_r_21 => ?_)
    refine lv_istore (lv' := [(8, .int r_21), (7, .int (nI (j))), (6, .int (nI (k))), (5, .int 1), (0, .ref h0), (1, .ref q2), (2, .ref q1), (3, .int (nI (j))), (4, .int (nI (k)))]) hx hb dX0_mendFrom_58 hl (by decide) rfl (fun ls hl => ?_)
    refine lv_iload hx hb dX0_mendFrom_60 (lv_at hl 0 rfl) ?_
    refine lv_aload_n hx hb dX0_mendFrom_62 rfl (lv_at hl 5 rfl) ?_
    refine lv_iload hx hb dX0_mendFrom_63 (lv_at hl 1 rfl) ?_
    refine lv_iload hx hb dX0_mendFrom_65 (lv_at hl 2 rfl) ?_
    refine xc_Vr hF (c_X0_lengthOf l D cI cJ cZ cS ta sa sv s.heap.size q2 cn Q2 j k Lc (by omega) (by omega)) kv_X0_39 ⟨rfl, rfl, Nat.le_of_ble_eq_true rfl, Nat.le_of_ble_eq_true rfl⟩ ⟨Nat.le_of_ble_eq_true rfl, Nat.le_of_ble_eq_true rfl⟩ hK hN hZ hP hD hS hA [2, 3] rfl rfl 0 rfl rfl rfl rfl hl.1 rfl (Nat.le_of_ble_eq_true rfl) dX0_mendFrom_67 (fun r_22 hw_r_22 => ?_)
    subst hw_r_22
    refine xc_SNr hF (c_X8_together l D cI cJ cZ cS ta sa sv s.heap.size r_21 (Lc (10 * j + k)) ) kn_X0_42.1 kn_X0_42.2.1 kn_X0_42.2.2 ⟨rfl, rfl, Nat.le_of_ble_eq_true rfl, Nat.le_of_ble_eq_true rfl⟩ ⟨Nat.le_of_ble_eq_true rfl, Nat.le_of_ble_eq_true rfl⟩ hK hN hZ hP hD hS hA [] rfl rfl rfl hl.1 rfl (Nat.le_of_ble_eq_true rfl) dX0_mendFrom_70 (fun r_23 hw_r_23 => ?_)
    refine lv_if_ge (tgt := 78) hx hb dX0_mendFrom_73 (by decide) (fun c_24 => ?_) (fun c_24 => ?_)
    · skip
      refine lv_aload_n hx hb dX0_mendFrom_78 rfl (lv_at hl 4 rfl) ?_
      refine lv_aload_n hx hb dX0_mendFrom_79 rfl (lv_at hl 5 rfl) ?_
      refine xg hF kf_X0_9 hK hP 2 rfl rfl dX0_mendFrom_80 ?_
      refine xp hF kf_X0_9 tyX0_ok nmX0 hK hP hD hS 0 rfl rfl rfl rfl (Nat.le_of_ble_eq_true rfl) dX0_mendFrom_83 (fun H locs hP hD hS => ?_)
      have hP : va_P D vwCl [(h0, .inr (0, [.int (nI (Q2)), .ref an])), (an, .inl (cI, 100, .inl La)), (q2, .inr (0, [.int (nI (Q2)), .ref cn])), (cn, .inl (cI, 100, .inl Lc)), (q1, .inr (1, [.int (nI (P)), .ref be, .ref bl, .ref bu, .ref bo, .ref br, .ref bk, .ref bw, .ref btt, .ref bss])), (bl, .inl (cI, 100, .inl lo)), (bo, .inl (cI, 100, .inl d))] H := hP
      have hD : va_D A [(h0, .inr (0, [.int (nI (Q2)), .ref an])), (an, .inl (cI, 100, .inl La)), (q2, .inr (0, [.int (nI (Q2)), .ref cn])), (cn, .inl (cI, 100, .inl Lc)), (q1, .inr (1, [.int (nI (P)), .ref be, .ref bl, .ref bu, .ref bo, .ref br, .ref bk, .ref bw, .ref btt, .ref bss])), (bl, .inl (cI, 100, .inl lo)), (bo, .inl (cI, 100, .inl d))] := hD
      refine lv_iconst (v := 0) hx hb dX0_mendFrom_86 (by decide) ?_
      refine lv_istore (lv' := [(9, .int 0), (8, .int r_21), (7, .int (nI (j))), (6, .int (nI (k))), (5, .int 1), (0, .ref h0), (1, .ref q2), (2, .ref q1), (3, .int (nI (j))), (4, .int (nI (k)))]) hx hb dX0_mendFrom_87 hl (by decide) rfl (fun ls hl => ?_)
      suffices loop_89 : ∀ (n_89 : Nat) (i : Nat) (L9 : Nat → Int32) (H : Heap) (locs : List Loc) (ls : Array Slot), Q2 - i < n_89 → (i ≤ Q2) → va_P D vwCl [(h0, .inr (0, [.int (nI (Q2)), .ref an])), (an, .inl (cI, 100, .inl L9)), (q2, .inr (0, [.int (nI (Q2)), .ref cn])), (cn, .inl (cI, 100, .inl Lc)), (q1, .inr (1, [.int (nI (P)), .ref be, .ref bl, .ref bu, .ref bo, .ref br, .ref bk, .ref bw, .ref btt, .ref bss])), (bl, .inl (cI, 100, .inl lo)), (bo, .inl (cI, 100, .inl d))] H → va_D A [(h0, .inr (0, [.int (nI (Q2)), .ref an])), (an, .inl (cI, 100, .inl L9)), (q2, .inr (0, [.int (nI (Q2)), .ref cn])), (cn, .inl (cI, 100, .inl Lc)), (q1, .inr (1, [.int (nI (P)), .ref be, .ref bl, .ref bu, .ref bo, .ref br, .ref bk, .ref bw, .ref btt, .ref bss])), (bl, .inl (cI, 100, .inl lo)), (bo, .inl (cI, 100, .inl d))] → va_S A s.heap H locs → lv_has ls 13 [(9, .int (nI (i))), (8, .int r_21), (7, .int (nI (j))), (6, .int (nI (k))), (5, .int 1), (0, .ref h0), (1, .ref q2), (2, .ref q1), (3, .int (nI (j))), (4, .int (nI (k)))] → W p l e ({ frames := 3, cells := 0, slots := 0, locals := 65 }) s m ([.ref h0, .ref q2, .ref q1, .int (nI (j)), .int (nI (k))] : List Value).toArray below meth c H locs 0 0 (MQ below (XQi (fun (r : Int32) (u : Nat × (Nat → Int32)) => match u with | (Q9, L2) => ((r = 1 ∧ (Q9 = Q2)) ∨ (r = 0 ∧ (Q9 = Q)))) D (fun (u : Nat × (Nat → Int32)) => match u with | (Q9, L2) => [(h0, .inr (0, [.int (nI (Q9)), .ref an])), (an, .inl (cI, 100, .inl L2)), (q2, .inr (0, [.int (nI (Q2)), .ref cn])), (cn, .inl (cI, 100, .inl Lc)), (q1, .inr (1, [.int (nI (P)), .ref be, .ref bl, .ref bu, .ref bo, .ref br, .ref bk, .ref bw, .ref btt, .ref bss])), (bl, .inl (cI, 100, .inl lo)), (bo, .inl (cI, 100, .inl d))]) A) ([.ref h0, .ref q2, .ref q1, .int (nI (j)), .int (nI (k))] : List Value).toArray s 0 0 A) (F0 m 89 ls []) by
        exact loop_89 _ 0 La _ _ _ (Nat.lt_succ_self _) (by omega) hP hD hS (lv_sub hl [0, 1, 2, 3, 4, 5, 6, 7, 8, 9] rfl)
      intro n_89
      induction n_89 with
      | zero =>
        intro i L9 H locs ls hm_89
        exact absurd hm_89 (Nat.not_lt_zero _)
      | succ n_89 ih_89 =>
        intro i L9 H locs ls hm_89 hi hP hD hS hl
        refine lv_iload hx hb dX0_mendFrom_89 (lv_at hl 0 rfl) ?_
        refine lv_aload_n hx hb dX0_mendFrom_91 rfl (lv_at hl 5 rfl) ?_
        refine xg hF kf_X0_9 hK hP 0 rfl rfl dX0_mendFrom_92 ?_
        refine lv_icmp_ge (tgt := 178) hx hb dX0_mendFrom_95 (by decide) (fun c_25 => ?_) (fun c_25 => ?_)
        · skip
          have nc_25 : Q2 ≤ i := xn_le (a := Q2) (b := i) (by omega) (by omega) c_25
          refine lv_iconst (v := 1) hx hb dX0_mendFrom_178 (by decide) ?_
          exact W.zret (v := 1) hx hb hr rfl (fun t ht hW => ⟨⟨1, (Q2, L9), rfl, (by first | exact Or.inl ⟨rfl, (by first | assumption | omega | exact Or.inl (by first | assumption | omega) | exact Or.inr (by first | assumption | omega))⟩), by rw [ht]; exact hP.sub [0, 1, 2, 3, 4, 5, 6] rfl, hD.sub [0, 1, 2, 3, 4, 5, 6] (by decide) rfl⟩, hS.F ht⟩) hS.2.2 dX0_mendFrom_179 hlk
        · skip
          have nc_25 : i < Q2 := xn_nle (a := Q2) (b := i) (by omega) (by omega) c_25
          refine lv_aload_n hx hb dX0_mendFrom_98 rfl (lv_at hl 6 rfl) ?_
          refine lv_iload hx hb dX0_mendFrom_99 (lv_at hl 0 rfl) ?_
          refine lv_iload hx hb dX0_mendFrom_101 (lv_at hl 3 rfl) ?_
          refine xc_Vr hF (c_X0_lengthOf l D cI cJ cZ cS ta sa sv H.size q2 cn Q2 i k Lc (by omega) (by omega)) kv_X0_39 ⟨rfl, rfl, Nat.le_of_ble_eq_true rfl, Nat.le_of_ble_eq_true rfl⟩ ⟨Nat.le_of_ble_eq_true rfl, Nat.le_of_ble_eq_true rfl⟩ hK hN hZ hP hD hS hA [2, 3] rfl rfl 0 rfl rfl rfl rfl hl.1 rfl (Nat.le_of_ble_eq_true rfl) dX0_mendFrom_103 (fun r_26 hw_r_26 => ?_)
          subst hw_r_26
          refine lv_iload hx hb dX0_mendFrom_106 (lv_at hl 1 rfl) ?_
          refine xc_SNr hF (c_X8_together l D cI cJ cZ cS ta sa sv H.size (Lc (10 * i + k)) r_21 ) kn_X0_42.1 kn_X0_42.2.1 kn_X0_42.2.2 ⟨rfl, rfl, Nat.le_of_ble_eq_true rfl, Nat.le_of_ble_eq_true rfl⟩ ⟨Nat.le_of_ble_eq_true rfl, Nat.le_of_ble_eq_true rfl⟩ hK hN hZ hP hD hS hA [] rfl rfl rfl hl.1 rfl (Nat.le_of_ble_eq_true rfl) dX0_mendFrom_108 (fun r_27 hw_r_27 => ?_)
          refine lv_istore (lv' := [(10, .int r_27), (9, .int (nI (i))), (8, .int r_21), (7, .int (nI (j))), (6, .int (nI (k))), (5, .int 1), (0, .ref h0), (1, .ref q2), (2, .ref q1), (3, .int (nI (j))), (4, .int (nI (k)))]) hx hb dX0_mendFrom_111 hl (by decide) rfl (fun ls hl => ?_)
          refine lv_iconst (v := 0) hx hb dX0_mendFrom_113 (by decide) ?_
          refine lv_istore (lv' := [(11, .int 0), (10, .int r_27), (9, .int (nI (i))), (8, .int r_21), (7, .int (nI (j))), (6, .int (nI (k))), (5, .int 1), (0, .ref h0), (1, .ref q2), (2, .ref q1), (3, .int (nI (j))), (4, .int (nI (k)))]) hx hb dX0_mendFrom_114 hl (by decide) rfl (fun ls hl => ?_)
          suffices loop_116 : ∀ (n_116 : Nat) (i2 : Nat) (L8 : Nat → Int32) (H : Heap) (locs : List Loc) (ls : Array Slot), Q2 - i2 < n_116 → (i2 ≤ Q2) → va_P D vwCl [(h0, .inr (0, [.int (nI (Q2)), .ref an])), (an, .inl (cI, 100, .inl L8)), (q2, .inr (0, [.int (nI (Q2)), .ref cn])), (cn, .inl (cI, 100, .inl Lc)), (q1, .inr (1, [.int (nI (P)), .ref be, .ref bl, .ref bu, .ref bo, .ref br, .ref bk, .ref bw, .ref btt, .ref bss])), (bl, .inl (cI, 100, .inl lo)), (bo, .inl (cI, 100, .inl d))] H → va_D A [(h0, .inr (0, [.int (nI (Q2)), .ref an])), (an, .inl (cI, 100, .inl L8)), (q2, .inr (0, [.int (nI (Q2)), .ref cn])), (cn, .inl (cI, 100, .inl Lc)), (q1, .inr (1, [.int (nI (P)), .ref be, .ref bl, .ref bu, .ref bo, .ref br, .ref bk, .ref bw, .ref btt, .ref bss])), (bl, .inl (cI, 100, .inl lo)), (bo, .inl (cI, 100, .inl d))] → va_S A s.heap H locs → lv_has ls 13 [(11, .int (nI (i2))), (10, .int r_27), (9, .int (nI (i))), (8, .int r_21), (7, .int (nI (j))), (6, .int (nI (k))), (5, .int 1), (0, .ref h0), (1, .ref q2), (2, .ref q1), (3, .int (nI (j))), (4, .int (nI (k)))] → W p l e ({ frames := 3, cells := 0, slots := 0, locals := 65 }) s m ([.ref h0, .ref q2, .ref q1, .int (nI (j)), .int (nI (k))] : List Value).toArray below meth c H locs 0 0 (MQ below (XQi (fun (r : Int32) (u : Nat × (Nat → Int32)) => match u with | (Q9, L2) => ((r = 1 ∧ (Q9 = Q2)) ∨ (r = 0 ∧ (Q9 = Q)))) D (fun (u : Nat × (Nat → Int32)) => match u with | (Q9, L2) => [(h0, .inr (0, [.int (nI (Q9)), .ref an])), (an, .inl (cI, 100, .inl L2)), (q2, .inr (0, [.int (nI (Q2)), .ref cn])), (cn, .inl (cI, 100, .inl Lc)), (q1, .inr (1, [.int (nI (P)), .ref be, .ref bl, .ref bu, .ref bo, .ref br, .ref bk, .ref bw, .ref btt, .ref bss])), (bl, .inl (cI, 100, .inl lo)), (bo, .inl (cI, 100, .inl d))]) A) ([.ref h0, .ref q2, .ref q1, .int (nI (j)), .int (nI (k))] : List Value).toArray s 0 0 A) (F0 m 116 ls []) by
            exact loop_116 _ 0 L9 _ _ _ (Nat.lt_succ_self _) (by omega) hP hD hS (lv_sub hl [0, 1, 2, 3, 4, 5, 6, 7, 8, 9, 10, 11] rfl)
          intro n_116
          induction n_116 with
          | zero =>
            intro i2 L8 H locs ls hm_116
            exact absurd hm_116 (Nat.not_lt_zero _)
          | succ n_116 ih_116 =>
            intro i2 L8 H locs ls hm_116 hi2 hP hD hS hl
            refine lv_iload hx hb dX0_mendFrom_116 (lv_at hl 0 rfl) ?_
            refine lv_aload_n hx hb dX0_mendFrom_118 rfl (lv_at hl 7 rfl) ?_
            refine xg hF kf_X0_9 hK hP 0 rfl rfl dX0_mendFrom_119 ?_
            refine lv_icmp_ge (tgt := 172) hx hb dX0_mendFrom_122 (by decide) (fun c_28 => ?_) (fun c_28 => ?_)
            · skip
              have nc_28 : Q2 ≤ i2 := xn_le (a := Q2) (b := i2) (by omega) (by omega) c_28
              refine lv_iinc (v := nI (i + 1)) (lv' := [(9, .int (nI (i + 1))), (11, .int (nI (i2))), (10, .int r_27), (8, .int r_21), (7, .int (nI (j))), (6, .int (nI (k))), (5, .int 1), (0, .ref h0), (1, .ref q2), (2, .ref q1), (3, .int (nI (j))), (4, .int (nI (k)))]) hx hb dX0_mendFrom_172 hl (k := 2) rfl (nI_1 (i)) (by decide) rfl (fun ls hl => ?_)
              refine lv_goto (tgt := 89) hx hb dX0_mendFrom_175 (by decide) ?_
              exact ih_89 (i + 1) L8 _ _ _ (by omega) (by omega) (hP.sub [0, 1, 2, 3, 4, 5, 6] rfl) (hD.sub [0, 1, 2, 3, 4, 5, 6] (by decide) rfl) hS (lv_sub hl [0, 3, 4, 5, 6, 7, 8, 9, 10, 11] rfl)
            · skip
              have nc_28 : i2 < Q2 := xn_nle (a := Q2) (b := i2) (by omega) (by omega) c_28
              refine lv_iload hx hb dX0_mendFrom_125 (lv_at hl 1 rfl) ?_
              refine lv_aload_n hx hb dX0_mendFrom_127 rfl (lv_at hl 8 rfl) ?_
              refine lv_iload hx hb dX0_mendFrom_128 (lv_at hl 4 rfl) ?_
              refine lv_iload hx hb dX0_mendFrom_130 (lv_at hl 0 rfl) ?_
              refine xc_Vr hF (c_X0_lengthOf l D cI cJ cZ cS ta sa sv H.size q2 cn Q2 j i2 Lc (by omega) (by omega)) kv_X0_39 ⟨rfl, rfl, Nat.le_of_ble_eq_true rfl, Nat.le_of_ble_eq_true rfl⟩ ⟨Nat.le_of_ble_eq_true rfl, Nat.le_of_ble_eq_true rfl⟩ hK hN hZ hP hD hS hA [2, 3] rfl rfl 0 rfl rfl rfl rfl hl.1 rfl (Nat.le_of_ble_eq_true rfl) dX0_mendFrom_132 (fun r_29 hw_r_29 => ?_)
              subst hw_r_29
              refine xc_SNr hF (c_X8_together l D cI cJ cZ cS ta sa sv H.size r_27 (Lc (10 * j + i2)) ) kn_X0_42.1 kn_X0_42.2.1 kn_X0_42.2.2 ⟨rfl, rfl, Nat.le_of_ble_eq_true rfl, Nat.le_of_ble_eq_true rfl⟩ ⟨Nat.le_of_ble_eq_true rfl, Nat.le_of_ble_eq_true rfl⟩ hK hN hZ hP hD hS hA [] rfl rfl rfl hl.1 rfl (Nat.le_of_ble_eq_true rfl) dX0_mendFrom_135 (fun r_30 hw_r_30 => ?_)
              refine lv_istore (lv' := [(12, .int r_30), (11, .int (nI (i2))), (10, .int r_27), (9, .int (nI (i))), (8, .int r_21), (7, .int (nI (j))), (6, .int (nI (k))), (5, .int 1), (0, .ref h0), (1, .ref q2), (2, .ref q1), (3, .int (nI (j))), (4, .int (nI (k)))]) hx hb dX0_mendFrom_138 hl (by decide) rfl (fun ls hl => ?_)
              refine lv_aload_n hx hb dX0_mendFrom_140 rfl (lv_at hl 8 rfl) ?_
              refine xg hF kf_X0_15 hK hP 0 rfl rfl dX0_mendFrom_141 ?_
              refine lv_bipush (v := 10) hx hb dX0_mendFrom_144 (by decide) ?_
              refine lv_iload hx hb dX0_mendFrom_146 (lv_at hl 3 rfl) ?_
              refine lv_imul hx hb dX0_mendFrom_148 ?_
              refine xl_i (y := nI (10 * i)) (pk_mul 10 i) ?_
              refine lv_iload hx hb dX0_mendFrom_149 (lv_at hl 1 rfl) ?_
              refine lv_iadd hx hb dX0_mendFrom_151 ?_
              refine xl_i (y := nI (10 * i + i2)) (nI_add (10 * i) i2) ?_
              refine lv_iload hx hb dX0_mendFrom_152 (lv_at hl 0 rfl) ?_
              refine lv_aload_n hx hb dX0_mendFrom_154 rfl (lv_at hl 9 rfl) ?_
              refine lv_iload hx hb dX0_mendFrom_155 (lv_at hl 3 rfl) ?_
              refine lv_iload hx hb dX0_mendFrom_157 (lv_at hl 1 rfl) ?_
              refine xc_Vr hF (c_X0_lengthOf l D cI cJ cZ cS ta sa sv H.size q2 cn Q2 i i2 Lc (by omega) (by omega)) kv_X0_39 ⟨rfl, rfl, Nat.le_of_ble_eq_true rfl, Nat.le_of_ble_eq_true rfl⟩ ⟨Nat.le_of_ble_eq_true rfl, Nat.le_of_ble_eq_true rfl⟩ hK hN hZ hP hD hS hA [2, 3] rfl rfl 0 rfl rfl rfl rfl hl.1 rfl (Nat.le_of_ble_eq_true rfl) dX0_mendFrom_159 (fun r_31 hw_r_31 => ?_)
              subst hw_r_31
              refine va_mmin hx hb (hml.trans hl.1.symm) hown (hu _ uw136) (hu _ uw137) (hu _ uw92) (hu _ uw138) (Nat.le_of_ble_eq_true rfl) (Nat.le_of_ble_eq_true rfl) (Nat.le_of_ble_eq_true rfl) (Nat.le_of_ble_eq_true rfl) dX0_mendFrom_162 ?_
              refine lv_topi (fun x_32 ex_32 => ?_)
              refine va_iast hx hb hK hP hD hS 1 0 rfl rfl (vp_in_nI (show 10 * i + i2 < 100 by omega) (by decide)) dX0_mendFrom_165 (fun H locs hP hD hS => ?_)
              rw [nI_clamp (show 10 * i + i2 < 2 ^ 31 by omega)] at hP hD
              obtain ⟨f_33, ef_33⟩ : ∃ g, g = upd L8 (10 * i + i2) x_32 := ⟨_, rfl⟩
              rw [← ef_33] at hP hD
              have hP : va_P D vwCl [(h0, .inr (0, [.int (nI (Q2)), .ref an])), (an, .inl (cI, 100, .inl f_33)), (q2, .inr (0, [.int (nI (Q2)), .ref cn])), (cn, .inl (cI, 100, .inl Lc)), (q1, .inr (1, [.int (nI (P)), .ref be, .ref bl, .ref bu, .ref bo, .ref br, .ref bk, .ref bw, .ref btt, .ref bss])), (bl, .inl (cI, 100, .inl lo)), (bo, .inl (cI, 100, .inl d))] H := hP
              have hD : va_D A [(h0, .inr (0, [.int (nI (Q2)), .ref an])), (an, .inl (cI, 100, .inl f_33)), (q2, .inr (0, [.int (nI (Q2)), .ref cn])), (cn, .inl (cI, 100, .inl Lc)), (q1, .inr (1, [.int (nI (P)), .ref be, .ref bl, .ref bu, .ref bo, .ref br, .ref bk, .ref bw, .ref btt, .ref bss])), (bl, .inl (cI, 100, .inl lo)), (bo, .inl (cI, 100, .inl d))] := hD
              refine lv_iinc (v := nI (i2 + 1)) (lv' := [(11, .int (nI (i2 + 1))), (12, .int r_30), (10, .int r_27), (9, .int (nI (i))), (8, .int r_21), (7, .int (nI (j))), (6, .int (nI (k))), (5, .int 1), (0, .ref h0), (1, .ref q2), (2, .ref q1), (3, .int (nI (j))), (4, .int (nI (k)))]) hx hb dX0_mendFrom_166 hl (k := 1) rfl (nI_1 (i2)) (by decide) rfl (fun ls hl => ?_)
              refine lv_goto (tgt := 116) hx hb dX0_mendFrom_169 (by decide) ?_
              exact ih_116 (i2 + 1) f_33 _ _ _ (by omega) (by omega) (hP.sub [0, 1, 2, 3, 4, 5, 6] rfl) (hD.sub [0, 1, 2, 3, 4, 5, 6] (by decide) rfl) hS (lv_sub hl [0, 2, 3, 4, 5, 6, 7, 8, 9, 10, 11, 12] rfl)
    · skip
      refine lv_iconst (v := 0) hx hb dX0_mendFrom_76 (by decide) ?_
      exact W.zret (v := 0) hx hb hr rfl (fun t ht hW => ⟨⟨0, (Q, La), rfl, (by first | exact Or.inr (⟨rfl, (by first | assumption | omega | exact Or.inl (by first | assumption | omega) | exact Or.inr (by first | assumption | omega))⟩)), by rw [ht]; exact hP.sub [0, 1, 2, 3, 4, 5, 6] rfl, hD.sub [0, 1, 2, 3, 4, 5, 6] (by decide) rfl⟩, hS.F ht⟩) hS.2.2 dX0_mendFrom_77 hlk
