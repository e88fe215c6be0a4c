set_option maxHeartbeats 4000000 in
set_option maxRecDepth 100000 in
theorem law_11 {p : Program} {e : Env} {s : State} {m : MethodId} {below : List Frame} {meth : Method} {c : Code} (l : Launch) (D : va_G) (cI cJ cZ cS : ClassId) (sa : Nat → Nat) {b : Nat} {xs : Nat → Int32} (hF : CallFix p m c cL_law 4 s #[Value.ref b] (Cond.initialized RX8 :: wsU) RL) (hr : meth.sig.returnType = ret) (hlk : meth.locks = false) (hK : va_K D vwCl (xT cI cJ cZ cS) s) (hN : XN sa s) (hX : va_X b 6 xs s s.heap) (hbl : b < s.heap.size) {A : Nat → Prop} (hA : ∀ q : Nat, s.heap.size ≤ q → A q) (hbA : ¬ A b) (hAs : ∀ q, A q → s.heap.size ≤ q) (h0 qh qk qd qa qm qs qp ql qt qz qf ae al au ao ar ak aw att ass aRn aRp g0 ys yk yo yt yfa yfe yro yhe ygr yta ywa ybi ysi ynu ymo : Nat) {H : Heap} {locs : List Loc} {ls : Array Slot} (hP : va_P D vwCl [(h0, .inr (8, [.ref qh, .ref qk, .ref qd, .int 0, .ref qa, .ref qm, .ref qs, .ref qp, .ref ql, .ref qt, .ref qz, .ref qf])), (qh, .inr (1, [.int 0, .ref ae, .ref al, .ref au, .ref ao, .ref ar, .ref ak, .ref aw, .ref att, .ref ass])), (ar, .inr (3, [.int 0, .ref aRn, .ref aRp])), (qf, .inl (cI, 7, .inl (fun _ => 0))), (g0, .inr (9, [.ref ys, .ref yk, .ref yo, .ref yt, .int 0, .ref yfa, .ref yfe, .int 0, .int 0, .int 0, .ref yro, .ref yhe, .ref ygr, .int 0, .int 0, .int 0, .ref yta, .int 0, .int 0, .int 0, .int 0, .int 0, .ref ywa, .ref ybi, .ref ysi, .ref ynu, .ref ymo])), (ys, .inl (cI, 449, .inl (fun _ => 0))), (yt, .inl (cI, 7, .inl (fun _ => 0)))] H) (hD : va_D A [(h0, .inr (8, [.ref qh, .ref qk, .ref qd, .int 0, .ref qa, .ref qm, .ref qs, .ref qp, .ref ql, .ref qt, .ref qz, .ref qf])), (qh, .inr (1, [.int 0, .ref ae, .ref al, .ref au, .ref ao, .ref ar, .ref ak, .ref aw, .ref att, .ref ass])), (ar, .inr (3, [.int 0, .ref aRn, .ref aRp])), (qf, .inl (cI, 7, .inl (fun _ => 0))), (g0, .inr (9, [.ref ys, .ref yk, .ref yo, .ref yt, .int 0, .ref yfa, .ref yfe, .int 0, .int 0, .int 0, .ref yro, .ref yhe, .ref ygr, .int 0, .int 0, .int 0, .ref yta, .int 0, .int 0, .int 0, .int 0, .int 0, .ref ywa, .ref ybi, .ref ysi, .ref ynu, .ref ymo])), (ys, .inl (cI, 449, .inl (fun _ => 0))), (yt, .inl (cI, 7, .inl (fun _ => 0)))]) (hS : va_S A s.heap H locs) (hl : lv_has ls 4 [(3, .int 0), (2, .ref g0), (1, .ref h0), (0, .ref b)]) : W p l e room_1 s m #[Value.ref b] below meth c H locs 82 4273 (lw_Z below #[Value.ref b] s) (F0 m 613 ls []) := by
  have hx := hF.1
  have hb := hF.2.1
  have hml := hF.2.2.1
  have hown := hF.2.2.2.1
  have hu : ∀ w ∈ wsU, w.before _ s = true := fun w h => hF.2.2.2.2 w (List.mem_cons_of_mem _ h)
  refine lv_aload_n hx hb dL_law_613 rfl (lv_at hl 2 rfl) ?_
  refine lv_aload_n hx hb dL_law_614 rfl (lv_at hl 3 rfl) ?_
  refine lv_iload_n hx hb dL_law_615 rfl (lv_at hl 0 rfl) ?_
  refine lv_iconst (v := 1) hx hb dL_law_616 (by decide) ?_
  refine lv_iadd hx hb dL_law_617 ?_
  refine xl_i (y := 1) (by decide) ?_
  refine va_sld hx hb hX hbl hbA hS (xin 1 6 (by decide) (by decide)) dL_law_618 ?_
  refine xl_i (y := xs 1) rfl ?_
  refine xc_Vi (wr := [(g0, .inr (9, [.ref ys, .ref yk, .ref yo, .ref yt, .int 0, .ref yfa, .ref yfe, .int 0, .int 0, .int 0, .ref yro, .ref yhe, .ref ygr, .int 0, .int 0, .int 0, .ref yta, .int 0, .int 0, .int 0, .int 0, .int 0, .ref ywa, .ref ybi, .ref ysi, .ref ynu, .ref ymo])), (ys, .inl (cI, 449, .inl (fun _ => 0))), (yt, .inl (cI, 7, .inl (fun _ => 0)))]) hF (c_X8_sum l D cI cJ cZ cS sa H.size h0 qh qk qd qa qm qs qp ql qt qz qf ae al au ao ar ak aw att ass aRn aRp (xs 1) ) kv_L_62 ⟨rfl, rfl, Nat.le_of_ble_eq_true rfl, Nat.le_of_ble_eq_true rfl⟩ ⟨Nat.le_of_ble_eq_true rfl, Nat.le_of_ble_eq_true rfl⟩ hK hN hP hD hS hA [0, 1, 2, 3] [4, 5, 6] rfl rfl rfl rfl (by decide) 0 rfl rfl rfl rfl hl.1 rfl (Nat.le_of_ble_eq_true rfl) dL_law_619 (fun r_1 u_r_1 H locs hw_r_1 hP hD hS => ?_)
  have hP : va_P D vwCl [(g0, .inr (9, [.ref ys, .ref yk, .ref yo, .ref yt, .int 0, .ref yfa, .ref yfe, .int 0, .int 0, .int 0, .ref yro, .ref yhe, .ref ygr, .int 0, .int 0, .int 0, .ref yta, .int 0, .int 0, .int 0, .int 0, .int 0, .ref ywa, .ref ybi, .ref ysi, .ref ynu, .ref ymo])), (ys, .inl (cI, 449, .inl (fun _ => 0))), (yt, .inl (cI, 7, .inl (fun _ => 0)))] H := hP
  have hD : va_D A [(g0, .inr (9, [.ref ys, .ref yk, .ref yo, .ref yt, .int 0, .ref yfa, .ref yfe, .int 0, .int 0, .int 0, .ref yro, .ref yhe, .ref ygr, .int 0, .int 0, .int 0, .ref yta, .int 0, .int 0, .int 0, .int 0, .int 0, .ref ywa, .ref ybi, .ref ysi, .ref ynu, .ref ymo])), (ys, .inl (cI, 449, .inl (fun _ => 0))), (yt, .inl (cI, 7, .inl (fun _ => 0)))] := hD
  subst hw_r_1
  refine lv_aload_n hx hb dL_law_622 rfl (lv_at hl 1 rfl) ?_
  refine lv_aload_n hx hb dL_law_623 rfl (lv_at hl 3 rfl) ?_
  refine lv_iload_n hx hb dL_law_624 rfl (lv_at hl 0 rfl) ?_
  refine lv_iconst (v := 1) hx hb dL_law_625 (by decide) ?_
  refine lv_iadd hx hb dL_law_626 ?_
  refine xl_i (y := 1) (by decide) ?_
  refine va_sld hx hb hX hbl hbA hS (xin 1 6 (by decide) (by decide)) dL_law_627 ?_
  refine xl_i (y := xs 1) rfl ?_
  refine xc_Vi (wr := []) hF (c_X9_sum l D cI cJ cZ cS sa H.size g0 ys yk yo yt yfa yfe yro yhe ygr yta ywa ybi ysi ynu ymo (xs 1) ) kv_L_66 ⟨rfl, rfl, Nat.le_of_ble_eq_true rfl, Nat.le_of_ble_eq_true rfl⟩ ⟨Nat.le_of_ble_eq_true rfl, Nat.le_of_ble_eq_true rfl⟩ hK hN hP hD hS hA [0, 1, 2] [] rfl rfl rfl rfl (by decide) 0 rfl rfl rfl rfl hl.1 rfl (Nat.le_of_ble_eq_true rfl) dL_law_628 (fun r_2 u_r_2 H locs hw_r_2 hP hD hS => ?_)
  have hP : va_P D vwCl [] H := hP
  have hD : va_D A [] := hD
  subst hw_r_2
  refine lv_icmp_eq (tgt := 1483) hx hb dL_law_631 (by decide) (fun c_3 => ?_) (fun c_3 => absurd (by decide) c_3)
  exact law_end l hF hr hlk hX hbl hbA hAs hS hl
set_option maxHeartbeats 4000000 in
set_option maxRecDepth 100000 in
theorem law_12 {p : Program} {e : Env} {s : State} {m : MethodId} {below : List Frame} {meth : Method} {c : Code} (l : Launch) (D : va_G) (cI cJ cZ cS : ClassId) (sa : Nat → Nat) {b : Nat} {xs : Nat → Int32} (hF : CallFix p m c cL_law 4 s #[Value.ref b] (Cond.initialized RX8 :: wsU) RL) (hr : meth.sig.returnType = ret) (hlk : meth.locks = false) (hK : va_K D vwCl (xT cI cJ cZ cS) s) (hN : XN sa s) (hX : va_X b 6 xs s s.heap) (hbl : b < s.heap.size) {A : Nat → Prop} (hA : ∀ q : Nat, s.heap.size ≤ q → A q) (hbA : ¬ A b) (hAs : ∀ q, A q → s.heap.size ≤ q) (h0 qh qk qd qa qm qs qp ql qt qz qf ae al au ao ar ak aw att ass aRn aRp g0 ys yk yo yt yfa yfe yro yhe ygr yta ywa ybi ysi ynu ymo : Nat) {H : Heap} {locs : List Loc} {ls : Array Slot} (hP : va_P D vwCl [(h0, .inr (8, [.ref qh, .ref qk, .ref qd, .int 0, .ref qa, .ref qm, .ref qs, .ref qp, .ref ql, .ref qt, .ref qz, .ref qf])), (qh, .inr (1, [.int 0, .ref ae, .ref al, .ref au, .ref ao, .ref ar, .ref ak, .ref aw, .ref att, .ref ass])), (ar, .inr (3, [.int 0, .ref aRn, .ref aRp])), (qf, .inl (cI, 7, .inl (fun _ => 0))), (g0, .inr (9, [.ref ys, .ref yk, .ref yo, .ref yt, .int 0, .ref yfa, .ref yfe, .int 0, .int 0, .int 0, .ref yro, .ref yhe, .ref ygr, .int 0, .int 0, .int 0, .ref yta, .int 0, .int 0, .int 0, .int 0, .int 0, .ref ywa, .ref ybi, .ref ysi, .ref ynu, .ref ymo])), (ys, .inl (cI, 449, .inl (fun _ => 0))), (yt, .inl (cI, 7, .inl (fun _ => 0)))] H) (hD : va_D A [(h0, .inr (8, [.ref qh, .ref qk, .ref qd, .int 0, .ref qa, .ref qm, .ref qs, .ref qp, .ref ql, .ref qt, .ref qz, .ref qf])), (qh, .inr (1, [.int 0, .ref ae, .ref al, .ref au, .ref ao, .ref ar, .ref ak, .ref aw, .ref att, .ref ass])), (ar, .inr (3, [.int 0, .ref aRn, .ref aRp])), (qf, .inl (cI, 7, .inl (fun _ => 0))), (g0, .inr (9, [.ref ys, .ref yk, .ref yo, .ref yt, .int 0, .ref yfa, .ref yfe, .int 0, .int 0, .int 0, .ref yro, .ref yhe, .ref ygr, .int 0, .int 0, .int 0, .ref yta, .int 0, .int 0, .int 0, .int 0, .int 0, .ref ywa, .ref ybi, .ref ysi, .ref ynu, .ref ymo])), (ys, .inl (cI, 449, .inl (fun _ => 0))), (yt, .inl (cI, 7, .inl (fun _ => 0)))]) (hS : va_S A s.heap H locs) (hl : lv_has ls 4 [(3, .int 0), (2, .ref g0), (1, .ref h0), (0, .ref b)]) : W p l e room_1 s m #[Value.ref b] below meth c H locs 82 4273 (lw_Z below #[Value.ref b] s) (F0 m 636 ls []) := by
  have hx := hF.1
  have hb := hF.2.1
  have hml := hF.2.2.1
  have hown := hF.2.2.2.1
  have hu : ∀ w ∈ wsU, w.before _ s = true := fun w h => hF.2.2.2.2 w (List.mem_cons_of_mem _ h)
  refine lv_aload_n hx hb dL_law_636 rfl (lv_at hl 2 rfl) ?_
  refine lv_aload_n hx hb dL_law_637 rfl (lv_at hl 3 rfl) ?_
  refine lv_iload_n hx hb dL_law_638 rfl (lv_at hl 0 rfl) ?_
  refine lv_iconst (v := 1) hx hb dL_law_639 (by decide) ?_
  refine lv_iadd hx hb dL_law_640 ?_
  refine xl_i (y := 1) (by decide) ?_
  refine va_sld hx hb hX hbl hbA hS (xin 1 6 (by decide) (by decide)) dL_law_641 ?_
  refine xl_i (y := xs 1) rfl ?_
  refine lv_aload_n hx hb dL_law_642 rfl (lv_at hl 3 rfl) ?_
  refine lv_iload_n hx hb dL_law_643 rfl (lv_at hl 0 rfl) ?_
  refine lv_iconst (v := 2) hx hb dL_law_644 (by decide) ?_
  refine lv_iadd hx hb dL_law_645 ?_
  refine xl_i (y := 2) (by decide) ?_
  refine va_sld hx hb hX hbl hbA hS (xin 2 6 (by decide) (by decide)) dL_law_646 ?_
  refine xl_i (y := xs 2) rfl ?_
  refine xc_Vi (wr := [(g0, .inr (9, [.ref ys, .ref yk, .ref yo, .ref yt, .int 0, .ref yfa, .ref yfe, .int 0, .int 0, .int 0, .ref yro, .ref yhe, .ref ygr, .int 0, .int 0, .int 0, .ref yta, .int 0, .int 0, .int 0, .int 0, .int 0, .ref ywa, .ref ybi, .ref ysi, .ref ynu, .ref ymo])), (ys, .inl (cI, 449, .inl (fun _ => 0))), (yt, .inl (cI, 7, .inl (fun _ => 0)))]) hF (c_X8_roundOf l D cI cJ cZ cS sa H.size h0 qh qk qd qa qm qs qp ql qt qz qf ae al au ao ar ak aw att ass aRn aRp (xs 1) (xs 2) ) kv_L_67 ⟨rfl, rfl, Nat.le_of_ble_eq_true rfl, Nat.le_of_ble_eq_true rfl⟩ ⟨Nat.le_of_ble_eq_true rfl, Nat.le_of_ble_eq_true rfl⟩ hK hN hP hD hS hA [0, 1, 2, 3] [4, 5, 6] rfl rfl rfl rfl (by decide) 0 rfl rfl rfl rfl hl.1 rfl (Nat.le_of_ble_eq_true rfl) dL_law_647 (fun r_1 u_r_1 H locs hw_r_1 hP hD hS => ?_)
  have hP : va_P D vwCl [(g0, .inr (9, [.ref ys, .ref yk, .ref yo, .ref yt, .int 0, .ref yfa, .ref yfe, .int 0, .int 0, .int 0, .ref yro, .ref yhe, .ref ygr, .int 0, .int 0, .int 0, .ref yta, .int 0, .int 0, .int 0, .int 0, .int 0, .ref ywa, .ref ybi, .ref ysi, .ref ynu, .ref ymo])), (ys, .inl (cI, 449, .inl (fun _ => 0))), (yt, .inl (cI, 7, .inl (fun _ => 0)))] H := hP
  have hD : va_D A [(g0, .inr (9, [.ref ys, .ref yk, .ref yo, .ref yt, .int 0, .ref yfa, .ref yfe, .int 0, .int 0, .int 0, .ref yro, .ref yhe, .ref ygr, .int 0, .int 0, .int 0, .ref yta, .int 0, .int 0, .int 0, .int 0, .int 0, .ref ywa, .ref ybi, .ref ysi, .ref ynu, .ref ymo])), (ys, .inl (cI, 449, .inl (fun _ => 0))), (yt, .inl (cI, 7, .inl (fun _ => 0)))] := hD
  subst hw_r_1
  refine lv_aload_n hx hb dL_law_650 rfl (lv_at hl 1 rfl) ?_
  refine lv_aload_n hx hb dL_law_651 rfl (lv_at hl 3 rfl) ?_
  refine lv_iload_n hx hb dL_law_652 rfl (lv_at hl 0 rfl) ?_
  refine lv_iconst (v := 1) hx hb dL_law_653 (by decide) ?_
  refine lv_iadd hx hb dL_law_654 ?_
  refine xl_i (y := 1) (by decide) ?_
  refine va_sld hx hb hX hbl hbA hS (xin 1 6 (by decide) (by decide)) dL_law_655 ?_
  refine xl_i (y := xs 1) rfl ?_
  refine lv_aload_n hx hb dL_law_656 rfl (lv_at hl 3 rfl) ?_
  refine lv_iload_n hx hb dL_law_657 rfl (lv_at hl 0 rfl) ?_
  refine lv_iconst (v := 2) hx hb dL_law_658 (by decide) ?_
  refine lv_iadd hx hb dL_law_659 ?_
  refine xl_i (y := 2) (by decide) ?_
  refine va_sld hx hb hX hbl hbA hS (xin 2 6 (by decide) (by decide)) dL_law_660 ?_
  refine xl_i (y := xs 2) rfl ?_
  refine xc_Vi (wr := []) hF (c_X9_roundOf l D cI cJ cZ cS sa H.size g0 ys yk yo yt yfa yfe yro yhe ygr yta ywa ybi ysi ynu ymo (xs 1) (xs 2) ) kv_L_70 ⟨rfl, rfl, Nat.le_of_ble_eq_true rfl, Nat.le_of_ble_eq_true rfl⟩ ⟨Nat.le_of_ble_eq_true rfl, Nat.le_of_ble_eq_true rfl⟩ hK hN hP hD hS hA [0, 1, 2] [] rfl rfl rfl rfl (by decide) 0 rfl rfl rfl rfl hl.1 rfl (Nat.le_of_ble_eq_true rfl) dL_law_661 (fun r_2 u_r_2 H locs hw_r_2 hP hD hS => ?_)
  have hP : va_P D vwCl [] H := hP
  have hD : va_D A [] := hD
  subst hw_r_2
  refine lv_icmp_eq (tgt := 1483) hx hb dL_law_664 (by decide) (fun c_3 => ?_) (fun c_3 => absurd (by decide) c_3)
  exact law_end l hF hr hlk hX hbl hbA hAs hS hl
set_option maxHeartbeats 4000000 in
set_option maxRecDepth 100000 in
theorem law_13 {p : Program} {e : Env} {s : State} {m : MethodId} {below : List Frame} {meth : Method} {c : Code} (l : Launch) (D : va_G) (cI cJ cZ cS : ClassId) (sa : Nat → Nat) {b : Nat} {xs : Nat → Int32} (hF : CallFix p m c cL_law 4 s #[Value.ref b] (Cond.initialized RX8 :: wsU) RL) (hr : meth.sig.returnType = ret) (hlk : meth.locks = false) (hK : va_K D vwCl (xT cI cJ cZ cS) s) (hN : XN sa s) (hX : va_X b 6 xs s s.heap) (hbl : b < s.heap.size) {A : Nat → Prop} (hA : ∀ q : Nat, s.heap.size ≤ q → A q) (hbA : ¬ A b) (hAs : ∀ q, A q → s.heap.size ≤ q) (h0 qh qk qd qa qm qs qp ql qt qz qf ae al au ao ar ak aw att ass aRn aRp g0 ys yk yo yt yfa yfe yro yhe ygr yta ywa ybi ysi ynu ymo : Nat) {H : Heap} {locs : List Loc} {ls : Array Slot} (hP : va_P D vwCl [(h0, .inr (8, [.ref qh, .ref qk, .ref qd, .int 0, .ref qa, .ref qm, .ref qs, .ref qp, .ref ql, .ref qt, .ref qz, .ref qf])), (qh, .inr (1, [.int 0, .ref ae, .ref al, .ref au, .ref ao, .ref ar, .ref ak, .ref aw, .ref att, .ref ass])), (ar, .inr (3, [.int 0, .ref aRn, .ref aRp])), (qf, .inl (cI, 7, .inl (fun _ => 0))), (g0, .inr (9, [.ref ys, .ref yk, .ref yo, .ref yt, .int 0, .ref yfa, .ref yfe, .int 0, .int 0, .int 0, .ref yro, .ref yhe, .ref ygr, .int 0, .int 0, .int 0, .ref yta, .int 0, .int 0, .int 0, .int 0, .int 0, .ref ywa, .ref ybi, .ref ysi, .ref ynu, .ref ymo])), (ys, .inl (cI, 449, .inl (fun _ => 0))), (yt, .inl (cI, 7, .inl (fun _ => 0)))] H) (hD : va_D A [(h0, .inr (8, [.ref qh, .ref qk, .ref qd, .int 0, .ref qa, .ref qm, .ref qs, .ref qp, .ref ql, .ref qt, .ref qz, .ref qf])), (qh, .inr (1, [.int 0, .ref ae, .ref al, .ref au, .ref ao, .ref ar, .ref ak, .ref aw, .ref att, .ref ass])), (ar, .inr (3, [.int 0, .ref aRn, .ref aRp])), (qf, .inl (cI, 7, .inl (fun _ => 0))), (g0, .inr (9, [.ref ys, .ref yk, .ref yo, .ref yt, .int 0, .ref yfa, .ref yfe, .int 0, .int 0, .int 0, .ref yro, .ref yhe, .ref ygr, .int 0, .int 0, .int 0, .ref yta, .int 0, .int 0, .int 0, .int 0, .int 0, .ref ywa, .ref ybi, .ref ysi, .ref ynu, .ref ymo])), (ys, .inl (cI, 449, .inl (fun _ => 0))), (yt, .inl (cI, 7, .inl (fun _ => 0)))]) (hS : va_S A s.heap H locs) (hl : lv_has ls 4 [(3, .int 0), (2, .ref g0), (1, .ref h0), (0, .ref b)]) : W p l e room_1 s m #[Value.ref b] below meth c H locs 82 4273 (lw_Z below #[Value.ref b] s) (F0 m 669 ls []) := by
  have hx := hF.1
  have hb := hF.2.1
  have hml := hF.2.2.1
  have hown := hF.2.2.2.1
  have hu : ∀ w ∈ wsU, w.before _ s = true := fun w h => hF.2.2.2.2 w (List.mem_cons_of_mem _ h)
  refine lv_aload_n hx hb dL_law_669 rfl (lv_at hl 2 rfl) ?_
  refine lv_aload_n hx hb dL_law_670 rfl (lv_at hl 3 rfl) ?_
  refine lv_iload_n hx hb dL_law_671 rfl (lv_at hl 0 rfl) ?_
  refine lv_iconst (v := 1) hx hb dL_law_672 (by decide) ?_
  refine lv_iadd hx hb dL_law_673 ?_
  refine xl_i (y := 1) (by decide) ?_
  refine va_sld hx hb hX hbl hbA hS (xin 1 6 (by decide) (by decide)) dL_law_674 ?_
  refine xl_i (y := xs 1) rfl ?_
  refine lv_aload_n hx hb dL_law_675 rfl (lv_at hl 3 rfl) ?_
  refine lv_iload_n hx hb dL_law_676 rfl (lv_at hl 0 rfl) ?_
  refine lv_iconst (v := 2) hx hb dL_law_677 (by decide) ?_
  refine lv_iadd hx hb dL_law_678 ?_
  refine xl_i (y := 2) (by decide) ?_
  refine va_sld hx hb hX hbl hbA hS (xin 2 6 (by decide) (by decide)) dL_law_679 ?_
  refine xl_i (y := xs 2) rfl ?_
  refine xc_Vi (wr := [(g0, .inr (9, [.ref ys, .ref yk, .ref yo, .ref yt, .int 0, .ref yfa, .ref yfe, .int 0, .int 0, .int 0, .ref yro, .ref yhe, .ref ygr, .int 0, .int 0, .int 0, .ref yta, .int 0, .int 0, .int 0, .int 0, .int 0, .ref ywa, .ref ybi, .ref ysi, .ref ynu, .ref ymo])), (ys, .inl (cI, 449, .inl (fun _ => 0))), (yt, .inl (cI, 7, .inl (fun _ => 0)))]) hF (c_X8_as l D cI cJ cZ cS sa H.size h0 qh qk qd qa qm qs qp ql qt qz qf ae al au ao ar ak aw att ass aRn aRp (xs 1) (xs 2) ) kv_L_71 ⟨rfl, rfl, Nat.le_of_ble_eq_true rfl, Nat.le_of_ble_eq_true rfl⟩ ⟨Nat.le_of_ble_eq_true rfl, Nat.le_of_ble_eq_true rfl⟩ hK hN hP hD hS hA [0, 1, 2, 3] [4, 5, 6] rfl rfl rfl rfl (by decide) 0 rfl rfl rfl rfl hl.1 rfl (Nat.le_of_ble_eq_true rfl) dL_law_680 (fun r_1 u_r_1 H locs hw_r_1 hP hD hS => ?_)
  have hP : va_P D vwCl [(g0, .inr (9, [.ref ys, .ref yk, .ref yo, .ref yt, .int 0, .ref yfa, .ref yfe, .int 0, .int 0, .int 0, .ref yro, .ref yhe, .ref ygr, .int 0, .int 0, .int 0, .ref yta, .int 0, .int 0, .int 0, .int 0, .int 0, .ref ywa, .ref ybi, .ref ysi, .ref ynu, .ref ymo])), (ys, .inl (cI, 449, .inl (fun _ => 0))), (yt, .inl (cI, 7, .inl (fun _ => 0)))] H := hP
  have hD : va_D A [(g0, .inr (9, [.ref ys, .ref yk, .ref yo, .ref yt, .int 0, .ref yfa, .ref yfe, .int 0, .int 0, .int 0, .ref yro, .ref yhe, .ref ygr, .int 0, .int 0, .int 0, .ref yta, .int 0, .int 0, .int 0, .int 0, .int 0, .ref ywa, .ref ybi, .ref ysi, .ref ynu, .ref ymo])), (ys, .inl (cI, 449, .inl (fun _ => 0))), (yt, .inl (cI, 7, .inl (fun _ => 0)))] := hD
  subst hw_r_1
  refine lv_aload_n hx hb dL_law_683 rfl (lv_at hl 1 rfl) ?_
  refine lv_aload_n hx hb dL_law_684 rfl (lv_at hl 3 rfl) ?_
  refine lv_iload_n hx hb dL_law_685 rfl (lv_at hl 0 rfl) ?_
  refine lv_iconst (v := 1) hx hb dL_law_686 (by decide) ?_
  refine lv_iadd hx hb dL_law_687 ?_
  refine xl_i (y := 1) (by decide) ?_
  refine va_sld hx hb hX hbl hbA hS (xin 1 6 (by decide) (by decide)) dL_law_688 ?_
  refine xl_i (y := xs 1) rfl ?_
  refine lv_aload_n hx hb dL_law_689 rfl (lv_at hl 3 rfl) ?_
  refine lv_iload_n hx hb dL_law_690 rfl (lv_at hl 0 rfl) ?_
  refine lv_iconst (v := 2) hx hb dL_law_691 (by decide) ?_
  refine lv_iadd hx hb dL_law_692 ?_
  refine xl_i (y := 2) (by decide) ?_
  refine va_sld hx hb hX hbl hbA hS (xin 2 6 (by decide) (by decide)) dL_law_693 ?_
  refine xl_i (y := xs 2) rfl ?_
  refine xc_Vi (wr := []) hF (c_X9_as l D cI cJ cZ cS sa H.size g0 ys yk yo yt yfa yfe yro yhe ygr yta ywa ybi ysi ynu ymo (xs 1) (xs 2) ) kv_L_74 ⟨rfl, rfl, Nat.le_of_ble_eq_true rfl, Nat.le_of_ble_eq_true rfl⟩ ⟨Nat.le_of_ble_eq_true rfl, Nat.le_of_ble_eq_true rfl⟩ hK hN hP hD hS hA [0, 1, 2] [] rfl rfl rfl rfl (by decide) 0 rfl rfl rfl rfl hl.1 rfl (Nat.le_of_ble_eq_true rfl) dL_law_694 (fun r_2 u_r_2 H locs hw_r_2 hP hD hS => ?_)
  have hP : va_P D vwCl [] H := hP
  have hD : va_D A [] := hD
  subst hw_r_2
  refine lv_icmp_eq (tgt := 1483) hx hb dL_law_697 (by decide) (fun c_3 => ?_) (fun c_3 => absurd (by decide) c_3)
  exact law_end l hF hr hlk hX hbl hbA hAs hS hl
set_option maxHeartbeats 4000000 in
set_option maxRecDepth 100000 in
theorem law_14 {p : Program} {e : Env} {s : State} {m : MethodId} {below : List Frame} {meth : Method} {c : Code} (l : Launch) (D : va_G) (cI cJ cZ cS : ClassId) (sa : Nat → Nat) {b : Nat} {xs : Nat → Int32} (hF : CallFix p m c cL_law 4 s #[Value.ref b] (Cond.initialized RX8 :: wsU) RL) (hr : meth.sig.returnType = ret) (hlk : meth.locks = false) (hK : va_K D vwCl (xT cI cJ cZ cS) s) (hN : XN sa s) (hX : va_X b 6 xs s s.heap) (hbl : b < s.heap.size) {A : Nat → Prop} (hA : ∀ q : Nat, s.heap.size ≤ q → A q) (hbA : ¬ A b) (hAs : ∀ q, A q → s.heap.size ≤ q) (h0 qh qk qd qa qm qs qp ql qt qz qf ae al au ao ar ak aw att ass an g0 ys yk yo yt yfa yfe yro yhe ygr yta ywa ybi ysi ynu ymo : Nat) {H : Heap} {locs : List Loc} {ls : Array Slot} (hP : va_P D vwCl [(h0, .inr (8, [.ref qh, .ref qk, .ref qd, .int 0, .ref qa, .ref qm, .ref qs, .ref qp, .ref ql, .ref qt, .ref qz, .ref qf])), (qh, .inr (1, [.int 0, .ref ae, .ref al, .ref au, .ref ao, .ref ar, .ref ak, .ref aw, .ref att, .ref ass])), (qa, .inr (0, [.int 0, .ref an])), (qf, .inl (cI, 7, .inl (fun _ => 0))), (g0, .inr (9, [.ref ys, .ref yk, .ref yo, .ref yt, .int 0, .ref yfa, .ref yfe, .int 0, .int 0, .int 0, .ref yro, .ref yhe, .ref ygr, .int 0, .int 0, .int 0, .ref yta, .int 0, .int 0, .int 0, .int 0, .int 0, .ref ywa, .ref ybi, .ref ysi, .ref ynu, .ref ymo])), (ys, .inl (cI, 449, .inl (fun _ => 0))), (yt, .inl (cI, 7, .inl (fun _ => 0)))] H) (hD : va_D A [(h0, .inr (8, [.ref qh, .ref qk, .ref qd, .int 0, .ref qa, .ref qm, .ref qs, .ref qp, .ref ql, .ref qt, .ref qz, .ref qf])), (qh, .inr (1, [.int 0, .ref ae, .ref al, .ref au, .ref ao, .ref ar, .ref ak, .ref aw, .ref att, .ref ass])), (qa, .inr (0, [.int 0, .ref an])), (qf, .inl (cI, 7, .inl (fun _ => 0))), (g0, .inr (9, [.ref ys, .ref yk, .ref yo, .ref yt, .int 0, .ref yfa, .ref yfe, .int 0, .int 0, .int 0, .ref yro, .ref yhe, .ref ygr, .int 0, .int 0, .int 0, .ref yta, .int 0, .int 0, .int 0, .int 0, .int 0, .ref ywa, .ref ybi, .ref ysi, .ref ynu, .ref ymo])), (ys, .inl (cI, 449, .inl (fun _ => 0))), (yt, .inl (cI, 7, .inl (fun _ => 0)))]) (hS : va_S A s.heap H locs) (hl : lv_has ls 4 [(3, .int 0), (2, .ref g0), (1, .ref h0), (0, .ref b)]) : W p l e room_1 s m #[Value.ref b] below meth c H locs 82 4273 (lw_Z below #[Value.ref b] s) (F0 m 702 ls []) := by
  have hx := hF.1
  have hb := hF.2.1
  have hml := hF.2.2.1
  have hown := hF.2.2.2.1
  have hu : ∀ w ∈ wsU, w.before _ s = true := fun w h => hF.2.2.2.2 w (List.mem_cons_of_mem _ h)
  refine lv_aload_n hx hb dL_law_702 rfl (lv_at hl 2 rfl) ?_
  refine xc_Vi (wr := [(g0, .inr (9, [.ref ys, .ref yk, .ref yo, .ref yt, .int 0, .ref yfa, .ref yfe, .int 0, .int 0, .int 0, .ref yro, .ref yhe, .ref ygr, .int 0, .int 0, .int 0, .ref yta, .int 0, .int 0, .int 0, .int 0, .int 0, .ref ywa, .ref ybi, .ref ysi, .ref ynu, .ref ymo])), (ys, .inl (cI, 449, .inl (fun _ => 0))), (yt, .inl (cI, 7, .inl (fun _ => 0)))]) hF (c_X8_live l D cI cJ cZ cS sa H.size h0 qh qk qd qa qm qs qp ql qt qz qf ae al au ao ar ak aw att ass an ) kv_L_75 ⟨rfl, rfl, Nat.le_of_ble_eq_true rfl, Nat.le_of_ble_eq_true rfl⟩ ⟨Nat.le_of_ble_eq_true rfl, Nat.le_of_ble_eq_true rfl⟩ hK hN hP hD hS hA [0, 1, 2, 3] [4, 5, 6] rfl rfl rfl rfl (by decide) 0 rfl rfl rfl rfl hl.1 rfl (Nat.le_of_ble_eq_true rfl) dL_law_703 (fun r_1 u_r_1 H locs hw_r_1 hP hD hS => ?_)
  have hP : va_P D vwCl [(g0, .inr (9, [.ref ys, .ref yk, .ref yo, .ref yt, .int 0, .ref yfa, .ref yfe, .int 0, .int 0, .int 0, .ref yro, .ref yhe, .ref ygr, .int 0, .int 0, .int 0, .ref yta, .int 0, .int 0, .int 0, .int 0, .int 0, .ref ywa, .ref ybi, .ref ysi, .ref ynu, .ref ymo])), (ys, .inl (cI, 449, .inl (fun _ => 0))), (yt, .inl (cI, 7, .inl (fun _ => 0)))] H := hP
  have hD : va_D A [(g0, .inr (9, [.ref ys, .ref yk, .ref yo, .ref yt, .int 0, .ref yfa, .ref yfe, .int 0, .int 0, .int 0, .ref yro, .ref yhe, .ref ygr, .int 0, .int 0, .int 0, .ref yta, .int 0, .int 0, .int 0, .int 0, .int 0, .ref ywa, .ref ybi, .ref ysi, .ref ynu, .ref ymo])), (ys, .inl (cI, 449, .inl (fun _ => 0))), (yt, .inl (cI, 7, .inl (fun _ => 0)))] := hD
  subst hw_r_1
  refine lv_aload_n hx hb dL_law_706 rfl (lv_at hl 1 rfl) ?_
  refine xc_Vi (wr := []) hF (c_X9_live l D cI cJ cZ cS sa H.size g0 ys yk yo yt yfa yfe yro yhe ygr yta ywa ybi ysi ynu ymo ) kv_L_78 ⟨rfl, rfl, Nat.le_of_ble_eq_true rfl, Nat.le_of_ble_eq_true rfl⟩ ⟨Nat.le_of_ble_eq_true rfl, Nat.le_of_ble_eq_true rfl⟩ hK hN hP hD hS hA [0, 1, 2] [] rfl rfl rfl rfl (by decide) 0 rfl rfl rfl rfl hl.1 rfl (Nat.le_of_ble_eq_true rfl) dL_law_707 (fun r_2 u_r_2 H locs hw_r_2 hP hD hS => ?_)
  have hP : va_P D vwCl [] H := hP
  have hD : va_D A [] := hD
  subst hw_r_2
  refine lv_icmp_eq (tgt := 1483) hx hb dL_law_710 (by decide) (fun c_3 => ?_) (fun c_3 => absurd (by decide) c_3)
  exact law_end l hF hr hlk hX hbl hbA hAs hS hl
set_option maxHeartbeats 4000000 in
set_option maxRecDepth 100000 in
theorem law_15 {p : Program} {e : Env} {s : State} {m : MethodId} {below : List Frame} {meth : Method} {c : Code} (l : Launch) (D : va_G) (cI cJ cZ cS : ClassId) (sa : Nat → Nat) {b : Nat} {xs : Nat → Int32} (hF : CallFix p m c cL_law 4 s #[Value.ref b] (Cond.initialized RX8 :: wsU) RL) (hr : meth.sig.returnType = ret) (hlk : meth.locks = false) (hK : va_K D vwCl (xT cI cJ cZ cS) s) (hN : XN sa s) (hX : va_X b 6 xs s s.heap) (hbl : b < s.heap.size) {A : Nat → Prop} (hA : ∀ q : Nat, s.heap.size ≤ q → A q) (hbA : ¬ A b) (hAs : ∀ q, A q → s.heap.size ≤ q) (h0 qh qk qd qa qm qs qp ql qt qz qf ae al au ao ar ak aw att ass g0 ys yk yo yt yfa yfe yro yhe ygr yta ywa ybi ysi ynu ymo : Nat) {H : Heap} {locs : List Loc} {ls : Array Slot} (hP : va_P D vwCl [(h0, .inr (8, [.ref qh, .ref qk, .ref qd, .int 0, .ref qa, .ref qm, .ref qs, .ref qp, .ref ql, .ref qt, .ref qz, .ref qf])), (qh, .inr (1, [.int 0, .ref ae, .ref al, .ref au, .ref ao, .ref ar, .ref ak, .ref aw, .ref att, .ref ass])), (qf, .inl (cI, 7, .inl (fun _ => 0))), (g0, .inr (9, [.ref ys, .ref yk, .ref yo, .ref yt, .int 0, .ref yfa, .ref yfe, .int 0, .int 0, .int 0, .ref yro, .ref yhe, .ref ygr, .int 0, .int 0, .int 0, .ref yta, .int 0, .int 0, .int 0, .int 0, .int 0, .ref ywa, .ref ybi, .ref ysi, .ref ynu, .ref ymo])), (ys, .inl (cI, 449, .inl (fun _ => 0))), (yt, .inl (cI, 7, .inl (fun _ => 0)))] H) (hD : va_D A [(h0, .inr (8, [.ref qh, .ref qk, .ref qd, .int 0, .ref qa, .ref qm, .ref qs, .ref qp, .ref ql, .ref qt, .ref qz, .ref qf])), (qh, .inr (1, [.int 0, .ref ae, .ref al, .ref au, .ref ao, .ref ar, .ref ak, .ref aw, .ref att, .ref ass])), (qf, .inl (cI, 7, .inl (fun _ => 0))), (g0, .inr (9, [.ref ys, .ref yk, .ref yo, .ref yt, .int 0, .ref yfa, .ref yfe, .int 0, .int 0, .int 0, .ref yro, .ref yhe, .ref ygr, .int 0, .int 0, .int 0, .ref yta, .int 0, .int 0, .int 0, .int 0, .int 0, .ref ywa, .ref ybi, .ref ysi, .ref ynu, .ref ymo])), (ys, .inl (cI, 449, .inl (fun _ => 0))), (yt, .inl (cI, 7, .inl (fun _ => 0)))]) (hS : va_S A s.heap H locs) (hl : lv_has ls 4 [(3, .int 0), (2, .ref g0), (1, .ref h0), (0, .ref b)]) : W p l e room_1 s m #[Value.ref b] below meth c H locs 82 4273 (lw_Z below #[Value.ref b] s) (F0 m 715 ls []) := by
  have hx := hF.1
  have hb := hF.2.1
  have hml := hF.2.2.1
  have hown := hF.2.2.2.1
  have hu : ∀ w ∈ wsU, w.before _ s = true := fun w h => hF.2.2.2.2 w (List.mem_cons_of_mem _ h)
  refine lv_aload_n hx hb dL_law_715 rfl (lv_at hl 2 rfl) ?_
  refine lv_aload_n hx hb dL_law_716 rfl (lv_at hl 3 rfl) ?_
  refine lv_iload_n hx hb dL_law_717 rfl (lv_at hl 0 rfl) ?_
  refine lv_iconst (v := 1) hx hb dL_law_718 (by decide) ?_
  refine lv_iadd hx hb dL_law_719 ?_
  refine xl_i (y := 1) (by decide) ?_
  refine va_sld hx hb hX hbl hbA hS (xin 1 6 (by decide) (by decide)) dL_law_720 ?_
  refine xl_i (y := xs 1) rfl ?_
  refine xc_Vi (wr := [(g0, .inr (9, [.ref ys, .ref yk, .ref yo, .ref yt, .int 0, .ref yfa, .ref yfe, .int 0, .int 0, .int 0, .ref yro, .ref yhe, .ref ygr, .int 0, .int 0, .int 0, .ref yta, .int 0, .int 0, .int 0, .int 0, .int 0, .ref ywa, .ref ybi, .ref ysi, .ref ynu, .ref ymo])), (ys, .inl (cI, 449, .inl (fun _ => 0))), (yt, .inl (cI, 7, .inl (fun _ => 0)))]) hF (c_X8_trip l D cI cJ cZ cS sa H.size h0 qh qk qd qa qm qs qp ql qt qz qf ae al au ao ar ak aw att ass (xs 1) ) kv_L_79 ⟨rfl, rfl, Nat.le_of_ble_eq_true rfl, Nat.le_of_ble_eq_true rfl⟩ ⟨Nat.le_of_ble_eq_true rfl, Nat.le_of_ble_eq_true rfl⟩ hK hN hP hD hS hA [0, 1, 2] [3, 4, 5] rfl rfl rfl rfl (by decide) 0 rfl rfl rfl rfl hl.1 rfl (Nat.le_of_ble_eq_true rfl) dL_law_721 (fun r_1 u_r_1 H locs hw_r_1 hP hD hS => ?_)
  have hP : va_P D vwCl [(g0, .inr (9, [.ref ys, .ref yk, .ref yo, .ref yt, .int 0, .ref yfa, .ref yfe, .int 0, .int 0, .int 0, .ref yro, .ref yhe, .ref ygr, .int 0, .int 0, .int 0, .ref yta, .int 0, .int 0, .int 0, .int 0, .int 0, .ref ywa, .ref ybi, .ref ysi, .ref ynu, .ref ymo])), (ys, .inl (cI, 449, .inl (fun _ => 0))), (yt, .inl (cI, 7, .inl (fun _ => 0)))] H := hP
  have hD : va_D A [(g0, .inr (9, [.ref ys, .ref yk, .ref yo, .ref yt, .int 0, .ref yfa, .ref yfe, .int 0, .int 0, .int 0, .ref yro, .ref yhe, .ref ygr, .int 0, .int 0, .int 0, .ref yta, .int 0, .int 0, .int 0, .int 0, .int 0, .ref ywa, .ref ybi, .ref ysi, .ref ynu, .ref ymo])), (ys, .inl (cI, 449, .inl (fun _ => 0))), (yt, .inl (cI, 7, .inl (fun _ => 0)))] := hD
  subst hw_r_1
  refine lv_aload_n hx hb dL_law_724 rfl (lv_at hl 1 rfl) ?_
  refine lv_aload_n hx hb dL_law_725 rfl (lv_at hl 3 rfl) ?_
  refine lv_iload_n hx hb dL_law_726 rfl (lv_at hl 0 rfl) ?_
  refine lv_iconst (v := 1) hx hb dL_law_727 (by decide) ?_
  refine lv_iadd hx hb dL_law_728 ?_
  refine xl_i (y := 1) (by decide) ?_
  refine va_sld hx hb hX hbl hbA hS (xin 1 6 (by decide) (by decide)) dL_law_729 ?_
  refine xl_i (y := xs 1) rfl ?_
  refine xc_Vi (wr := []) hF (c_X9_trip l D cI cJ cZ cS sa H.size g0 ys yk yo yt yfa yfe yro yhe ygr yta ywa ybi ysi ynu ymo (xs 1) ) kv_L_82 ⟨rfl, rfl, Nat.le_of_ble_eq_true rfl, Nat.le_of_ble_eq_true rfl⟩ ⟨Nat.le_of_ble_eq_true rfl, Nat.le_of_ble_eq_true rfl⟩ hK hN hP hD hS hA [0, 1, 2] [] rfl rfl rfl rfl (by decide) 0 rfl rfl rfl rfl hl.1 rfl (Nat.le_of_ble_eq_true rfl) dL_law_730 (fun r_2 u_r_2 H locs hw_r_2 hP hD hS => ?_)
  have hP : va_P D vwCl [] H := hP
  have hD : va_D A [] := hD
  subst hw_r_2
  refine lv_icmp_eq (tgt := 1483) hx hb dL_law_733 (by decide) (fun c_3 => ?_) (fun c_3 => absurd (by decide) c_3)
  exact law_end l hF hr hlk hX hbl hbA hAs hS hl
set_option maxHeartbeats 4000000 in
set_option maxRecDepth 100000 in
theorem law_16 {p : Program} {e : Env} {s : State} {m : MethodId} {below : List Frame} {meth : Method} {c : Code} (l : Launch) (D : va_G) (cI cJ cZ cS : ClassId) (sa : Nat → Nat) {b : Nat} {xs : Nat → Int32} (hF : CallFix p m c cL_law 4 s #[Value.ref b] (Cond.initialized RX8 :: wsU) RL) (hr : meth.sig.returnType = ret) (hlk : meth.locks = false) (hK : va_K D vwCl (xT cI cJ cZ cS) s) (hN : XN sa s) (hX : va_X b 6 xs s s.heap) (hbl : b < s.heap.size) {A : Nat → Prop} (hA : ∀ q : Nat, s.heap.size ≤ q → A q) (hbA : ¬ A b) (hAs : ∀ q, A q → s.heap.size ≤ q) (h0 qh qk qd qa qm qs qp ql qt qz qf ae al au ao ar ak aw att ass g0 ys yk yo yt yfa yfe yro yhe ygr yta ywa ybi ysi ynu ymo : Nat) {H : Heap} {locs : List Loc} {ls : Array Slot} (hP : va_P D vwCl [(h0, .inr (8, [.ref qh, .ref qk, .ref qd, .int 0, .ref qa, .ref qm, .ref qs, .ref qp, .ref ql, .ref qt, .ref qz, .ref qf])), (qh, .inr (1, [.int 0, .ref ae, .ref al, .ref au, .ref ao, .ref ar, .ref ak, .ref aw, .ref att, .ref ass])), (qf, .inl (cI, 7, .inl (fun _ => 0))), (g0, .inr (9, [.ref ys, .ref yk, .ref yo, .ref yt, .int 0, .ref yfa, .ref yfe, .int 0, .int 0, .int 0, .ref yro, .ref yhe, .ref ygr, .int 0, .int 0, .int 0, .ref yta, .int 0, .int 0, .int 0, .int 0, .int 0, .ref ywa, .ref ybi, .ref ysi, .ref ynu, .ref ymo])), (ys, .inl (cI, 449, .inl (fun _ => 0))), (yt, .inl (cI, 7, .inl (fun _ => 0)))] H) (hD : va_D A [(h0, .inr (8, [.ref qh, .ref qk, .ref qd, .int 0, .ref qa, .ref qm, .ref qs, .ref qp, .ref ql, .ref qt, .ref qz, .ref qf])), (qh, .inr (1, [.int 0, .ref ae, .ref al, .ref au, .ref ao, .ref ar, .ref ak, .ref aw, .ref att, .ref ass])), (qf, .inl (cI, 7, .inl (fun _ => 0))), (g0, .inr (9, [.ref ys, .ref yk, .ref yo, .ref yt, .int 0, .ref yfa, .ref yfe, .int 0, .int 0, .int 0, .ref yro, .ref yhe, .ref ygr, .int 0, .int 0, .int 0, .ref yta, .int 0, .int 0, .int 0, .int 0, .int 0, .ref ywa, .ref ybi, .ref ysi, .ref ynu, .ref ymo])), (ys, .inl (cI, 449, .inl (fun _ => 0))), (yt, .inl (cI, 7, .inl (fun _ => 0)))]) (hS : va_S A s.heap H locs) (hl : lv_has ls 4 [(3, .int 0), (2, .ref g0), (1, .ref h0), (0, .ref b)]) : W p l e room_1 s m #[Value.ref b] below meth c H locs 82 4273 (lw_Z below #[Value.ref b] s) (F0 m 738 ls []) := by
  have hx := hF.1
  have hb := hF.2.1
  have hml := hF.2.2.1
  have hown := hF.2.2.2.1
  have hu : ∀ w ∈ wsU, w.before _ s = true := fun w h => hF.2.2.2.2 w (List.mem_cons_of_mem _ h)
  refine lv_aload_n hx hb dL_law_738 rfl (lv_at hl 2 rfl) ?_
  refine lv_aload_n hx hb dL_law_739 rfl (lv_at hl 3 rfl) ?_
  refine lv_iload_n hx hb dL_law_740 rfl (lv_at hl 0 rfl) ?_
  refine lv_iconst (v := 1) hx hb dL_law_741 (by decide) ?_
  refine lv_iadd hx hb dL_law_742 ?_
  refine xl_i (y := 1) (by decide) ?_
  refine va_sld hx hb hX hbl hbA hS (xin 1 6 (by decide) (by decide)) dL_law_743 ?_
  refine xl_i (y := xs 1) rfl ?_
  refine lv_aload_n hx hb dL_law_744 rfl (lv_at hl 3 rfl) ?_
  refine lv_iload_n hx hb dL_law_745 rfl (lv_at hl 0 rfl) ?_
  refine lv_iconst (v := 2) hx hb dL_law_746 (by decide) ?_
  refine lv_iadd hx hb dL_law_747 ?_
  refine xl_i (y := 2) (by decide) ?_
  refine va_sld hx hb hX hbl hbA hS (xin 2 6 (by decide) (by decide)) dL_law_748 ?_
  refine xl_i (y := xs 2) rfl ?_
  refine lv_aload_n hx hb dL_law_749 rfl (lv_at hl 3 rfl) ?_
  refine lv_iload_n hx hb dL_law_750 rfl (lv_at hl 0 rfl) ?_
  refine lv_iconst (v := 3) hx hb dL_law_751 (by decide) ?_
  refine lv_iadd hx hb dL_law_752 ?_
  refine xl_i (y := 3) (by decide) ?_
  refine va_sld hx hb hX hbl hbA hS (xin 3 6 (by decide) (by decide)) dL_law_753 ?_
  refine xl_i (y := xs 3) rfl ?_
  refine xc_Vi (wr := [(g0, .inr (9, [.ref ys, .ref yk, .ref yo, .ref yt, .int 0, .ref yfa, .ref yfe, .int 0, .int 0, .int 0, .ref yro, .ref yhe, .ref ygr, .int 0, .int 0, .int 0, .ref yta, .int 0, .int 0, .int 0, .int 0, .int 0, .ref ywa, .ref ybi, .ref ysi, .ref ynu, .ref ymo])), (ys, .inl (cI, 449, .inl (fun _ => 0))), (yt, .inl (cI, 7, .inl (fun _ => 0)))]) hF (c_X8_meet l D cI cJ cZ cS sa H.size h0 qh qk qd qa qm qs qp ql qt qz qf ae al au ao ar ak aw att ass (xs 1) (xs 2) (xs 3) ) kv_L_83 ⟨rfl, rfl, Nat.le_of_ble_eq_true rfl, Nat.le_of_ble_eq_true rfl⟩ ⟨Nat.le_of_ble_eq_true rfl, Nat.le_of_ble_eq_true rfl⟩ hK hN hP hD hS hA [0, 1, 2] [3, 4, 5] rfl rfl rfl rfl (by decide) 0 rfl rfl rfl rfl hl.1 rfl (Nat.le_of_ble_eq_true rfl) dL_law_754 (fun r_1 u_r_1 H locs hw_r_1 hP hD hS => ?_)
  have hP : va_P D vwCl [(g0, .inr (9, [.ref ys, .ref yk, .ref yo, .ref yt, .int 0, .ref yfa, .ref yfe, .int 0, .int 0, .int 0, .ref yro, .ref yhe, .ref ygr, .int 0, .int 0, .int 0, .ref yta, .int 0, .int 0, .int 0, .int 0, .int 0, .ref ywa, .ref ybi, .ref ysi, .ref ynu, .ref ymo])), (ys, .inl (cI, 449, .inl (fun _ => 0))), (yt, .inl (cI, 7, .inl (fun _ => 0)))] H := hP
  have hD : va_D A [(g0, .inr (9, [.ref ys, .ref yk, .ref yo, .ref yt, .int 0, .ref yfa, .ref yfe, .int 0, .int 0, .int 0, .ref yro, .ref yhe, .ref ygr, .int 0, .int 0, .int 0, .ref yta, .int 0, .int 0, .int 0, .int 0, .int 0, .ref ywa, .ref ybi, .ref ysi, .ref ynu, .ref ymo])), (ys, .inl (cI, 449, .inl (fun _ => 0))), (yt, .inl (cI, 7, .inl (fun _ => 0)))] := hD
  subst hw_r_1
  refine lv_aload_n hx hb dL_law_757 rfl (lv_at hl 1 rfl) ?_
  refine lv_aload_n hx hb dL_law_758 rfl (lv_at hl 3 rfl) ?_
  refine lv_iload_n hx hb dL_law_759 rfl (lv_at hl 0 rfl) ?_
  refine lv_iconst (v := 1) hx hb dL_law_760 (by decide) ?_
  refine lv_iadd hx hb dL_law_761 ?_
  refine xl_i (y := 1) (by decide) ?_
  refine va_sld hx hb hX hbl hbA hS (xin 1 6 (by decide) (by decide)) dL_law_762 ?_
  refine xl_i (y := xs 1) rfl ?_
  refine lv_aload_n hx hb dL_law_763 rfl (lv_at hl 3 rfl) ?_
  refine lv_iload_n hx hb dL_law_764 rfl (lv_at hl 0 rfl) ?_
  refine lv_iconst (v := 2) hx hb dL_law_765 (by decide) ?_
  refine lv_iadd hx hb dL_law_766 ?_
  refine xl_i (y := 2) (by decide) ?_
  refine va_sld hx hb hX hbl hbA hS (xin 2 6 (by decide) (by decide)) dL_law_767 ?_
  refine xl_i (y := xs 2) rfl ?_
  refine lv_aload_n hx hb dL_law_768 rfl (lv_at hl 3 rfl) ?_
  refine lv_iload_n hx hb dL_law_769 rfl (lv_at hl 0 rfl) ?_
  refine lv_iconst (v := 3) hx hb dL_law_770 (by decide) ?_
  refine lv_iadd hx hb dL_law_771 ?_
  refine xl_i (y := 3) (by decide) ?_
  refine va_sld hx hb hX hbl hbA hS (xin 3 6 (by decide) (by decide)) dL_law_772 ?_
  refine xl_i (y := xs 3) rfl ?_
  refine xc_Vi (wr := []) hF (c_X9_meet l D cI cJ cZ cS sa H.size g0 ys yk yo yt yfa yfe yro yhe ygr yta ywa ybi ysi ynu ymo (xs 1) (xs 2) (xs 3) ) kv_L_86 ⟨rfl, rfl, Nat.le_of_ble_eq_true rfl, Nat.le_of_ble_eq_true rfl⟩ ⟨Nat.le_of_ble_eq_true rfl, Nat.le_of_ble_eq_true rfl⟩ hK hN hP hD hS hA [0, 1, 2] [] rfl rfl rfl rfl (by decide) 0 rfl rfl rfl rfl hl.1 rfl (Nat.le_of_ble_eq_true rfl) dL_law_773 (fun r_2 u_r_2 H locs hw_r_2 hP hD hS => ?_)
  have hP : va_P D vwCl [] H := hP
  have hD : va_D A [] := hD
  subst hw_r_2
  refine lv_icmp_eq (tgt := 1483) hx hb dL_law_776 (by decide) (fun c_3 => ?_) (fun c_3 => absurd (by decide) c_3)
  exact law_end l hF hr hlk hX hbl hbA hAs hS hl
set_option maxHeartbeats 4000000 in
set_option maxRecDepth 100000 in
theorem law_17 {p : Program} {e : Env} {s : State} {m : MethodId} {below : List Frame} {meth : Method} {c : Code} (l : Launch) (D : va_G) (cI cJ cZ cS : ClassId) (sa : Nat → Nat) {b : Nat} {xs : Nat → Int32} (hF : CallFix p m c cL_law 4 s #[Value.ref b] (Cond.initialized RX8 :: wsU) RL) (hr : meth.sig.returnType = ret) (hlk : meth.locks = false) (hK : va_K D vwCl (xT cI cJ cZ cS) s) (hN : XN sa s) (hX : va_X b 6 xs s s.heap) (hbl : b < s.heap.size) {A : Nat → Prop} (hA : ∀ q : Nat, s.heap.size ≤ q → A q) (hbA : ¬ A b) (hAs : ∀ q, A q → s.heap.size ≤ q) (h0 qh qk qd qa qm qs qp ql qt qz qf ae al au ao ar ak aw att ass ch cc cq g0 ys yk yo yt yfa yfe yro yhe ygr yta ywa ybi ysi ynu ymo : Nat) {H : Heap} {locs : List Loc} {ls : Array Slot} (hP : va_P D vwCl [(h0, .inr (8, [.ref qh, .ref qk, .ref qd, .int 0, .ref qa, .ref qm, .ref qs, .ref qp, .ref ql, .ref qt, .ref qz, .ref qf])), (qh, .inr (1, [.int 0, .ref ae, .ref al, .ref au, .ref ao, .ref ar, .ref ak, .ref aw, .ref att, .ref ass])), (qp, .inr (5, [.ref ch, .ref cc, .ref cq])), (g0, .inr (9, [.ref ys, .ref yk, .ref yo, .ref yt, .int 0, .ref yfa, .ref yfe, .int 0, .int 0, .int 0, .ref yro, .ref yhe, .ref ygr, .int 0, .int 0, .int 0, .ref yta, .int 0, .int 0, .int 0, .int 0, .int 0, .ref ywa, .ref ybi, .ref ysi, .ref ynu, .ref ymo])), (ys, .inl (cI, 449, .inl (fun _ => 0)))] H) (hD : va_D A [(h0, .inr (8, [.ref qh, .ref qk, .ref qd, .int 0, .ref qa, .ref qm, .ref qs, .ref qp, .ref ql, .ref qt, .ref qz, .ref qf])), (qh, .inr (1, [.int 0, .ref ae, .ref al, .ref au, .ref ao, .ref ar, .ref ak, .ref aw, .ref att, .ref ass])), (qp, .inr (5, [.ref ch, .ref cc, .ref cq])), (g0, .inr (9, [.ref ys, .ref yk, .ref yo, .ref yt, .int 0, .ref yfa, .ref yfe, .int 0, .int 0, .int 0, .ref yro, .ref yhe, .ref ygr, .int 0, .int 0, .int 0, .ref yta, .int 0, .int 0, .int 0, .int 0, .int 0, .ref ywa, .ref ybi, .ref ysi, .ref ynu, .ref ymo])), (ys, .inl (cI, 449, .inl (fun _ => 0)))]) (hS : va_S A s.heap H locs) (hl : lv_has ls 4 [(3, .int 0), (2, .ref g0), (1, .ref h0), (0, .ref b)]) : W p l e room_1 s m #[Value.ref b] below meth c H locs 82 4273 (lw_Z below #[Value.ref b] s) (F0 m 781 ls []) := by
  have hx := hF.1
  have hb := hF.2.1
  have hml := hF.2.2.1
  have hown := hF.2.2.2.1
  have hu : ∀ w ∈ wsU, w.before _ s = true := fun w h => hF.2.2.2.2 w (List.mem_cons_of_mem _ h)
  refine lv_aload_n hx hb dL_law_781 rfl (lv_at hl 2 rfl) ?_
  refine xc_Vi (wr := [(g0, .inr (9, [.ref ys, .ref yk, .ref yo, .ref yt, .int 0, .ref yfa, .ref yfe, .int 0, .int 0, .int 0, .ref yro, .ref yhe, .ref ygr, .int 0, .int 0, .int 0, .ref yta, .int 0, .int 0, .int 0, .int 0, .int 0, .ref ywa, .ref ybi, .ref ysi, .ref ynu, .ref ymo])), (ys, .inl (cI, 449, .inl (fun _ => 0)))]) hF (c_X8_fit l D cI cJ cZ cS sa H.size h0 qh qk qd qa qm qs qp ql qt qz qf ae al au ao ar ak aw att ass ch cc cq ) kv_L_87 ⟨rfl, rfl, Nat.le_of_ble_eq_true rfl, Nat.le_of_ble_eq_true rfl⟩ ⟨Nat.le_of_ble_eq_true rfl, Nat.le_of_ble_eq_true rfl⟩ hK hN hP hD hS hA [0, 1, 2] [3, 4] rfl rfl rfl rfl (by decide) 0 rfl rfl rfl rfl hl.1 rfl (Nat.le_of_ble_eq_true rfl) dL_law_782 (fun r_1 u_r_1 H locs hw_r_1 hP hD hS => ?_)
  have hP : va_P D vwCl [(g0, .inr (9, [.ref ys, .ref yk, .ref yo, .ref yt, .int 0, .ref yfa, .ref yfe, .int 0, .int 0, .int 0, .ref yro, .ref yhe, .ref ygr, .int 0, .int 0, .int 0, .ref yta, .int 0, .int 0, .int 0, .int 0, .int 0, .ref ywa, .ref ybi, .ref ysi, .ref ynu, .ref ymo])), (ys, .inl (cI, 449, .inl (fun _ => 0)))] H := hP
  have hD : va_D A [(g0, .inr (9, [.ref ys, .ref yk, .ref yo, .ref yt, .int 0, .ref yfa, .ref yfe, .int 0, .int 0, .int 0, .ref yro, .ref yhe, .ref ygr, .int 0, .int 0, .int 0, .ref yta, .int 0, .int 0, .int 0, .int 0, .int 0, .ref ywa, .ref ybi, .ref ysi, .ref ynu, .ref ymo])), (ys, .inl (cI, 449, .inl (fun _ => 0)))] := hD
  subst hw_r_1
  refine lv_aload_n hx hb dL_law_785 rfl (lv_at hl 1 rfl) ?_
  refine xc_Vi (wr := []) hF (c_X9_fit l D cI cJ cZ cS sa H.size g0 ys yk yo yt yfa yfe yro yhe ygr yta ywa ybi ysi ynu ymo ) kv_L_90 ⟨rfl, rfl, Nat.le_of_ble_eq_true rfl, Nat.le_of_ble_eq_true rfl⟩ ⟨Nat.le_of_ble_eq_true rfl, Nat.le_of_ble_eq_true rfl⟩ hK hN hP hD hS hA [0, 1] [] rfl rfl rfl rfl (by decide) 0 rfl rfl rfl rfl hl.1 rfl (Nat.le_of_ble_eq_true rfl) dL_law_786 (fun r_2 u_r_2 H locs hw_r_2 hP hD hS => ?_)
  have hP : va_P D vwCl [] H := hP
  have hD : va_D A [] := hD
  subst hw_r_2
  refine lv_icmp_eq (tgt := 1483) hx hb dL_law_789 (by decide) (fun c_3 => ?_) (fun c_3 => absurd (by decide) c_3)
  exact law_end l hF hr hlk hX hbl hbA hAs hS hl
set_option maxHeartbeats 4000000 in
set_option maxRecDepth 100000 in
theorem law_18 {p : Program} {e : Env} {s : State} {m : MethodId} {below : List Frame} {meth : Method} {c : Code} (l : Launch) (D : va_G) (cI cJ cZ cS : ClassId) (sa : Nat → Nat) {b : Nat} {xs : Nat → Int32} (hF : CallFix p m c cL_law 4 s #[Value.ref b] (Cond.initialized RX8 :: wsU) RL) (hr : meth.sig.returnType = ret) (hlk : meth.locks = false) (hK : va_K D vwCl (xT cI cJ cZ cS) s) (hN : XN sa s) (hX : va_X b 6 xs s s.heap) (hbl : b < s.heap.size) {A : Nat → Prop} (hA : ∀ q : Nat, s.heap.size ≤ q → A q) (hbA : ¬ A b) (hAs : ∀ q, A q → s.heap.size ≤ q) (h0 qh qk qd qa qm qs qp ql qt qz qf ae al au ao ar ak aw att ass g0 ys yk yo yt yfa yfe yro yhe ygr yta ywa ybi ysi ynu ymo : Nat) {H : Heap} {locs : List Loc} {ls : Array Slot} (hP : va_P D vwCl [(h0, .inr (8, [.ref qh, .ref qk, .ref qd, .int 0, .ref qa, .ref qm, .ref qs, .ref qp, .ref ql, .ref qt, .ref qz, .ref qf])), (qh, .inr (1, [.int 0, .ref ae, .ref al, .ref au, .ref ao, .ref ar, .ref ak, .ref aw, .ref att, .ref ass])), (qf, .inl (cI, 7, .inl (fun _ => 0))), (g0, .inr (9, [.ref ys, .ref yk, .ref yo, .ref yt, .int 0, .ref yfa, .ref yfe, .int 0, .int 0, .int 0, .ref yro, .ref yhe, .ref ygr, .int 0, .int 0, .int 0, .ref yta, .int 0, .int 0, .int 0, .int 0, .int 0, .ref ywa, .ref ybi, .ref ysi, .ref ynu, .ref ymo])), (ys, .inl (cI, 449, .inl (fun _ => 0))), (yt, .inl (cI, 7, .inl (fun _ => 0)))] H) (hD : va_D A [(h0, .inr (8, [.ref qh, .ref qk, .ref qd, .int 0, .ref qa, .ref qm, .ref qs, .ref qp, .ref ql, .ref qt, .ref qz, .ref qf])), (qh, .inr (1, [.int 0, .ref ae, .ref al, .ref au, .ref ao, .ref ar, .ref ak, .ref aw, .ref att, .ref ass])), (qf, .inl (cI, 7, .inl (fun _ => 0))), (g0, .inr (9, [.ref ys, .ref yk, .ref yo, .ref yt, .int 0, .ref yfa, .ref yfe, .int 0, .int 0, .int 0, .ref yro, .ref yhe, .ref ygr, .int 0, .int 0, .int 0, .ref yta, .int 0, .int 0, .int 0, .int 0, .int 0, .ref ywa, .ref ybi, .ref ysi, .ref ynu, .ref ymo])), (ys, .inl (cI, 449, .inl (fun _ => 0))), (yt, .inl (cI, 7, .inl (fun _ => 0)))]) (hS : va_S A s.heap H locs) (hl : lv_has ls 4 [(3, .int 0), (2, .ref g0), (1, .ref h0), (0, .ref b)]) : W p l e room_1 s m #[Value.ref b] below meth c H locs 82 4273 (lw_Z below #[Value.ref b] s) (F0 m 794 ls []) := by
  have hx := hF.1
  have hb := hF.2.1
  have hml := hF.2.2.1
  have hown := hF.2.2.2.1
  have hu : ∀ w ∈ wsU, w.before _ s = true := fun w h => hF.2.2.2.2 w (List.mem_cons_of_mem _ h)
  refine lv_aload_n hx hb dL_law_794 rfl (lv_at hl 2 rfl) ?_
  refine lv_aload_n hx hb dL_law_795 rfl (lv_at hl 3 rfl) ?_
  refine lv_iload_n hx hb dL_law_796 rfl (lv_at hl 0 rfl) ?_
  refine lv_iconst (v := 1) hx hb dL_law_797 (by decide) ?_
  refine lv_iadd hx hb dL_law_798 ?_
  refine xl_i (y := 1) (by decide) ?_
  refine va_sld hx hb hX hbl hbA hS (xin 1 6 (by decide) (by decide)) dL_law_799 ?_
  refine xl_i (y := xs 1) rfl ?_
  refine xc_Vi (wr := [(g0, .inr (9, [.ref ys, .ref yk, .ref yo, .ref yt, .int 0, .ref yfa, .ref yfe, .int 0, .int 0, .int 0, .ref yro, .ref yhe, .ref ygr, .int 0, .int 0, .int 0, .ref yta, .int 0, .int 0, .int 0, .int 0, .int 0, .ref ywa, .ref ybi, .ref ysi, .ref ynu, .ref ymo])), (ys, .inl (cI, 449, .inl (fun _ => 0))), (yt, .inl (cI, 7, .inl (fun _ => 0)))]) hF (c_X8_height l D cI cJ cZ cS sa H.size h0 qh qk qd qa qm qs qp ql qt qz qf ae al au ao ar ak aw att ass (xs 1) ) kv_L_91 ⟨rfl, rfl, Nat.le_of_ble_eq_true rfl, Nat.le_of_ble_eq_true rfl⟩ ⟨Nat.le_of_ble_eq_true rfl, Nat.le_of_ble_eq_true rfl⟩ hK hN hP hD hS hA [0, 1, 2] [3, 4, 5] rfl rfl rfl rfl (by decide) 0 rfl rfl rfl rfl hl.1 rfl (Nat.le_of_ble_eq_true rfl) dL_law_800 (fun r_1 u_r_1 H locs hw_r_1 hP hD hS => ?_)
  have hP : va_P D vwCl [(g0, .inr (9, [.ref ys, .ref yk, .ref yo, .ref yt, .int 0, .ref yfa, .ref yfe, .int 0, .int 0, .int 0, .ref yro, .ref yhe, .ref ygr, .int 0, .int 0, .int 0, .ref yta, .int 0, .int 0, .int 0, .int 0, .int 0, .ref ywa, .ref ybi, .ref ysi, .ref ynu, .ref ymo])), (ys, .inl (cI, 449, .inl (fun _ => 0))), (yt, .inl (cI, 7, .inl (fun _ => 0)))] H := hP
  have hD : va_D A [(g0, .inr (9, [.ref ys, .ref yk, .ref yo, .ref yt, .int 0, .ref yfa, .ref yfe, .int 0, .int 0, .int 0, .ref yro, .ref yhe, .ref ygr, .int 0, .int 0, .int 0, .ref yta, .int 0, .int 0, .int 0, .int 0, .int 0, .ref ywa, .ref ybi, .ref ysi, .ref ynu, .ref ymo])), (ys, .inl (cI, 449, .inl (fun _ => 0))), (yt, .inl (cI, 7, .inl (fun _ => 0)))] := hD
  subst hw_r_1
  refine lv_aload_n hx hb dL_law_803 rfl (lv_at hl 1 rfl) ?_
  refine lv_aload_n hx hb dL_law_804 rfl (lv_at hl 3 rfl) ?_
  refine lv_iload_n hx hb dL_law_805 rfl (lv_at hl 0 rfl) ?_
  refine lv_iconst (v := 1) hx hb dL_law_806 (by decide) ?_
  refine lv_iadd hx hb dL_law_807 ?_
  refine xl_i (y := 1) (by decide) ?_
  refine va_sld hx hb hX hbl hbA hS (xin 1 6 (by decide) (by decide)) dL_law_808 ?_
  refine xl_i (y := xs 1) rfl ?_
  refine xc_Vi (wr := []) hF (c_X9_height l D cI cJ cZ cS sa H.size g0 ys yk yo yt yfa yfe yro yhe ygr yta ywa ybi ysi ynu ymo (xs 1) ) kv_L_94 ⟨rfl, rfl, Nat.le_of_ble_eq_true rfl, Nat.le_of_ble_eq_true rfl⟩ ⟨Nat.le_of_ble_eq_true rfl, Nat.le_of_ble_eq_true rfl⟩ hK hN hP hD hS hA [0, 1, 2] [] rfl rfl rfl rfl (by decide) 0 rfl rfl rfl rfl hl.1 rfl (Nat.le_of_ble_eq_true rfl) dL_law_809 (fun r_2 u_r_2 H locs hw_r_2 hP hD hS => ?_)
  have hP : va_P D vwCl [] H := hP
  have hD : va_D A [] := hD
  subst hw_r_2
  refine lv_icmp_eq (tgt := 1483) hx hb dL_law_812 (by decide) (fun c_3 => ?_) (fun c_3 => absurd (by decide) c_3)
  exact law_end l hF hr hlk hX hbl hbA hAs hS hl
set_option maxHeartbeats 4000000 in
set_option maxRecDepth 100000 in
theorem law_19 {p : Program} {e : Env} {s : State} {m : MethodId} {below : List Frame} {meth : Method} {c : Code} (l : Launch) (D : va_G) (cI cJ cZ cS : ClassId) (sa : Nat → Nat) {b : Nat} {xs : Nat → Int32} (hF : CallFix p m c cL_law 4 s #[Value.ref b] (Cond.initialized RX8 :: wsU) RL) (hr : meth.sig.returnType = ret) (hlk : meth.locks = false) (hK : va_K D vwCl (xT cI cJ cZ cS) s) (hN : XN sa s) (hX : va_X b 6 xs s s.heap) (hbl : b < s.heap.size) {A : Nat → Prop} (hA : ∀ q : Nat, s.heap.size ≤ q → A q) (hbA : ¬ A b) (hAs : ∀ q, A q → s.heap.size ≤ q) (h0 qh qk qd qa qm qs qp ql qt qz qf ae al au ao ar ak aw att ass g0 ys yk yo yt yfa yfe yro yhe ygr yta ywa ybi ysi ynu ymo : Nat) {H : Heap} {locs : List Loc} {ls : Array Slot} (hP : va_P D vwCl [(h0, .inr (8, [.ref qh, .ref qk, .ref qd, .int 0, .ref qa, .ref qm, .ref qs, .ref qp, .ref ql, .ref qt, .ref qz, .ref qf])), (qh, .inr (1, [.int 0, .ref ae, .ref al, .ref au, .ref ao, .ref ar, .ref ak, .ref aw, .ref att, .ref ass])), (qf, .inl (cI, 7, .inl (fun _ => 0))), (g0, .inr (9, [.ref ys, .ref yk, .ref yo, .ref yt, .int 0, .ref yfa, .ref yfe, .int 0, .int 0, .int 0, .ref yro, .ref yhe, .ref ygr, .int 0, .int 0, .int 0, .ref yta, .int 0, .int 0, .int 0, .int 0, .int 0, .ref ywa, .ref ybi, .ref ysi, .ref ynu, .ref ymo])), (ys, .inl (cI, 449, .inl (fun _ => 0))), (yt, .inl (cI, 7, .inl (fun _ => 0)))] H) (hD : va_D A [(h0, .inr (8, [.ref qh, .ref qk, .ref qd, .int 0, .ref qa, .ref qm, .ref qs, .ref qp, .ref ql, .ref qt, .ref qz, .ref qf])), (qh, .inr (1, [.int 0, .ref ae, .ref al, .ref au, .ref ao, .ref ar, .ref ak, .ref aw, .ref att, .ref ass])), (qf, .inl (cI, 7, .inl (fun _ => 0))), (g0, .inr (9, [.ref ys, .ref yk, .ref yo, .ref yt, .int 0, .ref yfa, .ref yfe, .int 0, .int 0, .int 0, .ref yro, .ref yhe, .ref ygr, .int 0, .int 0, .int 0, .ref yta, .int 0, .int 0, .int 0, .int 0, .int 0, .ref ywa, .ref ybi, .ref ysi, .ref ynu, .ref ymo])), (ys, .inl (cI, 449, .inl (fun _ => 0))), (yt, .inl (cI, 7, .inl (fun _ => 0)))]) (hS : va_S A s.heap H locs) (hl : lv_has ls 4 [(3, .int 0), (2, .ref g0), (1, .ref h0), (0, .ref b)]) : W p l e room_1 s m #[Value.ref b] below meth c H locs 82 4273 (lw_Z below #[Value.ref b] s) (F0 m 817 ls []) := by
  have hx := hF.1
  have hb := hF.2.1
  have hml := hF.2.2.1
  have hown := hF.2.2.2.1
  have hu : ∀ w ∈ wsU, w.before _ s = true := fun w h => hF.2.2.2.2 w (List.mem_cons_of_mem _ h)
  refine lv_aload_n hx hb dL_law_817 rfl (lv_at hl 2 rfl) ?_
  refine lv_aload_n hx hb dL_law_818 rfl (lv_at hl 3 rfl) ?_
  refine lv_iload_n hx hb dL_law_819 rfl (lv_at hl 0 rfl) ?_
  refine lv_iconst (v := 1) hx hb dL_law_820 (by decide) ?_
  refine lv_iadd hx hb dL_law_821 ?_
  refine xl_i (y := 1) (by decide) ?_
  refine va_sld hx hb hX hbl hbA hS (xin 1 6 (by decide) (by decide)) dL_law_822 ?_
  refine xl_i (y := xs 1) rfl ?_
  refine lv_aload_n hx hb dL_law_823 rfl (lv_at hl 3 rfl) ?_
  refine lv_iload_n hx hb dL_law_824 rfl (lv_at hl 0 rfl) ?_
  refine lv_iconst (v := 2) hx hb dL_law_825 (by decide) ?_
  refine lv_iadd hx hb dL_law_826 ?_
  refine xl_i (y := 2) (by decide) ?_
  refine va_sld hx hb hX hbl hbA hS (xin 2 6 (by decide) (by decide)) dL_law_827 ?_
  refine xl_i (y := xs 2) rfl ?_
  refine xc_Vi (wr := [(g0, .inr (9, [.ref ys, .ref yk, .ref yo, .ref yt, .int 0, .ref yfa, .ref yfe, .int 0, .int 0, .int 0, .ref yro, .ref yhe, .ref ygr, .int 0, .int 0, .int 0, .ref yta, .int 0, .int 0, .int 0, .int 0, .int 0, .ref ywa, .ref ybi, .ref ysi, .ref ynu, .ref ymo])), (ys, .inl (cI, 449, .inl (fun _ => 0))), (yt, .inl (cI, 7, .inl (fun _ => 0)))]) hF (c_X8_paper l D cI cJ cZ cS sa H.size h0 qh qk qd qa qm qs qp ql qt qz qf ae al au ao ar ak aw att ass (xs 1) (xs 2) ) kv_L_95 ⟨rfl, rfl, Nat.le_of_ble_eq_true rfl, Nat.le_of_ble_eq_true rfl⟩ ⟨Nat.le_of_ble_eq_true rfl, Nat.le_of_ble_eq_true rfl⟩ hK hN hP hD hS hA [0, 1, 2] [3, 4, 5] rfl rfl rfl rfl (by decide) 0 rfl rfl rfl rfl hl.1 rfl (Nat.le_of_ble_eq_true rfl) dL_law_828 (fun r_1 u_r_1 H locs hw_r_1 hP hD hS => ?_)
  have hP : va_P D vwCl [(g0, .inr (9, [.ref ys, .ref yk, .ref yo, .ref yt, .int 0, .ref yfa, .ref yfe, .int 0, .int 0, .int 0, .ref yro, .ref yhe, .ref ygr, .int 0, .int 0, .int 0, .ref yta, .int 0, .int 0, .int 0, .int 0, .int 0, .ref ywa, .ref ybi, .ref ysi, .ref ynu, .ref ymo])), (ys, .inl (cI, 449, .inl (fun _ => 0))), (yt, .inl (cI, 7, .inl (fun _ => 0)))] H := hP
  have hD : va_D A [(g0, .inr (9, [.ref ys, .ref yk, .ref yo, .ref yt, .int 0, .ref yfa, .ref yfe, .int 0, .int 0, .int 0, .ref yro, .ref yhe, .ref ygr, .int 0, .int 0, .int 0, .ref yta, .int 0, .int 0, .int 0, .int 0, .int 0, .ref ywa, .ref ybi, .ref ysi, .ref ynu, .ref ymo])), (ys, .inl (cI, 449, .inl (fun _ => 0))), (yt, .inl (cI, 7, .inl (fun _ => 0)))] := hD
  subst hw_r_1
  refine lv_aload_n hx hb dL_law_831 rfl (lv_at hl 1 rfl) ?_
  refine lv_aload_n hx hb dL_law_832 rfl (lv_at hl 3 rfl) ?_
  refine lv_iload_n hx hb dL_law_833 rfl (lv_at hl 0 rfl) ?_
  refine lv_iconst (v := 1) hx hb dL_law_834 (by decide) ?_
  refine lv_iadd hx hb dL_law_835 ?_
  refine xl_i (y := 1) (by decide) ?_
  refine va_sld hx hb hX hbl hbA hS (xin 1 6 (by decide) (by decide)) dL_law_836 ?_
  refine xl_i (y := xs 1) rfl ?_
  refine lv_aload_n hx hb dL_law_837 rfl (lv_at hl 3 rfl) ?_
  refine lv_iload_n hx hb dL_law_838 rfl (lv_at hl 0 rfl) ?_
  refine lv_iconst (v := 2) hx hb dL_law_839 (by decide) ?_
  refine lv_iadd hx hb dL_law_840 ?_
  refine xl_i (y := 2) (by decide) ?_
  refine va_sld hx hb hX hbl hbA hS (xin 2 6 (by decide) (by decide)) dL_law_841 ?_
  refine xl_i (y := xs 2) rfl ?_
  refine xc_Vi (wr := []) hF (c_X9_paper l D cI cJ cZ cS sa H.size g0 ys yk yo yt yfa yfe yro yhe ygr yta ywa ybi ysi ynu ymo (xs 1) (xs 2) ) kv_L_98 ⟨rfl, rfl, Nat.le_of_ble_eq_true rfl, Nat.le_of_ble_eq_true rfl⟩ ⟨Nat.le_of_ble_eq_true rfl, Nat.le_of_ble_eq_true rfl⟩ hK hN hP hD hS hA [0, 1, 2] [] rfl rfl rfl rfl (by decide) 0 rfl rfl rfl rfl hl.1 rfl (Nat.le_of_ble_eq_true rfl) dL_law_842 (fun r_2 u_r_2 H locs hw_r_2 hP hD hS => ?_)
  have hP : va_P D vwCl [] H := hP
  have hD : va_D A [] := hD
  subst hw_r_2
  refine lv_icmp_eq (tgt := 1483) hx hb dL_law_845 (by decide) (fun c_3 => ?_) (fun c_3 => absurd (by decide) c_3)
  exact law_end l hF hr hlk hX hbl hbA hAs hS hl
set_option maxHeartbeats 4000000 in
set_option maxRecDepth 100000 in
theorem law_20 {p : Program} {e : Env} {s : State} {m : MethodId} {below : List Frame} {meth : Method} {c : Code} (l : Launch) (D : va_G) (cI cJ cZ cS : ClassId) (sa : Nat → Nat) {b : Nat} {xs : Nat → Int32} (hF : CallFix p m c cL_law 4 s #[Value.ref b] (Cond.initialized RX8 :: wsU) RL) (hr : meth.sig.returnType = ret) (hlk : meth.locks = false) (hK : va_K D vwCl (xT cI cJ cZ cS) s) (hN : XN sa s) (hX : va_X b 6 xs s s.heap) (hbl : b < s.heap.size) {A : Nat → Prop} (hA : ∀ q : Nat, s.heap.size ≤ q → A q) (hbA : ¬ A b) (hAs : ∀ q, A q → s.heap.size ≤ q) (h0 qh qk qd qa qm qs qp ql qt qz qf ae al au ao ar ak aw att ass g0 ys yk yo yt yfa yfe yro yhe ygr yta ywa ybi ysi ynu ymo : Nat) {H : Heap} {locs : List Loc} {ls : Array Slot} (hP : va_P D vwCl [(h0, .inr (8, [.ref qh, .ref qk, .ref qd, .int 0, .ref qa, .ref qm, .ref qs, .ref qp, .ref ql, .ref qt, .ref qz, .ref qf])), (qh, .inr (1, [.int 0, .ref ae, .ref al, .ref au, .ref ao, .ref ar, .ref ak, .ref aw, .ref att, .ref ass])), (qf, .inl (cI, 7, .inl (fun _ => 0))), (g0, .inr (9, [.ref ys, .ref yk, .ref yo, .ref yt, .int 0, .ref yfa, .ref yfe, .int 0, .int 0, .int 0, .ref yro, .ref yhe, .ref ygr, .int 0, .int 0, .int 0, .ref yta, .int 0, .int 0, .int 0, .int 0, .int 0, .ref ywa, .ref ybi, .ref ysi, .ref ynu, .ref ymo])), (ys, .inl (cI, 449, .inl (fun _ => 0))), (yt, .inl (cI, 7, .inl (fun _ => 0)))] H) (hD : va_D A [(h0, .inr (8, [.ref qh, .ref qk, .ref qd, .int 0, .ref qa, .ref qm, .ref qs, .ref qp, .ref ql, .ref qt, .ref qz, .ref qf])), (qh, .inr (1, [.int 0, .ref ae, .ref al, .ref au, .ref ao, .ref ar, .ref ak, .ref aw, .ref att, .ref ass])), (qf, .inl (cI, 7, .inl (fun _ => 0))), (g0, .inr (9, [.ref ys, .ref yk, .ref yo, .ref yt, .int 0, .ref yfa, .ref yfe, .int 0, .int 0, .int 0, .ref yro, .ref yhe, .ref ygr, .int 0, .int 0, .int 0, .ref yta, .int 0, .int 0, .int 0, .int 0, .int 0, .ref ywa, .ref ybi, .ref ysi, .ref ynu, .ref ymo])), (ys, .inl (cI, 449, .inl (fun _ => 0))), (yt, .inl (cI, 7, .inl (fun _ => 0)))]) (hS : va_S A s.heap H locs) (hl : lv_has ls 4 [(3, .int 0), (2, .ref g0), (1, .ref h0), (0, .ref b)]) : W p l e room_1 s m #[Value.ref b] below meth c H locs 82 4273 (lw_Z below #[Value.ref b] s) (F0 m 850 ls []) := by
  have hx := hF.1
  have hb := hF.2.1
  have hml := hF.2.2.1
  have hown := hF.2.2.2.1
  have hu : ∀ w ∈ wsU, w.before _ s = true := fun w h => hF.2.2.2.2 w (List.mem_cons_of_mem _ h)
  refine lv_aload_n hx hb dL_law_850 rfl (lv_at hl 2 rfl) ?_
  refine xc_Vi (wr := [(g0, .inr (9, [.ref ys, .ref yk, .ref yo, .ref yt, .int 0, .ref yfa, .ref yfe, .int 0, .int 0, .int 0, .ref yro, .ref yhe, .ref ygr, .int 0, .int 0, .int 0, .ref yta, .int 0, .int 0, .int 0, .int 0, .int 0, .ref ywa, .ref ybi, .ref ysi, .ref ynu, .ref ymo])), (ys, .inl (cI, 449, .inl (fun _ => 0))), (yt, .inl (cI, 7, .inl (fun _ => 0)))]) hF (c_X8_worst l D cI cJ cZ cS sa H.size h0 qh qk qd qa qm qs qp ql qt qz qf ae al au ao ar ak aw att ass ) kv_L_99 ⟨rfl, rfl, Nat.le_of_ble_eq_true rfl, Nat.le_of_ble_eq_true rfl⟩ ⟨Nat.le_of_ble_eq_true rfl, Nat.le_of_ble_eq_true rfl⟩ hK hN hP hD hS hA [0, 1, 2] [3, 4, 5] rfl rfl rfl rfl (by decide) 0 rfl rfl rfl rfl hl.1 rfl (Nat.le_of_ble_eq_true rfl) dL_law_851 (fun r_1 u_r_1 H locs hw_r_1 hP hD hS => ?_)
  have hP : va_P D vwCl [(g0, .inr (9, [.ref ys, .ref yk, .ref yo, .ref yt, .int 0, .ref yfa, .ref yfe, .int 0, .int 0, .int 0, .ref yro, .ref yhe, .ref ygr, .int 0, .int 0, .int 0, .ref yta, .int 0, .int 0, .int 0, .int 0, .int 0, .ref ywa, .ref ybi, .ref ysi, .ref ynu, .ref ymo])), (ys, .inl (cI, 449, .inl (fun _ => 0))), (yt, .inl (cI, 7, .inl (fun _ => 0)))] H := hP
  have hD : va_D A [(g0, .inr (9, [.ref ys, .ref yk, .ref yo, .ref yt, .int 0, .ref yfa, .ref yfe, .int 0, .int 0, .int 0, .ref yro, .ref yhe, .ref ygr, .int 0, .int 0, .int 0, .ref yta, .int 0, .int 0, .int 0, .int 0, .int 0, .ref ywa, .ref ybi, .ref ysi, .ref ynu, .ref ymo])), (ys, .inl (cI, 449, .inl (fun _ => 0))), (yt, .inl (cI, 7, .inl (fun _ => 0)))] := hD
  subst hw_r_1
  refine lv_aload_n hx hb dL_law_854 rfl (lv_at hl 1 rfl) ?_
  refine xc_Vi (wr := []) hF (c_X9_worst l D cI cJ cZ cS sa H.size g0 ys yk yo yt yfa yfe yro yhe ygr yta ywa ybi ysi ynu ymo ) kv_L_102 ⟨rfl, rfl, Nat.le_of_ble_eq_true rfl, Nat.le_of_ble_eq_true rfl⟩ ⟨Nat.le_of_ble_eq_true rfl, Nat.le_of_ble_eq_true rfl⟩ hK hN hP hD hS hA [0, 1, 2] [] rfl rfl rfl rfl (by decide) 0 rfl rfl rfl rfl hl.1 rfl (Nat.le_of_ble_eq_true rfl) dL_law_855 (fun r_2 u_r_2 H locs hw_r_2 hP hD hS => ?_)
  have hP : va_P D vwCl [] H := hP
  have hD : va_D A [] := hD
  subst hw_r_2
  refine lv_icmp_eq (tgt := 1483) hx hb dL_law_858 (by decide) (fun c_3 => ?_) (fun c_3 => absurd (by decide) c_3)
  exact law_end l hF hr hlk hX hbl hbA hAs hS hl
set_option maxHeartbeats 4000000 in
set_option maxRecDepth 100000 in
theorem law_21 {p : Program} {e : Env} {s : State} {m : MethodId} {below : List Frame} {meth : Method} {c : Code} (l : Launch) (D : va_G) (cI cJ cZ cS : ClassId) (sa : Nat → Nat) {b : Nat} {xs : Nat → Int32} (hF : CallFix p m c cL_law 4 s #[Value.ref b] (Cond.initialized RX8 :: wsU) RL) (hr : meth.sig.returnType = ret) (hlk : meth.locks = false) (hK : va_K D vwCl (xT cI cJ cZ cS) s) (hN : XN sa s) (hX : va_X b 6 xs s s.heap) (hbl : b < s.heap.size) {A : Nat → Prop} (hA : ∀ q : Nat, s.heap.size ≤ q → A q) (hbA : ¬ A b) (hAs : ∀ q, A q → s.heap.size ≤ q) (h0 qh qk qd qa qm qs qp ql qt qz qf ae al au ao ar ak aw att ass g0 ys yk yo yt yfa yfe yro yhe ygr yta ywa ybi ysi ynu ymo : Nat) {H : Heap} {locs : List Loc} {ls : Array Slot} (hP : va_P D vwCl [(h0, .inr (8, [.ref qh, .ref qk, .ref qd, .int 0, .ref qa, .ref qm, .ref qs, .ref qp, .ref ql, .ref qt, .ref qz, .ref qf])), (qh, .inr (1, [.int 0, .ref ae, .ref al, .ref au, .ref ao, .ref ar, .ref ak, .ref aw, .ref att, .ref ass])), (qf, .inl (cI, 7, .inl (fun _ => 0))), (g0, .inr (9, [.ref ys, .ref yk, .ref yo, .ref yt, .int 0, .ref yfa, .ref yfe, .int 0, .int 0, .int 0, .ref yro, .ref yhe, .ref ygr, .int 0, .int 0, .int 0, .ref yta, .int 0, .int 0, .int 0, .int 0, .int 0, .ref ywa, .ref ybi, .ref ysi, .ref ynu, .ref ymo])), (ys, .inl (cI, 449, .inl (fun _ => 0))), (yt, .inl (cI, 7, .inl (fun _ => 0)))] H) (hD : va_D A [(h0, .inr (8, [.ref qh, .ref qk, .ref qd, .int 0, .ref qa, .ref qm, .ref qs, .ref qp, .ref ql, .ref qt, .ref qz, .ref qf])), (qh, .inr (1, [.int 0, .ref ae, .ref al, .ref au, .ref ao, .ref ar, .ref ak, .ref aw, .ref att, .ref ass])), (qf, .inl (cI, 7, .inl (fun _ => 0))), (g0, .inr (9, [.ref ys, .ref yk, .ref yo, .ref yt, .int 0, .ref yfa, .ref yfe, .int 0, .int 0, .int 0, .ref yro, .ref yhe, .ref ygr, .int 0, .int 0, .int 0, .ref yta, .int 0, .int 0, .int 0, .int 0, .int 0, .ref ywa, .ref ybi, .ref ysi, .ref ynu, .ref ymo])), (ys, .inl (cI, 449, .inl (fun _ => 0))), (yt, .inl (cI, 7, .inl (fun _ => 0)))]) (hS : va_S A s.heap H locs) (hl : lv_has ls 4 [(3, .int 0), (2, .ref g0), (1, .ref h0), (0, .ref b)]) : W p l e room_1 s m #[Value.ref b] below meth c H locs 82 4273 (lw_Z below #[Value.ref b] s) (F0 m 863 ls []) := by
  have hx := hF.1
  have hb := hF.2.1
  have hml := hF.2.2.1
  have hown := hF.2.2.2.1
  have hu : ∀ w ∈ wsU, w.before _ s = true := fun w h => hF.2.2.2.2 w (List.mem_cons_of_mem _ h)
  refine lv_aload_n hx hb dL_law_863 rfl (lv_at hl 2 rfl) ?_
  refine lv_aload_n hx hb dL_law_864 rfl (lv_at hl 3 rfl) ?_
  refine lv_iload_n hx hb dL_law_865 rfl (lv_at hl 0 rfl) ?_
  refine lv_iconst (v := 1) hx hb dL_law_866 (by decide) ?_
  refine lv_iadd hx hb dL_law_867 ?_
  refine xl_i (y := 1) (by decide) ?_
  refine va_sld hx hb hX hbl hbA hS (xin 1 6 (by decide) (by decide)) dL_law_868 ?_
  refine xl_i (y := xs 1) rfl ?_
  refine lv_aload_n hx hb dL_law_869 rfl (lv_at hl 3 rfl) ?_
  refine lv_iload_n hx hb dL_law_870 rfl (lv_at hl 0 rfl) ?_
  refine lv_iconst (v := 2) hx hb dL_law_871 (by decide) ?_
  refine lv_iadd hx hb dL_law_872 ?_
  refine xl_i (y := 2) (by decide) ?_
  refine va_sld hx hb hX hbl hbA hS (xin 2 6 (by decide) (by decide)) dL_law_873 ?_
  refine xl_i (y := xs 2) rfl ?_
  refine lv_aload_n hx hb dL_law_874 rfl (lv_at hl 3 rfl) ?_
  refine lv_iload_n hx hb dL_law_875 rfl (lv_at hl 0 rfl) ?_
  refine lv_iconst (v := 3) hx hb dL_law_876 (by decide) ?_
  refine lv_iadd hx hb dL_law_877 ?_
  refine xl_i (y := 3) (by decide) ?_
  refine va_sld hx hb hX hbl hbA hS (xin 3 6 (by decide) (by decide)) dL_law_878 ?_
  refine xl_i (y := xs 3) rfl ?_
  refine lv_aload_n hx hb dL_law_879 rfl (lv_at hl 3 rfl) ?_
  refine lv_iload_n hx hb dL_law_880 rfl (lv_at hl 0 rfl) ?_
  refine lv_iconst (v := 4) hx hb dL_law_881 (by decide) ?_
  refine lv_iadd hx hb dL_law_882 ?_
  refine xl_i (y := 4) (by decide) ?_
  refine va_sld hx hb hX hbl hbA hS (xin 4 6 (by decide) (by decide)) dL_law_883 ?_
  refine xl_i (y := xs 4) rfl ?_
  refine xc_Vi (wr := [(g0, .inr (9, [.ref ys, .ref yk, .ref yo, .ref yt, .int 0, .ref yfa, .ref yfe, .int 0, .int 0, .int 0, .ref yro, .ref yhe, .ref ygr, .int 0, .int 0, .int 0, .ref yta, .int 0, .int 0, .int 0, .int 0, .int 0, .ref ywa, .ref ybi, .ref ysi, .ref ynu, .ref ymo])), (ys, .inl (cI, 449, .inl (fun _ => 0))), (yt, .inl (cI, 7, .inl (fun _ => 0)))]) hF (c_X8_walk l D cI cJ cZ cS sa H.size h0 qh qk qd qa qm qs qp ql qt qz qf ae al au ao ar ak aw att ass (xs 1) (xs 2) (xs 3) (xs 4) ) kv_L_103 ⟨rfl, rfl, Nat.le_of_ble_eq_true rfl, Nat.le_of_ble_eq_true rfl⟩ ⟨Nat.le_of_ble_eq_true rfl, Nat.le_of_ble_eq_true rfl⟩ hK hN hP hD hS hA [0, 1, 2] [3, 4, 5] rfl rfl rfl rfl (by decide) 0 rfl rfl rfl rfl hl.1 rfl (Nat.le_of_ble_eq_true rfl) dL_law_884 (fun r_1 u_r_1 H locs hw_r_1 hP hD hS => ?_)
  have hP : va_P D vwCl [(g0, .inr (9, [.ref ys, .ref yk, .ref yo, .ref yt, .int 0, .ref yfa, .ref yfe, .int 0, .int 0, .int 0, .ref yro, .ref yhe, .ref ygr, .int 0, .int 0, .int 0, .ref yta, .int 0, .int 0, .int 0, .int 0, .int 0, .ref ywa, .ref ybi, .ref ysi, .ref ynu, .ref ymo])), (ys, .inl (cI, 449, .inl (fun _ => 0))), (yt, .inl (cI, 7, .inl (fun _ => 0)))] H := hP
  have hD : va_D A [(g0, .inr (9, [.ref ys, .ref yk, .ref yo, .ref yt, .int 0, .ref yfa, .ref yfe, .int 0, .int 0, .int 0, .ref yro, .ref yhe, .ref ygr, .int 0, .int 0, .int 0, .ref yta, .int 0, .int 0, .int 0, .int 0, .int 0, .ref ywa, .ref ybi, .ref ysi, .ref ynu, .ref ymo])), (ys, .inl (cI, 449, .inl (fun _ => 0))), (yt, .inl (cI, 7, .inl (fun _ => 0)))] := hD
  subst hw_r_1
  refine lv_aload_n hx hb dL_law_887 rfl (lv_at hl 1 rfl) ?_
  refine lv_aload_n hx hb dL_law_888 rfl (lv_at hl 3 rfl) ?_
  refine lv_iload_n hx hb dL_law_889 rfl (lv_at hl 0 rfl) ?_
  refine lv_iconst (v := 1) hx hb dL_law_890 (by decide) ?_
  refine lv_iadd hx hb dL_law_891 ?_
  refine xl_i (y := 1) (by decide) ?_
  refine va_sld hx hb hX hbl hbA hS (xin 1 6 (by decide) (by decide)) dL_law_892 ?_
  refine xl_i (y := xs 1) rfl ?_
  refine lv_aload_n hx hb dL_law_893 rfl (lv_at hl 3 rfl) ?_
  refine lv_iload_n hx hb dL_law_894 rfl (lv_at hl 0 rfl) ?_
  refine lv_iconst (v := 2) hx hb dL_law_895 (by decide) ?_
  refine lv_iadd hx hb dL_law_896 ?_
  refine xl_i (y := 2) (by decide) ?_
  refine va_sld hx hb hX hbl hbA hS (xin 2 6 (by decide) (by decide)) dL_law_897 ?_
  refine xl_i (y := xs 2) rfl ?_
  refine lv_aload_n hx hb dL_law_898 rfl (lv_at hl 3 rfl) ?_
  refine lv_iload_n hx hb dL_law_899 rfl (lv_at hl 0 rfl) ?_
  refine lv_iconst (v := 3) hx hb dL_law_900 (by decide) ?_
  refine lv_iadd hx hb dL_law_901 ?_
  refine xl_i (y := 3) (by decide) ?_
  refine va_sld hx hb hX hbl hbA hS (xin 3 6 (by decide) (by decide)) dL_law_902 ?_
  refine xl_i (y := xs 3) rfl ?_
  refine lv_aload_n hx hb dL_law_903 rfl (lv_at hl 3 rfl) ?_
  refine lv_iload_n hx hb dL_law_904 rfl (lv_at hl 0 rfl) ?_
  refine lv_iconst (v := 4) hx hb dL_law_905 (by decide) ?_
  refine lv_iadd hx hb dL_law_906 ?_
  refine xl_i (y := 4) (by decide) ?_
  refine va_sld hx hb hX hbl hbA hS (xin 4 6 (by decide) (by decide)) dL_law_907 ?_
  refine xl_i (y := xs 4) rfl ?_
  refine xc_Vi (wr := []) hF (c_X9_walk l D cI cJ cZ cS sa H.size g0 ys yk yo yt yfa yfe yro yhe ygr yta ywa ybi ysi ynu ymo (xs 1) (xs 2) (xs 3) (xs 4) ) kv_L_106 ⟨rfl, rfl, Nat.le_of_ble_eq_true rfl, Nat.le_of_ble_eq_true rfl⟩ ⟨Nat.le_of_ble_eq_true rfl, Nat.le_of_ble_eq_true rfl⟩ hK hN hP hD hS hA [0, 1, 2] [] rfl rfl rfl rfl (by decide) 0 rfl rfl rfl rfl hl.1 rfl (Nat.le_of_ble_eq_true rfl) dL_law_908 (fun r_2 u_r_2 H locs hw_r_2 hP hD hS => ?_)
  have hP : va_P D vwCl [] H := hP
  have hD : va_D A [] := hD
  subst hw_r_2
  refine lv_icmp_eq (tgt := 1483) hx hb dL_law_911 (by decide) (fun c_3 => ?_) (fun c_3 => absurd (by decide) c_3)
  exact law_end l hF hr hlk hX hbl hbA hAs hS hl
