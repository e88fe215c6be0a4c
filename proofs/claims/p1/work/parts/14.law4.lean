set_option maxHeartbeats 4000000 in
set_option maxRecDepth 100000 in
theorem law_33 {p : Program} {e : Env} {s : State} {m : MethodId} {below : List Frame} {meth : Method} {c : Code} (l : Launch) (D : va_G) (cI cJ cZ cS : ClassId) (sa : Nat → Nat) {b : Nat} {xs : Nat → Int32} (hF : CallFix p m c cL_law 4 s #[Value.ref b] (Cond.initialized RX8 :: wsU) RL) (hr : meth.sig.returnType = ret) (hlk : meth.locks = false) (hK : va_K D vwCl (xT cI cJ cZ cS) s) (hN : XN sa s) (hX : va_X b 6 xs s s.heap) (hbl : b < s.heap.size) {A : Nat → Prop} (hA : ∀ q : Nat, s.heap.size ≤ q → A q) (hbA : ¬ A b) (hAs : ∀ q, A q → s.heap.size ≤ q) (h0 qh qk qd qa qm qs qp ql qt qz qf ae al au ao ar ak aw att ass aRn aRp aWn aWp be bl bu bo br bk bw btt bss bRn bRp bWn bWp tb g0 ys yk yo yt yfa yfe yro yhe ygr yta ywa ybi ysi ynu ymo : Nat) {H : Heap} {locs : List Loc} {ls : Array Slot} (hP : va_P D vwCl [(h0, .inr (8, [.ref qh, .ref qk, .ref qd, .int 0, .ref qa, .ref qm, .ref qs, .ref qp, .ref ql, .ref qt, .ref qz, .ref qf])), (qh, .inr (1, [.int 0, .ref ae, .ref al, .ref au, .ref ao, .ref ar, .ref ak, .ref aw, .ref att, .ref ass])), (ae, .inl (cI, 10, .inl (fun _ => 0))), (al, .inl (cI, 100, .inl (fun _ => 0))), (au, .inl (cI, 100, .inl (fun _ => 0))), (ao, .inl (cI, 100, .inl (fun _ => 0))), (ar, .inr (3, [.int 0, .ref aRn, .ref aRp])), (aRn, .inl (cI, 8, .inl (fun _ => 0))), (aRp, .inl (cI, 48, .inl (fun _ => 0))), (ak, .inl (cI, 8, .inl (fun _ => 0))), (aw, .inr (3, [.int 0, .ref aWn, .ref aWp])), (aWn, .inl (cI, 8, .inl (fun _ => 0))), (aWp, .inl (cI, 48, .inl (fun _ => 0))), (att, .inl (cI, 8, .inl (fun _ => 0))), (ass, .inl (cI, 8, .inl (fun _ => 0))), (qd, .inr (1, [.int 0, .ref be, .ref bl, .ref bu, .ref bo, .ref br, .ref bk, .ref bw, .ref btt, .ref bss])), (be, .inl (cI, 10, .inl (fun _ => 0))), (bl, .inl (cI, 100, .inl (fun _ => 0))), (bu, .inl (cI, 100, .inl (fun _ => 0))), (bo, .inl (cI, 100, .inl (fun _ => 0))), (br, .inr (3, [.int 0, .ref bRn, .ref bRp])), (bRn, .inl (cI, 8, .inl (fun _ => 0))), (bRp, .inl (cI, 48, .inl (fun _ => 0))), (bk, .inl (cI, 8, .inl (fun _ => 0))), (bw, .inr (3, [.int 0, .ref bWn, .ref bWp])), (bWn, .inl (cI, 8, .inl (fun _ => 0))), (bWp, .inl (cI, 48, .inl (fun _ => 0))), (btt, .inl (cI, 8, .inl (fun _ => 0))), (bss, .inl (cI, 8, .inl (fun _ => 0))), (qt, .inr (7, [.int 0, .ref tb, .int 0, .int 0, .int 0, .int 0, .int 0])), (g0, .inr (9, [.ref ys, .ref yk, .ref yo, .ref yt, .int 0, .ref yfa, .ref yfe, .int 0, .int 0, .int 0, .ref yro, .ref yhe, .ref ygr, .int 0, .int 0, .int 0, .ref yta, .int 0, .int 0, .int 0, .int 0, .int 0, .ref ywa, .ref ybi, .ref ysi, .ref ynu, .ref ymo])), (ys, .inl (cI, 449, .inl (fun _ => 0))), (yo, .inl (cI, 449, .inl (fun _ => 0)))] H) (hD : va_D A [(h0, .inr (8, [.ref qh, .ref qk, .ref qd, .int 0, .ref qa, .ref qm, .ref qs, .ref qp, .ref ql, .ref qt, .ref qz, .ref qf])), (qh, .inr (1, [.int 0, .ref ae, .ref al, .ref au, .ref ao, .ref ar, .ref ak, .ref aw, .ref att, .ref ass])), (ae, .inl (cI, 10, .inl (fun _ => 0))), (al, .inl (cI, 100, .inl (fun _ => 0))), (au, .inl (cI, 100, .inl (fun _ => 0))), (ao, .inl (cI, 100, .inl (fun _ => 0))), (ar, .inr (3, [.int 0, .ref aRn, .ref aRp])), (aRn, .inl (cI, 8, .inl (fun _ => 0))), (aRp, .inl (cI, 48, .inl (fun _ => 0))), (ak, .inl (cI, 8, .inl (fun _ => 0))), (aw, .inr (3, [.int 0, .ref aWn, .ref aWp])), (aWn, .inl (cI, 8, .inl (fun _ => 0))), (aWp, .inl (cI, 48, .inl (fun _ => 0))), (att, .inl (cI, 8, .inl (fun _ => 0))), (ass, .inl (cI, 8, .inl (fun _ => 0))), (qd, .inr (1, [.int 0, .ref be, .ref bl, .ref bu, .ref bo, .ref br, .ref bk, .ref bw, .ref btt, .ref bss])), (be, .inl (cI, 10, .inl (fun _ => 0))), (bl, .inl (cI, 100, .inl (fun _ => 0))), (bu, .inl (cI, 100, .inl (fun _ => 0))), (bo, .inl (cI, 100, .inl (fun _ => 0))), (br, .inr (3, [.int 0, .ref bRn, .ref bRp])), (bRn, .inl (cI, 8, .inl (fun _ => 0))), (bRp, .inl (cI, 48, .inl (fun _ => 0))), (bk, .inl (cI, 8, .inl (fun _ => 0))), (bw, .inr (3, [.int 0, .ref bWn, .ref bWp])), (bWn, .inl (cI, 8, .inl (fun _ => 0))), (bWp, .inl (cI, 48, .inl (fun _ => 0))), (btt, .inl (cI, 8, .inl (fun _ => 0))), (bss, .inl (cI, 8, .inl (fun _ => 0))), (qt, .inr (7, [.int 0, .ref tb, .int 0, .int 0, .int 0, .int 0, .int 0])), (g0, .inr (9, [.ref ys, .ref yk, .ref yo, .ref yt, .int 0, .ref yfa, .ref yfe, .int 0, .int 0, .int 0, .ref yro, .ref yhe, .ref ygr, .int 0, .int 0, .int 0, .ref yta, .int 0, .int 0, .int 0, .int 0, .int 0, .ref ywa, .ref ybi, .ref ysi, .ref ynu, .ref ymo])), (ys, .inl (cI, 449, .inl (fun _ => 0))), (yo, .inl (cI, 449, .inl (fun _ => 0)))]) (hS : va_S A s.heap H locs) (hl : lv_has ls 4 [(3, .int 0), (2, .ref g0), (1, .ref h0), (0, .ref b)]) : W p l e room_1 s m #[Value.ref b] below meth c H locs 82 4273 (lw_Z below #[Value.ref b] s) (F0 m 1149 ls []) := by
  have hx := hF.1
  have hb := hF.2.1
  have hml := hF.2.2.1
  have hown := hF.2.2.2.1
  have hu : ∀ w ∈ wsU, w.before _ s = true := fun w h => hF.2.2.2.2 w (List.mem_cons_of_mem _ h)
  refine lv_aload_n hx hb dL_law_1149 rfl (lv_at hl 2 rfl) ?_
  refine xc_Vi (wr := [(g0, .inr (9, [.ref ys, .ref yk, .ref yo, .ref yt, .int 0, .ref yfa, .ref yfe, .int 0, .int 0, .int 0, .ref yro, .ref yhe, .ref ygr, .int 0, .int 0, .int 0, .ref yta, .int 0, .int 0, .int 0, .int 0, .int 0, .ref ywa, .ref ybi, .ref ysi, .ref ynu, .ref ymo])), (ys, .inl (cI, 449, .inl (fun _ => 0))), (yo, .inl (cI, 449, .inl (fun _ => 0)))]) hF (c_X8_land l D cI cJ cZ cS sa H.size h0 qh qk qd qa qm qs qp ql qt qz qf ae al au ao ar ak aw att ass aRn aRp aWn aWp be bl bu bo br bk bw btt bss bRn bRp bWn bWp tb ) kv_L_151 ⟨rfl, rfl, Nat.le_of_ble_eq_true rfl, Nat.le_of_ble_eq_true rfl⟩ ⟨Nat.le_of_ble_eq_true rfl, Nat.le_of_ble_eq_true rfl⟩ hK hN hP hD hS hA [0, 1, 2, 3, 4, 5, 6, 7, 8, 9, 10, 11, 12, 13, 14, 15, 16, 17, 18, 19, 20, 21, 22, 23, 24, 25, 26, 27, 28, 29] [30, 31, 32] rfl rfl rfl rfl (by decide) 0 rfl rfl rfl rfl hl.1 rfl (Nat.le_of_ble_eq_true rfl) dL_law_1150 (fun r_1 u_r_1 H locs hw_r_1 hP hD hS => ?_)
  have hP : va_P D vwCl [(g0, .inr (9, [.ref ys, .ref yk, .ref yo, .ref yt, .int 0, .ref yfa, .ref yfe, .int 0, .int 0, .int 0, .ref yro, .ref yhe, .ref ygr, .int 0, .int 0, .int 0, .ref yta, .int 0, .int 0, .int 0, .int 0, .int 0, .ref ywa, .ref ybi, .ref ysi, .ref ynu, .ref ymo])), (ys, .inl (cI, 449, .inl (fun _ => 0))), (yo, .inl (cI, 449, .inl (fun _ => 0)))] H := hP
  have hD : va_D A [(g0, .inr (9, [.ref ys, .ref yk, .ref yo, .ref yt, .int 0, .ref yfa, .ref yfe, .int 0, .int 0, .int 0, .ref yro, .ref yhe, .ref ygr, .int 0, .int 0, .int 0, .ref yta, .int 0, .int 0, .int 0, .int 0, .int 0, .ref ywa, .ref ybi, .ref ysi, .ref ynu, .ref ymo])), (ys, .inl (cI, 449, .inl (fun _ => 0))), (yo, .inl (cI, 449, .inl (fun _ => 0)))] := hD
  subst hw_r_1
  refine lv_aload_n hx hb dL_law_1153 rfl (lv_at hl 1 rfl) ?_
  refine xc_Vi (wr := []) hF (c_X9_land l D cI cJ cZ cS sa H.size g0 ys yk yo yt yfa yfe yro yhe ygr yta ywa ybi ysi ynu ymo ) kv_L_154 ⟨rfl, rfl, Nat.le_of_ble_eq_true rfl, Nat.le_of_ble_eq_true rfl⟩ ⟨Nat.le_of_ble_eq_true rfl, Nat.le_of_ble_eq_true rfl⟩ hK hN hP hD hS hA [0, 1, 2] [] rfl rfl rfl rfl (by decide) 0 rfl rfl rfl rfl hl.1 rfl (Nat.le_of_ble_eq_true rfl) dL_law_1154 (fun r_2 u_r_2 H locs hw_r_2 hP hD hS => ?_)
  have hP : va_P D vwCl [] H := hP
  have hD : va_D A [] := hD
  subst hw_r_2
  refine lv_icmp_eq (tgt := 1483) hx hb dL_law_1157 (by decide) (fun c_3 => ?_) (fun c_3 => absurd (by decide) c_3)
  exact law_end l hF hr hlk hX hbl hbA hAs hS hl
set_option maxHeartbeats 4000000 in
set_option maxRecDepth 100000 in
theorem law_34 {p : Program} {e : Env} {s : State} {m : MethodId} {below : List Frame} {meth : Method} {c : Code} (l : Launch) (D : va_G) (cI cJ cZ cS : ClassId) (sa : Nat → Nat) {b : Nat} {xs : Nat → Int32} (hF : CallFix p m c cL_law 4 s #[Value.ref b] (Cond.initialized RX8 :: wsU) RL) (hr : meth.sig.returnType = ret) (hlk : meth.locks = false) (hK : va_K D vwCl (xT cI cJ cZ cS) s) (hN : XN sa s) (hX : va_X b 6 xs s s.heap) (hbl : b < s.heap.size) {A : Nat → Prop} (hA : ∀ q : Nat, s.heap.size ≤ q → A q) (hbA : ¬ A b) (hAs : ∀ q, A q → s.heap.size ≤ q) (h0 qh qk qd qa qm qs qp ql qt qz qf s0 s1 s2 s3 sn0 sn1 sn2 sn3 g0 ys yk yo yt yfa yfe yro yhe ygr yta ywa ybi ysi ynu ymo : Nat) {H : Heap} {locs : List Loc} {ls : Array Slot} (hP : va_P D vwCl [(h0, .inr (8, [.ref qh, .ref qk, .ref qd, .int 0, .ref qa, .ref qm, .ref qs, .ref qp, .ref ql, .ref qt, .ref qz, .ref qf])), (qz, .inl (cS, 4, .inr (.inr (.inr (.inr (xSh s0 s1 s2 s3)))))), (s0, .inr (4, [.int 0, .int 0, .ref sn0])), (s1, .inr (4, [.int 0, .int 0, .ref sn1])), (s2, .inr (4, [.int 0, .int 0, .ref sn2])), (s3, .inr (4, [.int 0, .int 0, .ref sn3])), (sn0, .inl (cJ, 40, .inr (.inl (fun _ => 0)))), (sn1, .inl (cJ, 40, .inr (.inl (fun _ => 0)))), (sn2, .inl (cJ, 40, .inr (.inl (fun _ => 0)))), (sn3, .inl (cJ, 40, .inr (.inl (fun _ => 0)))), (qf, .inl (cI, 7, .inl (fun _ => 0))), (g0, .inr (9, [.ref ys, .ref yk, .ref yo, .ref yt, .int 0, .ref yfa, .ref yfe, .int 0, .int 0, .int 0, .ref yro, .ref yhe, .ref ygr, .int 0, .int 0, .int 0, .ref yta, .int 0, .int 0, .int 0, .int 0, .int 0, .ref ywa, .ref ybi, .ref ysi, .ref ynu, .ref ymo])), (ybi, .inl (cI, 4, .inl (fun _ => 0))), (ysi, .inl (cI, 4, .inl (fun _ => 0))), (ynu, .inl (cJ, 160, .inr (.inl (fun _ => 0)))), (yt, .inl (cI, 7, .inl (fun _ => 0)))] H) (hD : va_D A [(h0, .inr (8, [.ref qh, .ref qk, .ref qd, .int 0, .ref qa, .ref qm, .ref qs, .ref qp, .ref ql, .ref qt, .ref qz, .ref qf])), (qz, .inl (cS, 4, .inr (.inr (.inr (.inr (xSh s0 s1 s2 s3)))))), (s0, .inr (4, [.int 0, .int 0, .ref sn0])), (s1, .inr (4, [.int 0, .int 0, .ref sn1])), (s2, .inr (4, [.int 0, .int 0, .ref sn2])), (s3, .inr (4, [.int 0, .int 0, .ref sn3])), (sn0, .inl (cJ, 40, .inr (.inl (fun _ => 0)))), (sn1, .inl (cJ, 40, .inr (.inl (fun _ => 0)))), (sn2, .inl (cJ, 40, .inr (.inl (fun _ => 0)))), (sn3, .inl (cJ, 40, .inr (.inl (fun _ => 0)))), (qf, .inl (cI, 7, .inl (fun _ => 0))), (g0, .inr (9, [.ref ys, .ref yk, .ref yo, .ref yt, .int 0, .ref yfa, .ref yfe, .int 0, .int 0, .int 0, .ref yro, .ref yhe, .ref ygr, .int 0, .int 0, .int 0, .ref yta, .int 0, .int 0, .int 0, .int 0, .int 0, .ref ywa, .ref ybi, .ref ysi, .ref ynu, .ref ymo])), (ybi, .inl (cI, 4, .inl (fun _ => 0))), (ysi, .inl (cI, 4, .inl (fun _ => 0))), (ynu, .inl (cJ, 160, .inr (.inl (fun _ => 0)))), (yt, .inl (cI, 7, .inl (fun _ => 0)))]) (hS : va_S A s.heap H locs) (hl : lv_has ls 4 [(3, .int 0), (2, .ref g0), (1, .ref h0), (0, .ref b)]) : W p l e room_1 s m #[Value.ref b] below meth c H locs 82 4273 (lw_Z below #[Value.ref b] s) (F0 m 1162 ls []) := by
  have hx := hF.1
  have hb := hF.2.1
  have hml := hF.2.2.1
  have hown := hF.2.2.2.1
  have hu : ∀ w ∈ wsU, w.before _ s = true := fun w h => hF.2.2.2.2 w (List.mem_cons_of_mem _ h)
  refine lv_aload_n hx hb dL_law_1162 rfl (lv_at hl 2 rfl) ?_
  refine lv_aload_n hx hb dL_law_1163 rfl (lv_at hl 3 rfl) ?_
  refine lv_iload_n hx hb dL_law_1164 rfl (lv_at hl 0 rfl) ?_
  refine lv_iconst (v := 1) hx hb dL_law_1165 (by decide) ?_
  refine lv_iadd hx hb dL_law_1166 ?_
  refine xl_i (y := 1) (by decide) ?_
  refine va_sld hx hb hX hbl hbA hS (xin 1 6 (by decide) (by decide)) dL_law_1167 ?_
  refine xl_i (y := xs 1) rfl ?_
  refine lv_aload_n hx hb dL_law_1168 rfl (lv_at hl 3 rfl) ?_
  refine lv_iload_n hx hb dL_law_1169 rfl (lv_at hl 0 rfl) ?_
  refine lv_iconst (v := 2) hx hb dL_law_1170 (by decide) ?_
  refine lv_iadd hx hb dL_law_1171 ?_
  refine xl_i (y := 2) (by decide) ?_
  refine va_sld hx hb hX hbl hbA hS (xin 2 6 (by decide) (by decide)) dL_law_1172 ?_
  refine xl_i (y := xs 2) rfl ?_
  refine lv_aload_n hx hb dL_law_1173 rfl (lv_at hl 3 rfl) ?_
  refine lv_iload_n hx hb dL_law_1174 rfl (lv_at hl 0 rfl) ?_
  refine lv_iconst (v := 3) hx hb dL_law_1175 (by decide) ?_
  refine lv_iadd hx hb dL_law_1176 ?_
  refine xl_i (y := 3) (by decide) ?_
  refine va_sld hx hb hX hbl hbA hS (xin 3 6 (by decide) (by decide)) dL_law_1177 ?_
  refine xl_i (y := xs 3) rfl ?_
  refine xc_Vi (wr := [(g0, .inr (9, [.ref ys, .ref yk, .ref yo, .ref yt, .int 0, .ref yfa, .ref yfe, .int 0, .int 0, .int 0, .ref yro, .ref yhe, .ref ygr, .int 0, .int 0, .int 0, .ref yta, .int 0, .int 0, .int 0, .int 0, .int 0, .ref ywa, .ref ybi, .ref ysi, .ref ynu, .ref ymo])), (ybi, .inl (cI, 4, .inl (fun _ => 0))), (ysi, .inl (cI, 4, .inl (fun _ => 0))), (ynu, .inl (cJ, 160, .inr (.inl (fun _ => 0)))), (yt, .inl (cI, 7, .inl (fun _ => 0)))]) hF (c_X8_sheet l D cI cJ cZ cS sa H.size h0 qh qk qd qa qm qs qp ql qt qz qf s0 s1 s2 s3 sn0 sn1 sn2 sn3 (xs 1) (xs 2) (xs 3) ) kv_L_155 ⟨rfl, rfl, Nat.le_of_ble_eq_true rfl, Nat.le_of_ble_eq_true rfl⟩ ⟨Nat.le_of_ble_eq_true rfl, Nat.le_of_ble_eq_true rfl⟩ hK hN hP hD hS hA [0, 1, 2, 3, 4, 5, 6, 7, 8, 9, 10] [11, 12, 13, 14, 15] rfl rfl rfl rfl (by decide) 0 rfl rfl rfl rfl hl.1 rfl (Nat.le_of_ble_eq_true rfl) dL_law_1178 (fun r_1 u_r_1 H locs hw_r_1 hP hD hS => ?_)
  have hP : va_P D vwCl [(g0, .inr (9, [.ref ys, .ref yk, .ref yo, .ref yt, .int 0, .ref yfa, .ref yfe, .int 0, .int 0, .int 0, .ref yro, .ref yhe, .ref ygr, .int 0, .int 0, .int 0, .ref yta, .int 0, .int 0, .int 0, .int 0, .int 0, .ref ywa, .ref ybi, .ref ysi, .ref ynu, .ref ymo])), (ybi, .inl (cI, 4, .inl (fun _ => 0))), (ysi, .inl (cI, 4, .inl (fun _ => 0))), (ynu, .inl (cJ, 160, .inr (.inl (fun _ => 0)))), (yt, .inl (cI, 7, .inl (fun _ => 0)))] H := hP
  have hD : va_D A [(g0, .inr (9, [.ref ys, .ref yk, .ref yo, .ref yt, .int 0, .ref yfa, .ref yfe, .int 0, .int 0, .int 0, .ref yro, .ref yhe, .ref ygr, .int 0, .int 0, .int 0, .ref yta, .int 0, .int 0, .int 0, .int 0, .int 0, .ref ywa, .ref ybi, .ref ysi, .ref ynu, .ref ymo])), (ybi, .inl (cI, 4, .inl (fun _ => 0))), (ysi, .inl (cI, 4, .inl (fun _ => 0))), (ynu, .inl (cJ, 160, .inr (.inl (fun _ => 0)))), (yt, .inl (cI, 7, .inl (fun _ => 0)))] := hD
  subst hw_r_1
  refine lv_aload_n hx hb dL_law_1181 rfl (lv_at hl 1 rfl) ?_
  refine lv_aload_n hx hb dL_law_1182 rfl (lv_at hl 3 rfl) ?_
  refine lv_iload_n hx hb dL_law_1183 rfl (lv_at hl 0 rfl) ?_
  refine lv_iconst (v := 1) hx hb dL_law_1184 (by decide) ?_
  refine lv_iadd hx hb dL_law_1185 ?_
  refine xl_i (y := 1) (by decide) ?_
  refine va_sld hx hb hX hbl hbA hS (xin 1 6 (by decide) (by decide)) dL_law_1186 ?_
  refine xl_i (y := xs 1) rfl ?_
  refine lv_aload_n hx hb dL_law_1187 rfl (lv_at hl 3 rfl) ?_
  refine lv_iload_n hx hb dL_law_1188 rfl (lv_at hl 0 rfl) ?_
  refine lv_iconst (v := 2) hx hb dL_law_1189 (by decide) ?_
  refine lv_iadd hx hb dL_law_1190 ?_
  refine xl_i (y := 2) (by decide) ?_
  refine va_sld hx hb hX hbl hbA hS (xin 2 6 (by decide) (by decide)) dL_law_1191 ?_
  refine xl_i (y := xs 2) rfl ?_
  refine lv_aload_n hx hb dL_law_1192 rfl (lv_at hl 3 rfl) ?_
  refine lv_iload_n hx hb dL_law_1193 rfl (lv_at hl 0 rfl) ?_
  refine lv_iconst (v := 3) hx hb dL_law_1194 (by decide) ?_
  refine lv_iadd hx hb dL_law_1195 ?_
  refine xl_i (y := 3) (by decide) ?_
  refine va_sld hx hb hX hbl hbA hS (xin 3 6 (by decide) (by decide)) dL_law_1196 ?_
  refine xl_i (y := xs 3) rfl ?_
  refine xc_Vi (wr := []) hF (c_X9_sheet l D cI cJ cZ cS sa H.size g0 ys yk yo yt yfa yfe yro yhe ygr yta ywa ybi ysi ynu ymo (xs 1) (xs 2) (xs 3) ) kv_L_158 ⟨rfl, rfl, Nat.le_of_ble_eq_true rfl, Nat.le_of_ble_eq_true rfl⟩ ⟨Nat.le_of_ble_eq_true rfl, Nat.le_of_ble_eq_true rfl⟩ hK hN hP hD hS hA [0, 1, 2, 3, 4] [] rfl rfl rfl rfl (by decide) 0 rfl rfl rfl rfl hl.1 rfl (Nat.le_of_ble_eq_true rfl) dL_law_1197 (fun r_2 u_r_2 H locs hw_r_2 hP hD hS => ?_)
  have hP : va_P D vwCl [] H := hP
  have hD : va_D A [] := hD
  subst hw_r_2
  refine lv_icmp_eq (tgt := 1483) hx hb dL_law_1200 (by decide) (fun c_3 => ?_) (fun c_3 => absurd rfl c_3)
  exact law_end l hF hr hlk hX hbl hbA hAs hS hl
set_option maxHeartbeats 4000000 in
set_option maxRecDepth 100000 in
theorem law_35 {p : Program} {e : Env} {s : State} {m : MethodId} {below : List Frame} {meth : Method} {c : Code} (l : Launch) (D : va_G) (cI cJ cZ cS : ClassId) (sa : Nat → Nat) {b : Nat} {xs : Nat → Int32} (hF : CallFix p m c cL_law 4 s #[Value.ref b] (Cond.initialized RX8 :: wsU) RL) (hr : meth.sig.returnType = ret) (hlk : meth.locks = false) (hK : va_K D vwCl (xT cI cJ cZ cS) s) (hN : XN sa s) (hX : va_X b 6 xs s s.heap) (hbl : b < s.heap.size) {A : Nat → Prop} (hA : ∀ q : Nat, s.heap.size ≤ q → A q) (hbA : ¬ A b) (hAs : ∀ q, A q → s.heap.size ≤ q) (h0 qh qk qd qa qm qs qp ql qt qz qf s0 s1 s2 s3 sn0 sn1 sn2 sn3 g0 ys yk yo yt yfa yfe yro yhe ygr yta ywa ybi ysi ynu ymo : Nat) {H : Heap} {locs : List Loc} {ls : Array Slot} (hP : va_P D vwCl [(h0, .inr (8, [.ref qh, .ref qk, .ref qd, .int 0, .ref qa, .ref qm, .ref qs, .ref qp, .ref ql, .ref qt, .ref qz, .ref qf])), (qz, .inl (cS, 4, .inr (.inr (.inr (.inr (xSh s0 s1 s2 s3)))))), (s0, .inr (4, [.int 0, .int 0, .ref sn0])), (s1, .inr (4, [.int 0, .int 0, .ref sn1])), (s2, .inr (4, [.int 0, .int 0, .ref sn2])), (s3, .inr (4, [.int 0, .int 0, .ref sn3])), (qf, .inl (cI, 7, .inl (fun _ => 0))), (g0, .inr (9, [.ref ys, .ref yk, .ref yo, .ref yt, .int 0, .ref yfa, .ref yfe, .int 0, .int 0, .int 0, .ref yro, .ref yhe, .ref ygr, .int 0, .int 0, .int 0, .ref yta, .int 0, .int 0, .int 0, .int 0, .int 0, .ref ywa, .ref ybi, .ref ysi, .ref ynu, .ref ymo])), (ybi, .inl (cI, 4, .inl (fun _ => 0))), (yt, .inl (cI, 7, .inl (fun _ => 0)))] H) (hD : va_D A [(h0, .inr (8, [.ref qh, .ref qk, .ref qd, .int 0, .ref qa, .ref qm, .ref qs, .ref qp, .ref ql, .ref qt, .ref qz, .ref qf])), (qz, .inl (cS, 4, .inr (.inr (.inr (.inr (xSh s0 s1 s2 s3)))))), (s0, .inr (4, [.int 0, .int 0, .ref sn0])), (s1, .inr (4, [.int 0, .int 0, .ref sn1])), (s2, .inr (4, [.int 0, .int 0, .ref sn2])), (s3, .inr (4, [.int 0, .int 0, .ref sn3])), (qf, .inl (cI, 7, .inl (fun _ => 0))), (g0, .inr (9, [.ref ys, .ref yk, .ref yo, .ref yt, .int 0, .ref yfa, .ref yfe, .int 0, .int 0, .int 0, .ref yro, .ref yhe, .ref ygr, .int 0, .int 0, .int 0, .ref yta, .int 0, .int 0, .int 0, .int 0, .int 0, .ref ywa, .ref ybi, .ref ysi, .ref ynu, .ref ymo])), (ybi, .inl (cI, 4, .inl (fun _ => 0))), (yt, .inl (cI, 7, .inl (fun _ => 0)))]) (hS : va_S A s.heap H locs) (hl : lv_has ls 4 [(3, .int 0), (2, .ref g0), (1, .ref h0), (0, .ref b)]) : W p l e room_1 s m #[Value.ref b] below meth c H locs 82 4273 (lw_Z below #[Value.ref b] s) (F0 m 1205 ls []) := by
  have hx := hF.1
  have hb := hF.2.1
  have hml := hF.2.2.1
  have hown := hF.2.2.2.1
  have hu : ∀ w ∈ wsU, w.before _ s = true := fun w h => hF.2.2.2.2 w (List.mem_cons_of_mem _ h)
  refine lv_aload_n hx hb dL_law_1205 rfl (lv_at hl 2 rfl) ?_
  refine lv_aload_n hx hb dL_law_1206 rfl (lv_at hl 3 rfl) ?_
  refine lv_iload_n hx hb dL_law_1207 rfl (lv_at hl 0 rfl) ?_
  refine lv_iconst (v := 1) hx hb dL_law_1208 (by decide) ?_
  refine lv_iadd hx hb dL_law_1209 ?_
  refine xl_i (y := 1) (by decide) ?_
  refine va_sld hx hb hX hbl hbA hS (xin 1 6 (by decide) (by decide)) dL_law_1210 ?_
  refine xl_i (y := xs 1) rfl ?_
  refine lv_aload_n hx hb dL_law_1211 rfl (lv_at hl 3 rfl) ?_
  refine lv_iload_n hx hb dL_law_1212 rfl (lv_at hl 0 rfl) ?_
  refine lv_iconst (v := 2) hx hb dL_law_1213 (by decide) ?_
  refine lv_iadd hx hb dL_law_1214 ?_
  refine xl_i (y := 2) (by decide) ?_
  refine va_sld hx hb hX hbl hbA hS (xin 2 6 (by decide) (by decide)) dL_law_1215 ?_
  refine xl_i (y := xs 2) rfl ?_
  refine lv_aload_n hx hb dL_law_1216 rfl (lv_at hl 3 rfl) ?_
  refine lv_iload_n hx hb dL_law_1217 rfl (lv_at hl 0 rfl) ?_
  refine lv_iconst (v := 3) hx hb dL_law_1218 (by decide) ?_
  refine lv_iadd hx hb dL_law_1219 ?_
  refine xl_i (y := 3) (by decide) ?_
  refine va_sld hx hb hX hbl hbA hS (xin 3 6 (by decide) (by decide)) dL_law_1220 ?_
  refine xl_i (y := xs 3) rfl ?_
  refine lv_i2l (v := (xs 3).toInt64) hx hb dL_law_1221 rfl ?_
  refine lv_bipush (v := 32) hx hb dL_law_1222 (by decide) ?_
  refine lv_lshl hx hb dL_law_1224 rfl ?_
  refine lv_topl (fun x_1 ex_1 => ?_)
  refine lv_aload_n hx hb dL_law_1225 rfl (lv_at hl 3 rfl) ?_
  refine lv_iload_n hx hb dL_law_1226 rfl (lv_at hl 0 rfl) ?_
  refine lv_iconst (v := 4) hx hb dL_law_1227 (by decide) ?_
  refine lv_iadd hx hb dL_law_1228 ?_
  refine xl_i (y := 4) (by decide) ?_
  refine va_sld hx hb hX hbl hbA hS (xin 4 6 (by decide) (by decide)) dL_law_1229 ?_
  refine xl_i (y := xs 4) rfl ?_
  refine lv_i2l (v := (xs 4).toInt64) hx hb dL_law_1230 rfl ?_
  refine lv_ldc2 (v := 4294967295) hx hb hown (hu _ uw749) dL_law_1231 ?_
  refine lv_land hx hb dL_law_1234 ?_
  refine lv_lor hx hb dL_law_1235 ?_
  refine xc_Vl (wr := [(g0, .inr (9, [.ref ys, .ref yk, .ref yo, .ref yt, .int 0, .ref yfa, .ref yfe, .int 0, .int 0, .int 0, .ref yro, .ref yhe, .ref ygr, .int 0, .int 0, .int 0, .ref yta, .int 0, .int 0, .int 0, .int 0, .int 0, .ref ywa, .ref ybi, .ref ysi, .ref ynu, .ref ymo])), (ybi, .inl (cI, 4, .inl (fun _ => 0))), (yt, .inl (cI, 7, .inl (fun _ => 0)))]) hF (c_X8_write l D cI cJ cZ cS sa H.size h0 qh qk qd qa qm qs qp ql qt qz qf s0 s1 s2 s3 sn0 sn1 sn2 sn3 (xs 1) (xs 2) (x_1 ||| (((xs 4).toInt64) &&& 4294967295)) ) kv_L_161 ⟨rfl, rfl, Nat.le_of_ble_eq_true rfl, Nat.le_of_ble_eq_true rfl⟩ ⟨Nat.le_of_ble_eq_true rfl, Nat.le_of_ble_eq_true rfl⟩ hK hN hP hD hS hA [0, 1, 2, 3, 4, 5, 6] [7, 8, 9] rfl rfl rfl rfl (by decide) 0 rfl rfl rfl rfl hl.1 rfl (Nat.le_of_ble_eq_true rfl) dL_law_1236 (fun r_2 u_r_2 H locs hw_r_2 hP hD hS => ?_)
  have hP : va_P D vwCl [(g0, .inr (9, [.ref ys, .ref yk, .ref yo, .ref yt, .int 0, .ref yfa, .ref yfe, .int 0, .int 0, .int 0, .ref yro, .ref yhe, .ref ygr, .int 0, .int 0, .int 0, .ref yta, .int 0, .int 0, .int 0, .int 0, .int 0, .ref ywa, .ref ybi, .ref ysi, .ref ynu, .ref ymo])), (ybi, .inl (cI, 4, .inl (fun _ => 0))), (yt, .inl (cI, 7, .inl (fun _ => 0)))] H := hP
  have hD : va_D A [(g0, .inr (9, [.ref ys, .ref yk, .ref yo, .ref yt, .int 0, .ref yfa, .ref yfe, .int 0, .int 0, .int 0, .ref yro, .ref yhe, .ref ygr, .int 0, .int 0, .int 0, .ref yta, .int 0, .int 0, .int 0, .int 0, .int 0, .ref ywa, .ref ybi, .ref ysi, .ref ynu, .ref ymo])), (ybi, .inl (cI, 4, .inl (fun _ => 0))), (yt, .inl (cI, 7, .inl (fun _ => 0)))] := hD
  subst hw_r_2
  refine lv_aload_n hx hb dL_law_1239 rfl (lv_at hl 1 rfl) ?_
  refine lv_aload_n hx hb dL_law_1240 rfl (lv_at hl 3 rfl) ?_
  refine lv_iload_n hx hb dL_law_1241 rfl (lv_at hl 0 rfl) ?_
  refine lv_iconst (v := 1) hx hb dL_law_1242 (by decide) ?_
  refine lv_iadd hx hb dL_law_1243 ?_
  refine xl_i (y := 1) (by decide) ?_
  refine va_sld hx hb hX hbl hbA hS (xin 1 6 (by decide) (by decide)) dL_law_1244 ?_
  refine xl_i (y := xs 1) rfl ?_
  refine lv_aload_n hx hb dL_law_1245 rfl (lv_at hl 3 rfl) ?_
  refine lv_iload_n hx hb dL_law_1246 rfl (lv_at hl 0 rfl) ?_
  refine lv_iconst (v := 2) hx hb dL_law_1247 (by decide) ?_
  refine lv_iadd hx hb dL_law_1248 ?_
  refine xl_i (y := 2) (by decide) ?_
  refine va_sld hx hb hX hbl hbA hS (xin 2 6 (by decide) (by decide)) dL_law_1249 ?_
  refine xl_i (y := xs 2) rfl ?_
  refine lv_aload_n hx hb dL_law_1250 rfl (lv_at hl 3 rfl) ?_
  refine lv_iload_n hx hb dL_law_1251 rfl (lv_at hl 0 rfl) ?_
  refine lv_iconst (v := 3) hx hb dL_law_1252 (by decide) ?_
  refine lv_iadd hx hb dL_law_1253 ?_
  refine xl_i (y := 3) (by decide) ?_
  refine va_sld hx hb hX hbl hbA hS (xin 3 6 (by decide) (by decide)) dL_law_1254 ?_
  refine xl_i (y := xs 3) rfl ?_
  refine lv_i2l (v := (xs 3).toInt64) hx hb dL_law_1255 rfl ?_
  refine lv_bipush (v := 32) hx hb dL_law_1256 (by decide) ?_
  refine lv_lshl hx hb dL_law_1258 rfl ?_
  refine lv_topl (fun x_3 ex_3 => ?_)
  refine lv_aload_n hx hb dL_law_1259 rfl (lv_at hl 3 rfl) ?_
  refine lv_iload_n hx hb dL_law_1260 rfl (lv_at hl 0 rfl) ?_
  refine lv_iconst (v := 4) hx hb dL_law_1261 (by decide) ?_
  refine lv_iadd hx hb dL_law_1262 ?_
  refine xl_i (y := 4) (by decide) ?_
  refine va_sld hx hb hX hbl hbA hS (xin 4 6 (by decide) (by decide)) dL_law_1263 ?_
  refine xl_i (y := xs 4) rfl ?_
  refine lv_i2l (v := (xs 4).toInt64) hx hb dL_law_1264 rfl ?_
  refine lv_ldc2 (v := 4294967295) hx hb hown (hu _ uw749) dL_law_1265 ?_
  refine lv_land hx hb dL_law_1268 ?_
  refine lv_lor hx hb dL_law_1269 ?_
  refine xc_Vl (wr := []) hF (c_X9_write l D cI cJ cZ cS sa H.size g0 ys yk yo yt yfa yfe yro yhe ygr yta ywa ybi ysi ynu ymo (xs 1) (xs 2) (x_3 ||| (((xs 4).toInt64) &&& 4294967295)) ) kv_L_165 ⟨rfl, rfl, Nat.le_of_ble_eq_true rfl, Nat.le_of_ble_eq_true rfl⟩ ⟨Nat.le_of_ble_eq_true rfl, Nat.le_of_ble_eq_true rfl⟩ hK hN hP hD hS hA [0, 1, 2] [] rfl rfl rfl rfl (by decide) 0 rfl rfl rfl rfl hl.1 rfl (Nat.le_of_ble_eq_true rfl) dL_law_1270 (fun r_4 u_r_4 H locs hw_r_4 hP hD hS => ?_)
  have hP : va_P D vwCl [] H := hP
  have hD : va_D A [] := hD
  subst hw_r_4
  refine W.lcmp hx hb dL_law_1273 ?_
  refine xl_i (y := 0) (xq_self _) ?_
  refine lv_if_eq (tgt := 1483) hx hb dL_law_1274 (by decide) (fun c_5 => ?_) (fun c_5 => absurd (by decide) c_5)
  exact law_end l hF hr hlk hX hbl hbA hAs hS hl
set_option maxHeartbeats 4000000 in
set_option maxRecDepth 100000 in
theorem law_36 {p : Program} {e : Env} {s : State} {m : MethodId} {below : List Frame} {meth : Method} {c : Code} (l : Launch) (D : va_G) (cI cJ cZ cS : ClassId) (sa : Nat → Nat) {b : Nat} {xs : Nat → Int32} (hF : CallFix p m c cL_law 4 s #[Value.ref b] (Cond.initialized RX8 :: wsU) RL) (hr : meth.sig.returnType = ret) (hlk : meth.locks = false) (hK : va_K D vwCl (xT cI cJ cZ cS) s) (hN : XN sa s) (hX : va_X b 6 xs s s.heap) (hbl : b < s.heap.size) {A : Nat → Prop} (hA : ∀ q : Nat, s.heap.size ≤ q → A q) (hbA : ¬ A b) (hAs : ∀ q, A q → s.heap.size ≤ q) (h0 qh qk qd qa qm qs qp ql qt qz qf s0 s1 s2 s3 sn0 sn1 sn2 sn3 g0 ys yk yo yt yfa yfe yro yhe ygr yta ywa ybi ysi ynu ymo : Nat) {H : Heap} {locs : List Loc} {ls : Array Slot} (hP : va_P D vwCl [(h0, .inr (8, [.ref qh, .ref qk, .ref qd, .int 0, .ref qa, .ref qm, .ref qs, .ref qp, .ref ql, .ref qt, .ref qz, .ref qf])), (qz, .inl (cS, 4, .inr (.inr (.inr (.inr (xSh s0 s1 s2 s3)))))), (s0, .inr (4, [.int 0, .int 0, .ref sn0])), (s1, .inr (4, [.int 0, .int 0, .ref sn1])), (s2, .inr (4, [.int 0, .int 0, .ref sn2])), (s3, .inr (4, [.int 0, .int 0, .ref sn3])), (qf, .inl (cI, 7, .inl (fun _ => 0))), (g0, .inr (9, [.ref ys, .ref yk, .ref yo, .ref yt, .int 0, .ref yfa, .ref yfe, .int 0, .int 0, .int 0, .ref yro, .ref yhe, .ref ygr, .int 0, .int 0, .int 0, .ref yta, .int 0, .int 0, .int 0, .int 0, .int 0, .ref ywa, .ref ybi, .ref ysi, .ref ynu, .ref ymo])), (ybi, .inl (cI, 4, .inl (fun _ => 0))), (yt, .inl (cI, 7, .inl (fun _ => 0)))] H) (hD : va_D A [(h0, .inr (8, [.ref qh, .ref qk, .ref qd, .int 0, .ref qa, .ref qm, .ref qs, .ref qp, .ref ql, .ref qt, .ref qz, .ref qf])), (qz, .inl (cS, 4, .inr (.inr (.inr (.inr (xSh s0 s1 s2 s3)))))), (s0, .inr (4, [.int 0, .int 0, .ref sn0])), (s1, .inr (4, [.int 0, .int 0, .ref sn1])), (s2, .inr (4, [.int 0, .int 0, .ref sn2])), (s3, .inr (4, [.int 0, .int 0, .ref sn3])), (qf, .inl (cI, 7, .inl (fun _ => 0))), (g0, .inr (9, [.ref ys, .ref yk, .ref yo, .ref yt, .int 0, .ref yfa, .ref yfe, .int 0, .int 0, .int 0, .ref yro, .ref yhe, .ref ygr, .int 0, .int 0, .int 0, .ref yta, .int 0, .int 0, .int 0, .int 0, .int 0, .ref ywa, .ref ybi, .ref ysi, .ref ynu, .ref ymo])), (ybi, .inl (cI, 4, .inl (fun _ => 0))), (yt, .inl (cI, 7, .inl (fun _ => 0)))]) (hS : va_S A s.heap H locs) (hl : lv_has ls 4 [(3, .int 0), (2, .ref g0), (1, .ref h0), (0, .ref b)]) : W p l e room_1 s m #[Value.ref b] below meth c H locs 82 4273 (lw_Z below #[Value.ref b] s) (F0 m 1279 ls []) := by
  have hx := hF.1
  have hb := hF.2.1
  have hml := hF.2.2.1
  have hown := hF.2.2.2.1
  have hu : ∀ w ∈ wsU, w.before _ s = true := fun w h => hF.2.2.2.2 w (List.mem_cons_of_mem _ h)
  refine lv_aload_n hx hb dL_law_1279 rfl (lv_at hl 2 rfl) ?_
  refine lv_aload_n hx hb dL_law_1280 rfl (lv_at hl 3 rfl) ?_
  refine lv_iload_n hx hb dL_law_1281 rfl (lv_at hl 0 rfl) ?_
  refine lv_iconst (v := 1) hx hb dL_law_1282 (by decide) ?_
  refine lv_iadd hx hb dL_law_1283 ?_
  refine xl_i (y := 1) (by decide) ?_
  refine va_sld hx hb hX hbl hbA hS (xin 1 6 (by decide) (by decide)) dL_law_1284 ?_
  refine xl_i (y := xs 1) rfl ?_
  refine lv_aload_n hx hb dL_law_1285 rfl (lv_at hl 3 rfl) ?_
  refine lv_iload_n hx hb dL_law_1286 rfl (lv_at hl 0 rfl) ?_
  refine lv_iconst (v := 2) hx hb dL_law_1287 (by decide) ?_
  refine lv_iadd hx hb dL_law_1288 ?_
  refine xl_i (y := 2) (by decide) ?_
  refine va_sld hx hb hX hbl hbA hS (xin 2 6 (by decide) (by decide)) dL_law_1289 ?_
  refine xl_i (y := xs 2) rfl ?_
  refine lv_aload_n hx hb dL_law_1290 rfl (lv_at hl 3 rfl) ?_
  refine lv_iload_n hx hb dL_law_1291 rfl (lv_at hl 0 rfl) ?_
  refine lv_iconst (v := 3) hx hb dL_law_1292 (by decide) ?_
  refine lv_iadd hx hb dL_law_1293 ?_
  refine xl_i (y := 3) (by decide) ?_
  refine va_sld hx hb hX hbl hbA hS (xin 3 6 (by decide) (by decide)) dL_law_1294 ?_
  refine xl_i (y := xs 3) rfl ?_
  refine lv_aload_n hx hb dL_law_1295 rfl (lv_at hl 3 rfl) ?_
  refine lv_iload_n hx hb dL_law_1296 rfl (lv_at hl 0 rfl) ?_
  refine lv_iconst (v := 4) hx hb dL_law_1297 (by decide) ?_
  refine lv_iadd hx hb dL_law_1298 ?_
  refine xl_i (y := 4) (by decide) ?_
  refine va_sld hx hb hX hbl hbA hS (xin 4 6 (by decide) (by decide)) dL_law_1299 ?_
  refine xl_i (y := xs 4) rfl ?_
  refine lv_aload_n hx hb dL_law_1300 rfl (lv_at hl 3 rfl) ?_
  refine lv_iload_n hx hb dL_law_1301 rfl (lv_at hl 0 rfl) ?_
  refine lv_iconst (v := 5) hx hb dL_law_1302 (by decide) ?_
  refine lv_iadd hx hb dL_law_1303 ?_
  refine xl_i (y := 5) (by decide) ?_
  refine va_sld hx hb hX hbl hbA hS (xin 5 6 (by decide) (by decide)) dL_law_1304 ?_
  refine xl_i (y := xs 5) rfl ?_
  refine xc_Vi (wr := [(g0, .inr (9, [.ref ys, .ref yk, .ref yo, .ref yt, .int 0, .ref yfa, .ref yfe, .int 0, .int 0, .int 0, .ref yro, .ref yhe, .ref ygr, .int 0, .int 0, .int 0, .ref yta, .int 0, .int 0, .int 0, .int 0, .int 0, .ref ywa, .ref ybi, .ref ysi, .ref ynu, .ref ymo])), (ybi, .inl (cI, 4, .inl (fun _ => 0))), (yt, .inl (cI, 7, .inl (fun _ => 0)))]) hF (c_X8_copy l D cI cJ cZ cS sa H.size h0 qh qk qd qa qm qs qp ql qt qz qf s0 s1 s2 s3 sn0 sn1 sn2 sn3 (xs 1) (xs 2) (xs 3) (xs 4) (xs 5) ) kv_L_166 ⟨rfl, rfl, Nat.le_of_ble_eq_true rfl, Nat.le_of_ble_eq_true rfl⟩ ⟨Nat.le_of_ble_eq_true rfl, Nat.le_of_ble_eq_true rfl⟩ hK hN hP hD hS hA [0, 1, 2, 3, 4, 5, 6] [7, 8, 9] rfl rfl rfl rfl (by decide) 0 rfl rfl rfl rfl hl.1 rfl (Nat.le_of_ble_eq_true rfl) dL_law_1305 (fun r_1 u_r_1 H locs hw_r_1 hP hD hS => ?_)
  have hP : va_P D vwCl [(g0, .inr (9, [.ref ys, .ref yk, .ref yo, .ref yt, .int 0, .ref yfa, .ref yfe, .int 0, .int 0, .int 0, .ref yro, .ref yhe, .ref ygr, .int 0, .int 0, .int 0, .ref yta, .int 0, .int 0, .int 0, .int 0, .int 0, .ref ywa, .ref ybi, .ref ysi, .ref ynu, .ref ymo])), (ybi, .inl (cI, 4, .inl (fun _ => 0))), (yt, .inl (cI, 7, .inl (fun _ => 0)))] H := hP
  have hD : va_D A [(g0, .inr (9, [.ref ys, .ref yk, .ref yo, .ref yt, .int 0, .ref yfa, .ref yfe, .int 0, .int 0, .int 0, .ref yro, .ref yhe, .ref ygr, .int 0, .int 0, .int 0, .ref yta, .int 0, .int 0, .int 0, .int 0, .int 0, .ref ywa, .ref ybi, .ref ysi, .ref ynu, .ref ymo])), (ybi, .inl (cI, 4, .inl (fun _ => 0))), (yt, .inl (cI, 7, .inl (fun _ => 0)))] := hD
  subst hw_r_1
  refine lv_aload_n hx hb dL_law_1308 rfl (lv_at hl 1 rfl) ?_
  refine lv_aload_n hx hb dL_law_1309 rfl (lv_at hl 3 rfl) ?_
  refine lv_iload_n hx hb dL_law_1310 rfl (lv_at hl 0 rfl) ?_
  refine lv_iconst (v := 1) hx hb dL_law_1311 (by decide) ?_
  refine lv_iadd hx hb dL_law_1312 ?_
  refine xl_i (y := 1) (by decide) ?_
  refine va_sld hx hb hX hbl hbA hS (xin 1 6 (by decide) (by decide)) dL_law_1313 ?_
  refine xl_i (y := xs 1) rfl ?_
  refine lv_aload_n hx hb dL_law_1314 rfl (lv_at hl 3 rfl) ?_
  refine lv_iload_n hx hb dL_law_1315 rfl (lv_at hl 0 rfl) ?_
  refine lv_iconst (v := 2) hx hb dL_law_1316 (by decide) ?_
  refine lv_iadd hx hb dL_law_1317 ?_
  refine xl_i (y := 2) (by decide) ?_
  refine va_sld hx hb hX hbl hbA hS (xin 2 6 (by decide) (by decide)) dL_law_1318 ?_
  refine xl_i (y := xs 2) rfl ?_
  refine lv_aload_n hx hb dL_law_1319 rfl (lv_at hl 3 rfl) ?_
  refine lv_iload_n hx hb dL_law_1320 rfl (lv_at hl 0 rfl) ?_
  refine lv_iconst (v := 3) hx hb dL_law_1321 (by decide) ?_
  refine lv_iadd hx hb dL_law_1322 ?_
  refine xl_i (y := 3) (by decide) ?_
  refine va_sld hx hb hX hbl hbA hS (xin 3 6 (by decide) (by decide)) dL_law_1323 ?_
  refine xl_i (y := xs 3) rfl ?_
  refine lv_aload_n hx hb dL_law_1324 rfl (lv_at hl 3 rfl) ?_
  refine lv_iload_n hx hb dL_law_1325 rfl (lv_at hl 0 rfl) ?_
  refine lv_iconst (v := 4) hx hb dL_law_1326 (by decide) ?_
  refine lv_iadd hx hb dL_law_1327 ?_
  refine xl_i (y := 4) (by decide) ?_
  refine va_sld hx hb hX hbl hbA hS (xin 4 6 (by decide) (by decide)) dL_law_1328 ?_
  refine xl_i (y := xs 4) rfl ?_
  refine lv_aload_n hx hb dL_law_1329 rfl (lv_at hl 3 rfl) ?_
  refine lv_iload_n hx hb dL_law_1330 rfl (lv_at hl 0 rfl) ?_
  refine lv_iconst (v := 5) hx hb dL_law_1331 (by decide) ?_
  refine lv_iadd hx hb dL_law_1332 ?_
  refine xl_i (y := 5) (by decide) ?_
  refine va_sld hx hb hX hbl hbA hS (xin 5 6 (by decide) (by decide)) dL_law_1333 ?_
  refine xl_i (y := xs 5) rfl ?_
  refine xc_Vi (wr := []) hF (c_X9_copy l D cI cJ cZ cS sa H.size g0 ys yk yo yt yfa yfe yro yhe ygr yta ywa ybi ysi ynu ymo (xs 1) (xs 2) (xs 3) (xs 4) (xs 5) ) kv_L_170 ⟨rfl, rfl, Nat.le_of_ble_eq_true rfl, Nat.le_of_ble_eq_true rfl⟩ ⟨Nat.le_of_ble_eq_true rfl, Nat.le_of_ble_eq_true rfl⟩ hK hN hP hD hS hA [0, 1, 2] [] rfl rfl rfl rfl (by decide) 0 rfl rfl rfl rfl hl.1 rfl (Nat.le_of_ble_eq_true rfl) dL_law_1334 (fun r_2 u_r_2 H locs hw_r_2 hP hD hS => ?_)
  have hP : va_P D vwCl [] H := hP
  have hD : va_D A [] := hD
  subst hw_r_2
  refine lv_icmp_eq (tgt := 1483) hx hb dL_law_1337 (by decide) (fun c_3 => ?_) (fun c_3 => absurd rfl c_3)
  exact law_end l hF hr hlk hX hbl hbA hAs hS hl
set_option maxHeartbeats 4000000 in
set_option maxRecDepth 100000 in
theorem law_37 {p : Program} {e : Env} {s : State} {m : MethodId} {below : List Frame} {meth : Method} {c : Code} (l : Launch) (D : va_G) (cI cJ cZ cS : ClassId) (sa : Nat → Nat) {b : Nat} {xs : Nat → Int32} (hF : CallFix p m c cL_law 4 s #[Value.ref b] (Cond.initialized RX8 :: wsU) RL) (hr : meth.sig.returnType = ret) (hlk : meth.locks = false) (hK : va_K D vwCl (xT cI cJ cZ cS) s) (hN : XN sa s) (hX : va_X b 6 xs s s.heap) (hbl : b < s.heap.size) {A : Nat → Prop} (hA : ∀ q : Nat, s.heap.size ≤ q → A q) (hbA : ¬ A b) (hAs : ∀ q, A q → s.heap.size ≤ q) (h0 qh qk qd qa qm qs qp ql qt qz qf s0 s1 s2 s3 sn0 sn1 sn2 sn3 g0 ys yk yo yt yfa yfe yro yhe ygr yta ywa ybi ysi ynu ymo : Nat) {H : Heap} {locs : List Loc} {ls : Array Slot} (hP : va_P D vwCl [(h0, .inr (8, [.ref qh, .ref qk, .ref qd, .int 0, .ref qa, .ref qm, .ref qs, .ref qp, .ref ql, .ref qt, .ref qz, .ref qf])), (qz, .inl (cS, 4, .inr (.inr (.inr (.inr (xSh s0 s1 s2 s3)))))), (s0, .inr (4, [.int 0, .int 0, .ref sn0])), (s1, .inr (4, [.int 0, .int 0, .ref sn1])), (s2, .inr (4, [.int 0, .int 0, .ref sn2])), (s3, .inr (4, [.int 0, .int 0, .ref sn3])), (qf, .inl (cI, 7, .inl (fun _ => 0))), (g0, .inr (9, [.ref ys, .ref yk, .ref yo, .ref yt, .int 0, .ref yfa, .ref yfe, .int 0, .int 0, .int 0, .ref yro, .ref yhe, .ref ygr, .int 0, .int 0, .int 0, .ref yta, .int 0, .int 0, .int 0, .int 0, .int 0, .ref ywa, .ref ybi, .ref ysi, .ref ynu, .ref ymo])), (ybi, .inl (cI, 4, .inl (fun _ => 0))), (yt, .inl (cI, 7, .inl (fun _ => 0)))] H) (hD : va_D A [(h0, .inr (8, [.ref qh, .ref qk, .ref qd, .int 0, .ref qa, .ref qm, .ref qs, .ref qp, .ref ql, .ref qt, .ref qz, .ref qf])), (qz, .inl (cS, 4, .inr (.inr (.inr (.inr (xSh s0 s1 s2 s3)))))), (s0, .inr (4, [.int 0, .int 0, .ref sn0])), (s1, .inr (4, [.int 0, .int 0, .ref sn1])), (s2, .inr (4, [.int 0, .int 0, .ref sn2])), (s3, .inr (4, [.int 0, .int 0, .ref sn3])), (qf, .inl (cI, 7, .inl (fun _ => 0))), (g0, .inr (9, [.ref ys, .ref yk, .ref yo, .ref yt, .int 0, .ref yfa, .ref yfe, .int 0, .int 0, .int 0, .ref yro, .ref yhe, .ref ygr, .int 0, .int 0, .int 0, .ref yta, .int 0, .int 0, .int 0, .int 0, .int 0, .ref ywa, .ref ybi, .ref ysi, .ref ynu, .ref ymo])), (ybi, .inl (cI, 4, .inl (fun _ => 0))), (yt, .inl (cI, 7, .inl (fun _ => 0)))]) (hS : va_S A s.heap H locs) (hl : lv_has ls 4 [(3, .int 0), (2, .ref g0), (1, .ref h0), (0, .ref b)]) : W p l e room_1 s m #[Value.ref b] below meth c H locs 82 4273 (lw_Z below #[Value.ref b] s) (F0 m 1342 ls []) := by
  have hx := hF.1
  have hb := hF.2.1
  have hml := hF.2.2.1
  have hown := hF.2.2.2.1
  have hu : ∀ w ∈ wsU, w.before _ s = true := fun w h => hF.2.2.2.2 w (List.mem_cons_of_mem _ h)
  refine lv_aload_n hx hb dL_law_1342 rfl (lv_at hl 2 rfl) ?_
  refine lv_aload_n hx hb dL_law_1343 rfl (lv_at hl 3 rfl) ?_
  refine lv_iload_n hx hb dL_law_1344 rfl (lv_at hl 0 rfl) ?_
  refine lv_iconst (v := 1) hx hb dL_law_1345 (by decide) ?_
  refine lv_iadd hx hb dL_law_1346 ?_
  refine xl_i (y := 1) (by decide) ?_
  refine va_sld hx hb hX hbl hbA hS (xin 1 6 (by decide) (by decide)) dL_law_1347 ?_
  refine xl_i (y := xs 1) rfl ?_
  refine lv_aload_n hx hb dL_law_1348 rfl (lv_at hl 3 rfl) ?_
  refine lv_iload_n hx hb dL_law_1349 rfl (lv_at hl 0 rfl) ?_
  refine lv_iconst (v := 2) hx hb dL_law_1350 (by decide) ?_
  refine lv_iadd hx hb dL_law_1351 ?_
  refine xl_i (y := 2) (by decide) ?_
  refine va_sld hx hb hX hbl hbA hS (xin 2 6 (by decide) (by decide)) dL_law_1352 ?_
  refine xl_i (y := xs 2) rfl ?_
  refine xc_Vi (wr := [(g0, .inr (9, [.ref ys, .ref yk, .ref yo, .ref yt, .int 0, .ref yfa, .ref yfe, .int 0, .int 0, .int 0, .ref yro, .ref yhe, .ref ygr, .int 0, .int 0, .int 0, .ref yta, .int 0, .int 0, .int 0, .int 0, .int 0, .ref ywa, .ref ybi, .ref ysi, .ref ynu, .ref ymo])), (ybi, .inl (cI, 4, .inl (fun _ => 0))), (yt, .inl (cI, 7, .inl (fun _ => 0)))]) hF (c_X8_lays l D cI cJ cZ cS sa H.size h0 qh qk qd qa qm qs qp ql qt qz qf s0 s1 s2 s3 sn0 sn1 sn2 sn3 (xs 1) (xs 2) ) kv_L_171 ⟨rfl, rfl, Nat.le_of_ble_eq_true rfl, Nat.le_of_ble_eq_true rfl⟩ ⟨Nat.le_of_ble_eq_true rfl, Nat.le_of_ble_eq_true rfl⟩ hK hN hP hD hS hA [0, 1, 2, 3, 4, 5, 6] [7, 8, 9] rfl rfl rfl rfl (by decide) 0 rfl rfl rfl rfl hl.1 rfl (Nat.le_of_ble_eq_true rfl) dL_law_1353 (fun r_1 u_r_1 H locs hw_r_1 hP hD hS => ?_)
  have hP : va_P D vwCl [(g0, .inr (9, [.ref ys, .ref yk, .ref yo, .ref yt, .int 0, .ref yfa, .ref yfe, .int 0, .int 0, .int 0, .ref yro, .ref yhe, .ref ygr, .int 0, .int 0, .int 0, .ref yta, .int 0, .int 0, .int 0, .int 0, .int 0, .ref ywa, .ref ybi, .ref ysi, .ref ynu, .ref ymo])), (ybi, .inl (cI, 4, .inl (fun _ => 0))), (yt, .inl (cI, 7, .inl (fun _ => 0)))] H := hP
  have hD : va_D A [(g0, .inr (9, [.ref ys, .ref yk, .ref yo, .ref yt, .int 0, .ref yfa, .ref yfe, .int 0, .int 0, .int 0, .ref yro, .ref yhe, .ref ygr, .int 0, .int 0, .int 0, .ref yta, .int 0, .int 0, .int 0, .int 0, .int 0, .ref ywa, .ref ybi, .ref ysi, .ref ynu, .ref ymo])), (ybi, .inl (cI, 4, .inl (fun _ => 0))), (yt, .inl (cI, 7, .inl (fun _ => 0)))] := hD
  subst hw_r_1
  refine lv_aload_n hx hb dL_law_1356 rfl (lv_at hl 1 rfl) ?_
  refine lv_aload_n hx hb dL_law_1357 rfl (lv_at hl 3 rfl) ?_
  refine lv_iload_n hx hb dL_law_1358 rfl (lv_at hl 0 rfl) ?_
  refine lv_iconst (v := 1) hx hb dL_law_1359 (by decide) ?_
  refine lv_iadd hx hb dL_law_1360 ?_
  refine xl_i (y := 1) (by decide) ?_
  refine va_sld hx hb hX hbl hbA hS (xin 1 6 (by decide) (by decide)) dL_law_1361 ?_
  refine xl_i (y := xs 1) rfl ?_
  refine lv_aload_n hx hb dL_law_1362 rfl (lv_at hl 3 rfl) ?_
  refine lv_iload_n hx hb dL_law_1363 rfl (lv_at hl 0 rfl) ?_
  refine lv_iconst (v := 2) hx hb dL_law_1364 (by decide) ?_
  refine lv_iadd hx hb dL_law_1365 ?_
  refine xl_i (y := 2) (by decide) ?_
  refine va_sld hx hb hX hbl hbA hS (xin 2 6 (by decide) (by decide)) dL_law_1366 ?_
  refine xl_i (y := xs 2) rfl ?_
  refine xc_Vi (wr := []) hF (c_X9_lays l D cI cJ cZ cS sa H.size g0 ys yk yo yt yfa yfe yro yhe ygr yta ywa ybi ysi ynu ymo (xs 1) (xs 2) ) kv_L_174 ⟨rfl, rfl, Nat.le_of_ble_eq_true rfl, Nat.le_of_ble_eq_true rfl⟩ ⟨Nat.le_of_ble_eq_true rfl, Nat.le_of_ble_eq_true rfl⟩ hK hN hP hD hS hA [0, 1, 2] [] rfl rfl rfl rfl (by decide) 0 rfl rfl rfl rfl hl.1 rfl (Nat.le_of_ble_eq_true rfl) dL_law_1367 (fun r_2 u_r_2 H locs hw_r_2 hP hD hS => ?_)
  have hP : va_P D vwCl [] H := hP
  have hD : va_D A [] := hD
  subst hw_r_2
  refine lv_icmp_eq (tgt := 1483) hx hb dL_law_1370 (by decide) (fun c_3 => ?_) (fun c_3 => absurd rfl c_3)
  exact law_end l hF hr hlk hX hbl hbA hAs hS hl
set_option maxHeartbeats 4000000 in
set_option maxRecDepth 100000 in
theorem law_38 {p : Program} {e : Env} {s : State} {m : MethodId} {below : List Frame} {meth : Method} {c : Code} (l : Launch) (D : va_G) (cI cJ cZ cS : ClassId) (sa : Nat → Nat) {b : Nat} {xs : Nat → Int32} (hF : CallFix p m c cL_law 4 s #[Value.ref b] (Cond.initialized RX8 :: wsU) RL) (hr : meth.sig.returnType = ret) (hlk : meth.locks = false) (hK : va_K D vwCl (xT cI cJ cZ cS) s) (hN : XN sa s) (hX : va_X b 6 xs s s.heap) (hbl : b < s.heap.size) {A : Nat → Prop} (hA : ∀ q : Nat, s.heap.size ≤ q → A q) (hbA : ¬ A b) (hAs : ∀ q, A q → s.heap.size ≤ q) (h0 qh qk qd qa qm qs qp ql qt qz qf s0 s1 s2 s3 sn0 sn1 sn2 sn3 g0 ys yk yo yt yfa yfe yro yhe ygr yta ywa ybi ysi ynu ymo : Nat) {H : Heap} {locs : List Loc} {ls : Array Slot} (hP : va_P D vwCl [(h0, .inr (8, [.ref qh, .ref qk, .ref qd, .int 0, .ref qa, .ref qm, .ref qs, .ref qp, .ref ql, .ref qt, .ref qz, .ref qf])), (qz, .inl (cS, 4, .inr (.inr (.inr (.inr (xSh s0 s1 s2 s3)))))), (s0, .inr (4, [.int 0, .int 0, .ref sn0])), (s1, .inr (4, [.int 0, .int 0, .ref sn1])), (s2, .inr (4, [.int 0, .int 0, .ref sn2])), (s3, .inr (4, [.int 0, .int 0, .ref sn3])), (qf, .inl (cI, 7, .inl (fun _ => 0))), (g0, .inr (9, [.ref ys, .ref yk, .ref yo, .ref yt, .int 0, .ref yfa, .ref yfe, .int 0, .int 0, .int 0, .ref yro, .ref yhe, .ref ygr, .int 0, .int 0, .int 0, .ref yta, .int 0, .int 0, .int 0, .int 0, .int 0, .ref ywa, .ref ybi, .ref ysi, .ref ynu, .ref ymo])), (ybi, .inl (cI, 4, .inl (fun _ => 0))), (yt, .inl (cI, 7, .inl (fun _ => 0)))] H) (hD : va_D A [(h0, .inr (8, [.ref qh, .ref qk, .ref qd, .int 0, .ref qa, .ref qm, .ref qs, .ref qp, .ref ql, .ref qt, .ref qz, .ref qf])), (qz, .inl (cS, 4, .inr (.inr (.inr (.inr (xSh s0 s1 s2 s3)))))), (s0, .inr (4, [.int 0, .int 0, .ref sn0])), (s1, .inr (4, [.int 0, .int 0, .ref sn1])), (s2, .inr (4, [.int 0, .int 0, .ref sn2])), (s3, .inr (4, [.int 0, .int 0, .ref sn3])), (qf, .inl (cI, 7, .inl (fun _ => 0))), (g0, .inr (9, [.ref ys, .ref yk, .ref yo, .ref yt, .int 0, .ref yfa, .ref yfe, .int 0, .int 0, .int 0, .ref yro, .ref yhe, .ref ygr, .int 0, .int 0, .int 0, .ref yta, .int 0, .int 0, .int 0, .int 0, .int 0, .ref ywa, .ref ybi, .ref ysi, .ref ynu, .ref ymo])), (ybi, .inl (cI, 4, .inl (fun _ => 0))), (yt, .inl (cI, 7, .inl (fun _ => 0)))]) (hS : va_S A s.heap H locs) (hl : lv_has ls 4 [(3, .int 0), (2, .ref g0), (1, .ref h0), (0, .ref b)]) : W p l e room_1 s m #[Value.ref b] below meth c H locs 82 4273 (lw_Z below #[Value.ref b] s) (F0 m 1375 ls []) := by
  have hx := hF.1
  have hb := hF.2.1
  have hml := hF.2.2.1
  have hown := hF.2.2.2.1
  have hu : ∀ w ∈ wsU, w.before _ s = true := fun w h => hF.2.2.2.2 w (List.mem_cons_of_mem _ h)
  refine lv_aload_n hx hb dL_law_1375 rfl (lv_at hl 2 rfl) ?_
  refine lv_aload_n hx hb dL_law_1376 rfl (lv_at hl 3 rfl) ?_
  refine lv_iload_n hx hb dL_law_1377 rfl (lv_at hl 0 rfl) ?_
  refine lv_iconst (v := 1) hx hb dL_law_1378 (by decide) ?_
  refine lv_iadd hx hb dL_law_1379 ?_
  refine xl_i (y := 1) (by decide) ?_
  refine va_sld hx hb hX hbl hbA hS (xin 1 6 (by decide) (by decide)) dL_law_1380 ?_
  refine xl_i (y := xs 1) rfl ?_
  refine xc_Vi (wr := [(g0, .inr (9, [.ref ys, .ref yk, .ref yo, .ref yt, .int 0, .ref yfa, .ref yfe, .int 0, .int 0, .int 0, .ref yro, .ref yhe, .ref ygr, .int 0, .int 0, .int 0, .ref yta, .int 0, .int 0, .int 0, .int 0, .int 0, .ref ywa, .ref ybi, .ref ysi, .ref ynu, .ref ymo])), (ybi, .inl (cI, 4, .inl (fun _ => 0))), (yt, .inl (cI, 7, .inl (fun _ => 0)))]) hF (c_X8_read l D cI cJ cZ cS sa H.size h0 qh qk qd qa qm qs qp ql qt qz qf s0 s1 s2 s3 sn0 sn1 sn2 sn3 (xs 1) ) kv_L_175 ⟨rfl, rfl, Nat.le_of_ble_eq_true rfl, Nat.le_of_ble_eq_true rfl⟩ ⟨Nat.le_of_ble_eq_true rfl, Nat.le_of_ble_eq_true rfl⟩ hK hN hP hD hS hA [0, 1, 2, 3, 4, 5, 6] [7, 8, 9] rfl rfl rfl rfl (by decide) 0 rfl rfl rfl rfl hl.1 rfl (Nat.le_of_ble_eq_true rfl) dL_law_1381 (fun r_1 u_r_1 H locs hw_r_1 hP hD hS => ?_)
  have hP : va_P D vwCl [(g0, .inr (9, [.ref ys, .ref yk, .ref yo, .ref yt, .int 0, .ref yfa, .ref yfe, .int 0, .int 0, .int 0, .ref yro, .ref yhe, .ref ygr, .int 0, .int 0, .int 0, .ref yta, .int 0, .int 0, .int 0, .int 0, .int 0, .ref ywa, .ref ybi, .ref ysi, .ref ynu, .ref ymo])), (ybi, .inl (cI, 4, .inl (fun _ => 0))), (yt, .inl (cI, 7, .inl (fun _ => 0)))] H := hP
  have hD : va_D A [(g0, .inr (9, [.ref ys, .ref yk, .ref yo, .ref yt, .int 0, .ref yfa, .ref yfe, .int 0, .int 0, .int 0, .ref yro, .ref yhe, .ref ygr, .int 0, .int 0, .int 0, .ref yta, .int 0, .int 0, .int 0, .int 0, .int 0, .ref ywa, .ref ybi, .ref ysi, .ref ynu, .ref ymo])), (ybi, .inl (cI, 4, .inl (fun _ => 0))), (yt, .inl (cI, 7, .inl (fun _ => 0)))] := hD
  subst hw_r_1
  refine lv_aload_n hx hb dL_law_1384 rfl (lv_at hl 1 rfl) ?_
  refine lv_aload_n hx hb dL_law_1385 rfl (lv_at hl 3 rfl) ?_
  refine lv_iload_n hx hb dL_law_1386 rfl (lv_at hl 0 rfl) ?_
  refine lv_iconst (v := 1) hx hb dL_law_1387 (by decide) ?_
  refine lv_iadd hx hb dL_law_1388 ?_
  refine xl_i (y := 1) (by decide) ?_
  refine va_sld hx hb hX hbl hbA hS (xin 1 6 (by decide) (by decide)) dL_law_1389 ?_
  refine xl_i (y := xs 1) rfl ?_
  refine xc_Vi (wr := []) hF (c_X9_read l D cI cJ cZ cS sa H.size g0 ys yk yo yt yfa yfe yro yhe ygr yta ywa ybi ysi ynu ymo (xs 1) ) kv_L_178 ⟨rfl, rfl, Nat.le_of_ble_eq_true rfl, Nat.le_of_ble_eq_true rfl⟩ ⟨Nat.le_of_ble_eq_true rfl, Nat.le_of_ble_eq_true rfl⟩ hK hN hP hD hS hA [0, 1, 2] [] rfl rfl rfl rfl (by decide) 0 rfl rfl rfl rfl hl.1 rfl (Nat.le_of_ble_eq_true rfl) dL_law_1390 (fun r_2 u_r_2 H locs hw_r_2 hP hD hS => ?_)
  have hP : va_P D vwCl [] H := hP
  have hD : va_D A [] := hD
  subst hw_r_2
  refine lv_icmp_eq (tgt := 1483) hx hb dL_law_1393 (by decide) (fun c_3 => ?_) (fun c_3 => absurd rfl c_3)
  exact law_end l hF hr hlk hX hbl hbA hAs hS hl
set_option maxHeartbeats 4000000 in
set_option maxRecDepth 100000 in
theorem law_39 {p : Program} {e : Env} {s : State} {m : MethodId} {below : List Frame} {meth : Method} {c : Code} (l : Launch) (D : va_G) (cI cJ cZ cS : ClassId) (sa : Nat → Nat) {b : Nat} {xs : Nat → Int32} (hF : CallFix p m c cL_law 4 s #[Value.ref b] (Cond.initialized RX8 :: wsU) RL) (hr : meth.sig.returnType = ret) (hlk : meth.locks = false) (hK : va_K D vwCl (xT cI cJ cZ cS) s) (hN : XN sa s) (hX : va_X b 6 xs s s.heap) (hbl : b < s.heap.size) {A : Nat → Prop} (hA : ∀ q : Nat, s.heap.size ≤ q → A q) (hbA : ¬ A b) (hAs : ∀ q, A q → s.heap.size ≤ q) (h0 qh qk qd qa qm qs qp ql qt qz qf ae al au ao ar ak aw att ass aRn aRp aWn aWp be bl bu bo br bk bw btt bss bRn bRp bWn bWp g0 ys yk yo yt yfa yfe yro yhe ygr yta ywa ybi ysi ynu ymo : Nat) {H : Heap} {locs : List Loc} {ls : Array Slot} (hP : va_P D vwCl [(h0, .inr (8, [.ref qh, .ref qk, .ref qd, .int 0, .ref qa, .ref qm, .ref qs, .ref qp, .ref ql, .ref qt, .ref qz, .ref qf])), (qh, .inr (1, [.int 0, .ref ae, .ref al, .ref au, .ref ao, .ref ar, .ref ak, .ref aw, .ref att, .ref ass])), (ae, .inl (cI, 10, .inl (fun _ => 0))), (al, .inl (cI, 100, .inl (fun _ => 0))), (au, .inl (cI, 100, .inl (fun _ => 0))), (ao, .inl (cI, 100, .inl (fun _ => 0))), (ar, .inr (3, [.int 0, .ref aRn, .ref aRp])), (aRn, .inl (cI, 8, .inl (fun _ => 0))), (aRp, .inl (cI, 48, .inl (fun _ => 0))), (ak, .inl (cI, 8, .inl (fun _ => 0))), (aw, .inr (3, [.int 0, .ref aWn, .ref aWp])), (aWn, .inl (cI, 8, .inl (fun _ => 0))), (aWp, .inl (cI, 48, .inl (fun _ => 0))), (att, .inl (cI, 8, .inl (fun _ => 0))), (ass, .inl (cI, 8, .inl (fun _ => 0))), (qk, .inr (1, [.int 0, .ref be, .ref bl, .ref bu, .ref bo, .ref br, .ref bk, .ref bw, .ref btt, .ref bss])), (be, .inl (cI, 10, .inl (fun _ => 0))), (bl, .inl (cI, 100, .inl (fun _ => 0))), (bu, .inl (cI, 100, .inl (fun _ => 0))), (bo, .inl (cI, 100, .inl (fun _ => 0))), (br, .inr (3, [.int 0, .ref bRn, .ref bRp])), (bRn, .inl (cI, 8, .inl (fun _ => 0))), (bRp, .inl (cI, 48, .inl (fun _ => 0))), (bk, .inl (cI, 8, .inl (fun _ => 0))), (bw, .inr (3, [.int 0, .ref bWn, .ref bWp])), (bWn, .inl (cI, 8, .inl (fun _ => 0))), (bWp, .inl (cI, 48, .inl (fun _ => 0))), (btt, .inl (cI, 8, .inl (fun _ => 0))), (bss, .inl (cI, 8, .inl (fun _ => 0))), (g0, .inr (9, [.ref ys, .ref yk, .ref yo, .ref yt, .int 0, .ref yfa, .ref yfe, .int 0, .int 0, .int 0, .ref yro, .ref yhe, .ref ygr, .int 0, .int 0, .int 0, .ref yta, .int 0, .int 0, .int 0, .int 0, .int 0, .ref ywa, .ref ybi, .ref ysi, .ref ynu, .ref ymo])), (ys, .inl (cI, 449, .inl (fun _ => 0))), (yk, .inl (cI, 449, .inl (fun _ => 0)))] H) (hD : va_D A [(h0, .inr (8, [.ref qh, .ref qk, .ref qd, .int 0, .ref qa, .ref qm, .ref qs, .ref qp, .ref ql, .ref qt, .ref qz, .ref qf])), (qh, .inr (1, [.int 0, .ref ae, .ref al, .ref au, .ref ao, .ref ar, .ref ak, .ref aw, .ref att, .ref ass])), (ae, .inl (cI, 10, .inl (fun _ => 0))), (al, .inl (cI, 100, .inl (fun _ => 0))), (au, .inl (cI, 100, .inl (fun _ => 0))), (ao, .inl (cI, 100, .inl (fun _ => 0))), (ar, .inr (3, [.int 0, .ref aRn, .ref aRp])), (aRn, .inl (cI, 8, .inl (fun _ => 0))), (aRp, .inl (cI, 48, .inl (fun _ => 0))), (ak, .inl (cI, 8, .inl (fun _ => 0))), (aw, .inr (3, [.int 0, .ref aWn, .ref aWp])), (aWn, .inl (cI, 8, .inl (fun _ => 0))), (aWp, .inl (cI, 48, .inl (fun _ => 0))), (att, .inl (cI, 8, .inl (fun _ => 0))), (ass, .inl (cI, 8, .inl (fun _ => 0))), (qk, .inr (1, [.int 0, .ref be, .ref bl, .ref bu, .ref bo, .ref br, .ref bk, .ref bw, .ref btt, .ref bss])), (be, .inl (cI, 10, .inl (fun _ => 0))), (bl, .inl (cI, 100, .inl (fun _ => 0))), (bu, .inl (cI, 100, .inl (fun _ => 0))), (bo, .inl (cI, 100, .inl (fun _ => 0))), (br, .inr (3, [.int 0, .ref bRn, .ref bRp])), (bRn, .inl (cI, 8, .inl (fun _ => 0))), (bRp, .inl (cI, 48, .inl (fun _ => 0))), (bk, .inl (cI, 8, .inl (fun _ => 0))), (bw, .inr (3, [.int 0, .ref bWn, .ref bWp])), (bWn, .inl (cI, 8, .inl (fun _ => 0))), (bWp, .inl (cI, 48, .inl (fun _ => 0))), (btt, .inl (cI, 8, .inl (fun _ => 0))), (bss, .inl (cI, 8, .inl (fun _ => 0))), (g0, .inr (9, [.ref ys, .ref yk, .ref yo, .ref yt, .int 0, .ref yfa, .ref yfe, .int 0, .int 0, .int 0, .ref yro, .ref yhe, .ref ygr, .int 0, .int 0, .int 0, .ref yta, .int 0, .int 0, .int 0, .int 0, .int 0, .ref ywa, .ref ybi, .ref ysi, .ref ynu, .ref ymo])), (ys, .inl (cI, 449, .inl (fun _ => 0))), (yk, .inl (cI, 449, .inl (fun _ => 0)))]) (hS : va_S A s.heap H locs) (hl : lv_has ls 4 [(3, .int 0), (2, .ref g0), (1, .ref h0), (0, .ref b)]) : W p l e room_1 s m #[Value.ref b] below meth c H locs 82 4273 (lw_Z below #[Value.ref b] s) (F0 m 1398 ls []) := by
  have hx := hF.1
  have hb := hF.2.1
  have hml := hF.2.2.1
  have hown := hF.2.2.2.1
  have hu : ∀ w ∈ wsU, w.before _ s = true := fun w h => hF.2.2.2.2 w (List.mem_cons_of_mem _ h)
  refine lv_aload_n hx hb dL_law_1398 rfl (lv_at hl 2 rfl) ?_
  refine xc_Vi (wr := [(g0, .inr (9, [.ref ys, .ref yk, .ref yo, .ref yt, .int 0, .ref yfa, .ref yfe, .int 0, .int 0, .int 0, .ref yro, .ref yhe, .ref ygr, .int 0, .int 0, .int 0, .ref yta, .int 0, .int 0, .int 0, .int 0, .int 0, .ref ywa, .ref ybi, .ref ysi, .ref ynu, .ref ymo])), (ys, .inl (cI, 449, .inl (fun _ => 0))), (yk, .inl (cI, 449, .inl (fun _ => 0)))]) hF (c_X8_image l D cI cJ cZ cS sa H.size h0 qh qk qd qa qm qs qp ql qt qz qf ae al au ao ar ak aw att ass aRn aRp aWn aWp be bl bu bo br bk bw btt bss bRn bRp bWn bWp ) kv_L_179 ⟨rfl, rfl, Nat.le_of_ble_eq_true rfl, Nat.le_of_ble_eq_true rfl⟩ ⟨Nat.le_of_ble_eq_true rfl, Nat.le_of_ble_eq_true rfl⟩ hK hN hP hD hS hA [0, 1, 2, 3, 4, 5, 6, 7, 8, 9, 10, 11, 12, 13, 14, 15, 16, 17, 18, 19, 20, 21, 22, 23, 24, 25, 26, 27, 28] [29, 30, 31] rfl rfl rfl rfl (by decide) 0 rfl rfl rfl rfl hl.1 rfl (Nat.le_of_ble_eq_true rfl) dL_law_1399 (fun r_1 u_r_1 H locs hw_r_1 hP hD hS => ?_)
  have hP : va_P D vwCl [(g0, .inr (9, [.ref ys, .ref yk, .ref yo, .ref yt, .int 0, .ref yfa, .ref yfe, .int 0, .int 0, .int 0, .ref yro, .ref yhe, .ref ygr, .int 0, .int 0, .int 0, .ref yta, .int 0, .int 0, .int 0, .int 0, .int 0, .ref ywa, .ref ybi, .ref ysi, .ref ynu, .ref ymo])), (ys, .inl (cI, 449, .inl (fun _ => 0))), (yk, .inl (cI, 449, .inl (fun _ => 0)))] H := hP
  have hD : va_D A [(g0, .inr (9, [.ref ys, .ref yk, .ref yo, .ref yt, .int 0, .ref yfa, .ref yfe, .int 0, .int 0, .int 0, .ref yro, .ref yhe, .ref ygr, .int 0, .int 0, .int 0, .ref yta, .int 0, .int 0, .int 0, .int 0, .int 0, .ref ywa, .ref ybi, .ref ysi, .ref ynu, .ref ymo])), (ys, .inl (cI, 449, .inl (fun _ => 0))), (yk, .inl (cI, 449, .inl (fun _ => 0)))] := hD
  subst hw_r_1
  refine lv_aload_n hx hb dL_law_1402 rfl (lv_at hl 1 rfl) ?_
  refine xc_Vi (wr := []) hF (c_X9_image l D cI cJ cZ cS sa H.size g0 ys yk yo yt yfa yfe yro yhe ygr yta ywa ybi ysi ynu ymo ) kv_L_182 ⟨rfl, rfl, Nat.le_of_ble_eq_true rfl, Nat.le_of_ble_eq_true rfl⟩ ⟨Nat.le_of_ble_eq_true rfl, Nat.le_of_ble_eq_true rfl⟩ hK hN hP hD hS hA [0, 1, 2] [] rfl rfl rfl rfl (by decide) 0 rfl rfl rfl rfl hl.1 rfl (Nat.le_of_ble_eq_true rfl) dL_law_1403 (fun r_2 u_r_2 H locs hw_r_2 hP hD hS => ?_)
  have hP : va_P D vwCl [] H := hP
  have hD : va_D A [] := hD
  subst hw_r_2
  refine lv_icmp_eq (tgt := 1483) hx hb dL_law_1406 (by decide) (fun c_3 => ?_) (fun c_3 => absurd (by decide) c_3)
  exact law_end l hF hr hlk hX hbl hbA hAs hS hl
set_option maxHeartbeats 4000000 in
set_option maxRecDepth 100000 in
theorem law_40 {p : Program} {e : Env} {s : State} {m : MethodId} {below : List Frame} {meth : Method} {c : Code} (l : Launch) (D : va_G) (cI cJ cZ cS : ClassId) (sa : Nat → Nat) {b : Nat} {xs : Nat → Int32} (hF : CallFix p m c cL_law 4 s #[Value.ref b] (Cond.initialized RX8 :: wsU) RL) (hr : meth.sig.returnType = ret) (hlk : meth.locks = false) (hK : va_K D vwCl (xT cI cJ cZ cS) s) (hN : XN sa s) (hX : va_X b 6 xs s s.heap) (hbl : b < s.heap.size) {A : Nat → Prop} (hA : ∀ q : Nat, s.heap.size ≤ q → A q) (hbA : ¬ A b) (hAs : ∀ q, A q → s.heap.size ≤ q) (h0 qh qk qd qa qm qs qp ql qt qz qf g0 ys yk yo yt yfa yfe yro yhe ygr yta ywa ybi ysi ynu ymo : Nat) {H : Heap} {locs : List Loc} {ls : Array Slot} (hP : va_P D vwCl [(h0, .inr (8, [.ref qh, .ref qk, .ref qd, .int 0, .ref qa, .ref qm, .ref qs, .ref qp, .ref ql, .ref qt, .ref qz, .ref qf])), (qf, .inl (cI, 7, .inl (fun _ => 0))), (g0, .inr (9, [.ref ys, .ref yk, .ref yo, .ref yt, .int 0, .ref yfa, .ref yfe, .int 0, .int 0, .int 0, .ref yro, .ref yhe, .ref ygr, .int 0, .int 0, .int 0, .ref yta, .int 0, .int 0, .int 0, .int 0, .int 0, .ref ywa, .ref ybi, .ref ysi, .ref ynu, .ref ymo])), (yt, .inl (cI, 7, .inl (fun _ => 0)))] H) (hD : va_D A [(h0, .inr (8, [.ref qh, .ref qk, .ref qd, .int 0, .ref qa, .ref qm, .ref qs, .ref qp, .ref ql, .ref qt, .ref qz, .ref qf])), (qf, .inl (cI, 7, .inl (fun _ => 0))), (g0, .inr (9, [.ref ys, .ref yk, .ref yo, .ref yt, .int 0, .ref yfa, .ref yfe, .int 0, .int 0, .int 0, .ref yro, .ref yhe, .ref ygr, .int 0, .int 0, .int 0, .ref yta, .int 0, .int 0, .int 0, .int 0, .int 0, .ref ywa, .ref ybi, .ref ysi, .ref ynu, .ref ymo])), (yt, .inl (cI, 7, .inl (fun _ => 0)))]) (hS : va_S A s.heap H locs) (hl : lv_has ls 4 [(3, .int 0), (2, .ref g0), (1, .ref h0), (0, .ref b)]) : W p l e room_1 s m #[Value.ref b] below meth c H locs 82 4273 (lw_Z below #[Value.ref b] s) (F0 m 1411 ls []) := by
  have hx := hF.1
  have hb := hF.2.1
  have hml := hF.2.2.1
  have hown := hF.2.2.2.1
  have hu : ∀ w ∈ wsU, w.before _ s = true := fun w h => hF.2.2.2.2 w (List.mem_cons_of_mem _ h)
  refine lv_aload_n hx hb dL_law_1411 rfl (lv_at hl 2 rfl) ?_
  refine xc_Vi (wr := [(g0, .inr (9, [.ref ys, .ref yk, .ref yo, .ref yt, .int 0, .ref yfa, .ref yfe, .int 0, .int 0, .int 0, .ref yro, .ref yhe, .ref ygr, .int 0, .int 0, .int 0, .ref yta, .int 0, .int 0, .int 0, .int 0, .int 0, .ref ywa, .ref ybi, .ref ysi, .ref ynu, .ref ymo])), (yt, .inl (cI, 7, .inl (fun _ => 0)))]) hF (c_X8_undo l D cI cJ cZ cS sa H.size h0 qh qk qd qa qm qs qp ql qt qz qf ) kv_L_183 ⟨rfl, rfl, Nat.le_of_ble_eq_true rfl, Nat.le_of_ble_eq_true rfl⟩ ⟨Nat.le_of_ble_eq_true rfl, Nat.le_of_ble_eq_true rfl⟩ hK hN hP hD hS hA [0, 1] [2, 3] rfl rfl rfl rfl (by decide) 0 rfl rfl rfl rfl hl.1 rfl (Nat.le_of_ble_eq_true rfl) dL_law_1412 (fun r_1 u_r_1 H locs hw_r_1 hP hD hS => ?_)
  have hP : va_P D vwCl [(g0, .inr (9, [.ref ys, .ref yk, .ref yo, .ref yt, .int 0, .ref yfa, .ref yfe, .int 0, .int 0, .int 0, .ref yro, .ref yhe, .ref ygr, .int 0, .int 0, .int 0, .ref yta, .int 0, .int 0, .int 0, .int 0, .int 0, .ref ywa, .ref ybi, .ref ysi, .ref ynu, .ref ymo])), (yt, .inl (cI, 7, .inl (fun _ => 0)))] H := hP
  have hD : va_D A [(g0, .inr (9, [.ref ys, .ref yk, .ref yo, .ref yt, .int 0, .ref yfa, .ref yfe, .int 0, .int 0, .int 0, .ref yro, .ref yhe, .ref ygr, .int 0, .int 0, .int 0, .ref yta, .int 0, .int 0, .int 0, .int 0, .int 0, .ref ywa, .ref ybi, .ref ysi, .ref ynu, .ref ymo])), (yt, .inl (cI, 7, .inl (fun _ => 0)))] := hD
  subst hw_r_1
  refine lv_aload_n hx hb dL_law_1415 rfl (lv_at hl 1 rfl) ?_
  refine xc_Vi (wr := []) hF (c_X9_undo l D cI cJ cZ cS sa H.size g0 ys yk yo yt yfa yfe yro yhe ygr yta ywa ybi ysi ynu ymo ) kv_L_186 ⟨rfl, rfl, Nat.le_of_ble_eq_true rfl, Nat.le_of_ble_eq_true rfl⟩ ⟨Nat.le_of_ble_eq_true rfl, Nat.le_of_ble_eq_true rfl⟩ hK hN hP hD hS hA [0, 1] [] rfl rfl rfl rfl (by decide) 0 rfl rfl rfl rfl hl.1 rfl (Nat.le_of_ble_eq_true rfl) dL_law_1416 (fun r_2 u_r_2 H locs hw_r_2 hP hD hS => ?_)
  have hP : va_P D vwCl [] H := hP
  have hD : va_D A [] := hD
  subst hw_r_2
  refine lv_icmp_eq (tgt := 1483) hx hb dL_law_1419 (by decide) (fun c_3 => ?_) (fun c_3 => absurd (by decide) c_3)
  exact law_end l hF hr hlk hX hbl hbA hAs hS hl
set_option maxHeartbeats 4000000 in
set_option maxRecDepth 100000 in
theorem law_41 {p : Program} {e : Env} {s : State} {m : MethodId} {below : List Frame} {meth : Method} {c : Code} (l : Launch) (D : va_G) (cI cJ cZ cS : ClassId) (sa : Nat → Nat) {b : Nat} {xs : Nat → Int32} (hF : CallFix p m c cL_law 4 s #[Value.ref b] (Cond.initialized RX8 :: wsU) RL) (hr : meth.sig.returnType = ret) (hlk : meth.locks = false) (hK : va_K D vwCl (xT cI cJ cZ cS) s) (hN : XN sa s) (hX : va_X b 6 xs s s.heap) (hbl : b < s.heap.size) {A : Nat → Prop} (hA : ∀ q : Nat, s.heap.size ≤ q → A q) (hbA : ¬ A b) (hAs : ∀ q, A q → s.heap.size ≤ q) (h0 qh qk qd qa qm qs qp ql qt qz qf g0 ys yk yo yt yfa yfe yro yhe ygr yta ywa ybi ysi ynu ymo : Nat) {H : Heap} {locs : List Loc} {ls : Array Slot} (hP : va_P D vwCl [(h0, .inr (8, [.ref qh, .ref qk, .ref qd, .int 0, .ref qa, .ref qm, .ref qs, .ref qp, .ref ql, .ref qt, .ref qz, .ref qf])), (g0, .inr (9, [.ref ys, .ref yk, .ref yo, .ref yt, .int 0, .ref yfa, .ref yfe, .int 0, .int 0, .int 0, .ref yro, .ref yhe, .ref ygr, .int 0, .int 0, .int 0, .ref yta, .int 0, .int 0, .int 0, .int 0, .int 0, .ref ywa, .ref ybi, .ref ysi, .ref ynu, .ref ymo]))] H) (hD : va_D A [(h0, .inr (8, [.ref qh, .ref qk, .ref qd, .int 0, .ref qa, .ref qm, .ref qs, .ref qp, .ref ql, .ref qt, .ref qz, .ref qf])), (g0, .inr (9, [.ref ys, .ref yk, .ref yo, .ref yt, .int 0, .ref yfa, .ref yfe, .int 0, .int 0, .int 0, .ref yro, .ref yhe, .ref ygr, .int 0, .int 0, .int 0, .ref yta, .int 0, .int 0, .int 0, .int 0, .int 0, .ref ywa, .ref ybi, .ref ysi, .ref ynu, .ref ymo]))]) (hS : va_S A s.heap H locs) (hl : lv_has ls 4 [(3, .int 0), (2, .ref g0), (1, .ref h0), (0, .ref b)]) : W p l e room_1 s m #[Value.ref b] below meth c H locs 82 4273 (lw_Z below #[Value.ref b] s) (F0 m 1424 ls []) := by
  have hx := hF.1
  have hb := hF.2.1
  have hml := hF.2.2.1
  have hown := hF.2.2.2.1
  have hu : ∀ w ∈ wsU, w.before _ s = true := fun w h => hF.2.2.2.2 w (List.mem_cons_of_mem _ h)
  refine lv_aload_n hx hb dL_law_1424 rfl (lv_at hl 2 rfl) ?_
  refine xc_Vi (wr := [(g0, .inr (9, [.ref ys, .ref yk, .ref yo, .ref yt, .int 0, .ref yfa, .ref yfe, .int 0, .int 0, .int 0, .ref yro, .ref yhe, .ref ygr, .int 0, .int 0, .int 0, .ref yta, .int 0, .int 0, .int 0, .int 0, .int 0, .ref ywa, .ref ybi, .ref ysi, .ref ynu, .ref ymo]))]) hF (c_X8_tear l D cI cJ cZ cS sa H.size h0 qh qk qd qa qm qs qp ql qt qz qf ) kv_L_187 ⟨rfl, rfl, Nat.le_of_ble_eq_true rfl, Nat.le_of_ble_eq_true rfl⟩ ⟨Nat.le_of_ble_eq_true rfl, Nat.le_of_ble_eq_true rfl⟩ hK hN hP hD hS hA [0] [1] rfl rfl rfl rfl (by decide) 0 rfl rfl rfl rfl hl.1 rfl (Nat.le_of_ble_eq_true rfl) dL_law_1425 (fun r_1 u_r_1 H locs hw_r_1 hP hD hS => ?_)
  have hP : va_P D vwCl [(g0, .inr (9, [.ref ys, .ref yk, .ref yo, .ref yt, .int 0, .ref yfa, .ref yfe, .int 0, .int 0, .int 0, .ref yro, .ref yhe, .ref ygr, .int 0, .int 0, .int 0, .ref yta, .int 0, .int 0, .int 0, .int 0, .int 0, .ref ywa, .ref ybi, .ref ysi, .ref ynu, .ref ymo]))] H := hP
  have hD : va_D A [(g0, .inr (9, [.ref ys, .ref yk, .ref yo, .ref yt, .int 0, .ref yfa, .ref yfe, .int 0, .int 0, .int 0, .ref yro, .ref yhe, .ref ygr, .int 0, .int 0, .int 0, .ref yta, .int 0, .int 0, .int 0, .int 0, .int 0, .ref ywa, .ref ybi, .ref ysi, .ref ynu, .ref ymo]))] := hD
  subst hw_r_1
  refine lv_aload_n hx hb dL_law_1428 rfl (lv_at hl 1 rfl) ?_
  refine xc_Vi (wr := []) hF (c_X9_tear l D cI cJ cZ cS sa H.size g0 ys yk yo yt yfa yfe yro yhe ygr yta ywa ybi ysi ynu ymo ) kv_L_190 ⟨rfl, rfl, Nat.le_of_ble_eq_true rfl, Nat.le_of_ble_eq_true rfl⟩ ⟨Nat.le_of_ble_eq_true rfl, Nat.le_of_ble_eq_true rfl⟩ hK hN hP hD hS hA [0] [] rfl rfl rfl rfl (by decide) 0 rfl rfl rfl rfl hl.1 rfl (Nat.le_of_ble_eq_true rfl) dL_law_1429 (fun r_2 u_r_2 H locs hw_r_2 hP hD hS => ?_)
  have hP : va_P D vwCl [] H := hP
  have hD : va_D A [] := hD
  subst hw_r_2
  refine lv_icmp_eq (tgt := 1483) hx hb dL_law_1432 (by decide) (fun c_3 => ?_) (fun c_3 => absurd (by decide) c_3)
  exact law_end l hF hr hlk hX hbl hbA hAs hS hl
set_option maxHeartbeats 4000000 in
set_option maxRecDepth 100000 in
theorem law_42 {p : Program} {e : Env} {s : State} {m : MethodId} {below : List Frame} {meth : Method} {c : Code} (l : Launch) (D : va_G) (cI cJ cZ cS : ClassId) (sa : Nat → Nat) {b : Nat} {xs : Nat → Int32} (hF : CallFix p m c cL_law 4 s #[Value.ref b] (Cond.initialized RX8 :: wsU) RL) (hr : meth.sig.returnType = ret) (hlk : meth.locks = false) (hK : va_K D vwCl (xT cI cJ cZ cS) s) (hN : XN sa s) (hX : va_X b 6 xs s s.heap) (hbl : b < s.heap.size) {A : Nat → Prop} (hA : ∀ q : Nat, s.heap.size ≤ q → A q) (hbA : ¬ A b) (hAs : ∀ q, A q → s.heap.size ≤ q) (h0 qh qk qd qa qm qs qp ql qt qz qf ae al au ao ar ak aw att ass aRn aRp aWn aWp tb g0 ys yk yo yt yfa yfe yro yhe ygr yta ywa ybi ysi ynu ymo : Nat) {H : Heap} {locs : List Loc} {ls : Array Slot} (hP : va_P D vwCl [(h0, .inr (8, [.ref qh, .ref qk, .ref qd, .int 0, .ref qa, .ref qm, .ref qs, .ref qp, .ref ql, .ref qt, .ref qz, .ref qf])), (qh, .inr (1, [.int 0, .ref ae, .ref al, .ref au, .ref ao, .ref ar, .ref ak, .ref aw, .ref att, .ref ass])), (al, .inl (cI, 100, .inl (fun _ => 0))), (au, .inl (cI, 100, .inl (fun _ => 0))), (ao, .inl (cI, 100, .inl (fun _ => 0))), (ar, .inr (3, [.int 0, .ref aRn, .ref aRp])), (aw, .inr (3, [.int 0, .ref aWn, .ref aWp])), (qt, .inr (7, [.int 0, .ref tb, .int 0, .int 0, .int 0, .int 0, .int 0])), (qf, .inl (cI, 7, .inl (fun _ => 0))), (g0, .inr (9, [.ref ys, .ref yk, .ref yo, .ref yt, .int 0, .ref yfa, .ref yfe, .int 0, .int 0, .int 0, .ref yro, .ref yhe, .ref ygr, .int 0, .int 0, .int 0, .ref yta, .int 0, .int 0, .int 0, .int 0, .int 0, .ref ywa, .ref ybi, .ref ysi, .ref ynu, .ref ymo])), (ys, .inl (cI, 449, .inl (fun _ => 0))), (yt, .inl (cI, 7, .inl (fun _ => 0)))] H) (hD : va_D A [(h0, .inr (8, [.ref qh, .ref qk, .ref qd, .int 0, .ref qa, .ref qm, .ref qs, .ref qp, .ref ql, .ref qt, .ref qz, .ref qf])), (qh, .inr (1, [.int 0, .ref ae, .ref al, .ref au, .ref ao, .ref ar, .ref ak, .ref aw, .ref att, .ref ass])), (al, .inl (cI, 100, .inl (fun _ => 0))), (au, .inl (cI, 100, .inl (fun _ => 0))), (ao, .inl (cI, 100, .inl (fun _ => 0))), (ar, .inr (3, [.int 0, .ref aRn, .ref aRp])), (aw, .inr (3, [.int 0, .ref aWn, .ref aWp])), (qt, .inr (7, [.int 0, .ref tb, .int 0, .int 0, .int 0, .int 0, .int 0])), (qf, .inl (cI, 7, .inl (fun _ => 0))), (g0, .inr (9, [.ref ys, .ref yk, .ref yo, .ref yt, .int 0, .ref yfa, .ref yfe, .int 0, .int 0, .int 0, .ref yro, .ref yhe, .ref ygr, .int 0, .int 0, .int 0, .ref yta, .int 0, .int 0, .int 0, .int 0, .int 0, .ref ywa, .ref ybi, .ref ysi, .ref ynu, .ref ymo])), (ys, .inl (cI, 449, .inl (fun _ => 0))), (yt, .inl (cI, 7, .inl (fun _ => 0)))]) (hS : va_S A s.heap H locs) (hl : lv_has ls 4 [(3, .int 0), (2, .ref g0), (1, .ref h0), (0, .ref b)]) : W p l e room_1 s m #[Value.ref b] below meth c H locs 82 4273 (lw_Z below #[Value.ref b] s) (F0 m 1437 ls []) := by
  have hx := hF.1
  have hb := hF.2.1
  have hml := hF.2.2.1
  have hown := hF.2.2.2.1
  have hu : ∀ w ∈ wsU, w.before _ s = true := fun w h => hF.2.2.2.2 w (List.mem_cons_of_mem _ h)
  refine lv_aload_n hx hb dL_law_1437 rfl (lv_at hl 2 rfl) ?_
  refine lv_aload_n hx hb dL_law_1438 rfl (lv_at hl 3 rfl) ?_
  refine lv_iload_n hx hb dL_law_1439 rfl (lv_at hl 0 rfl) ?_
  refine lv_iconst (v := 1) hx hb dL_law_1440 (by decide) ?_
  refine lv_iadd hx hb dL_law_1441 ?_
  refine xl_i (y := 1) (by decide) ?_
  refine va_sld hx hb hX hbl hbA hS (xin 1 6 (by decide) (by decide)) dL_law_1442 ?_
  refine xl_i (y := xs 1) rfl ?_
  refine xc_Vi (wr := [(g0, .inr (9, [.ref ys, .ref yk, .ref yo, .ref yt, .int 0, .ref yfa, .ref yfe, .int 0, .int 0, .int 0, .ref yro, .ref yhe, .ref ygr, .int 0, .int 0, .int 0, .ref yta, .int 0, .int 0, .int 0, .int 0, .int 0, .ref ywa, .ref ybi, .ref ysi, .ref ynu, .ref ymo])), (ys, .inl (cI, 449, .inl (fun _ => 0))), (yt, .inl (cI, 7, .inl (fun _ => 0)))]) hF (c_X8_count l D cI cJ cZ cS sa H.size h0 qh qk qd qa qm qs qp ql qt qz qf ae al au ao ar ak aw att ass aRn aRp aWn aWp tb (xs 1) ) kv_L_191 ⟨rfl, rfl, Nat.le_of_ble_eq_true rfl, Nat.le_of_ble_eq_true rfl⟩ ⟨Nat.le_of_ble_eq_true rfl, Nat.le_of_ble_eq_true rfl⟩ hK hN hP hD hS hA [0, 1, 2, 3, 4, 5, 6, 7, 8] [9, 10, 11] rfl rfl rfl rfl (by decide) 0 rfl rfl rfl rfl hl.1 rfl (Nat.le_of_ble_eq_true rfl) dL_law_1443 (fun r_1 u_r_1 H locs hw_r_1 hP hD hS => ?_)
  have hP : va_P D vwCl [(g0, .inr (9, [.ref ys, .ref yk, .ref yo, .ref yt, .int 0, .ref yfa, .ref yfe, .int 0, .int 0, .int 0, .ref yro, .ref yhe, .ref ygr, .int 0, .int 0, .int 0, .ref yta, .int 0, .int 0, .int 0, .int 0, .int 0, .ref ywa, .ref ybi, .ref ysi, .ref ynu, .ref ymo])), (ys, .inl (cI, 449, .inl (fun _ => 0))), (yt, .inl (cI, 7, .inl (fun _ => 0)))] H := hP
  have hD : va_D A [(g0, .inr (9, [.ref ys, .ref yk, .ref yo, .ref yt, .int 0, .ref yfa, .ref yfe, .int 0, .int 0, .int 0, .ref yro, .ref yhe, .ref ygr, .int 0, .int 0, .int 0, .ref yta, .int 0, .int 0, .int 0, .int 0, .int 0, .ref ywa, .ref ybi, .ref ysi, .ref ynu, .ref ymo])), (ys, .inl (cI, 449, .inl (fun _ => 0))), (yt, .inl (cI, 7, .inl (fun _ => 0)))] := hD
  subst hw_r_1
  refine lv_aload_n hx hb dL_law_1446 rfl (lv_at hl 1 rfl) ?_
  refine lv_aload_n hx hb dL_law_1447 rfl (lv_at hl 3 rfl) ?_
  refine lv_iload_n hx hb dL_law_1448 rfl (lv_at hl 0 rfl) ?_
  refine lv_iconst (v := 1) hx hb dL_law_1449 (by decide) ?_
  refine lv_iadd hx hb dL_law_1450 ?_
  refine xl_i (y := 1) (by decide) ?_
  refine va_sld hx hb hX hbl hbA hS (xin 1 6 (by decide) (by decide)) dL_law_1451 ?_
  refine xl_i (y := xs 1) rfl ?_
  refine xc_Vi (wr := []) hF (c_X9_count l D cI cJ cZ cS sa H.size g0 ys yk yo yt yfa yfe yro yhe ygr yta ywa ybi ysi ynu ymo (xs 1) ) kv_L_194 ⟨rfl, rfl, Nat.le_of_ble_eq_true rfl, Nat.le_of_ble_eq_true rfl⟩ ⟨Nat.le_of_ble_eq_true rfl, Nat.le_of_ble_eq_true rfl⟩ hK hN hP hD hS hA [0, 1, 2] [] rfl rfl rfl rfl (by decide) 0 rfl rfl rfl rfl hl.1 rfl (Nat.le_of_ble_eq_true rfl) dL_law_1452 (fun r_2 u_r_2 H locs hw_r_2 hP hD hS => ?_)
  have hP : va_P D vwCl [] H := hP
  have hD : va_D A [] := hD
  subst hw_r_2
  refine lv_icmp_eq (tgt := 1483) hx hb dL_law_1455 (by decide) (fun c_3 => ?_) (fun c_3 => absurd rfl c_3)
  exact law_end l hF hr hlk hX hbl hbA hAs hS hl
set_option maxHeartbeats 4000000 in
set_option maxRecDepth 100000 in
theorem law_43 {p : Program} {e : Env} {s : State} {m : MethodId} {below : List Frame} {meth : Method} {c : Code} (l : Launch) (D : va_G) (cI cJ cZ cS : ClassId) (sa : Nat → Nat) {b : Nat} {xs : Nat → Int32} (hF : CallFix p m c cL_law 4 s #[Value.ref b] (Cond.initialized RX8 :: wsU) RL) (hr : meth.sig.returnType = ret) (hlk : meth.locks = false) (hK : va_K D vwCl (xT cI cJ cZ cS) s) (hN : XN sa s) (hX : va_X b 6 xs s s.heap) (hbl : b < s.heap.size) {A : Nat → Prop} (hA : ∀ q : Nat, s.heap.size ≤ q → A q) (hbA : ¬ A b) (hAs : ∀ q, A q → s.heap.size ≤ q) (h0 qh qk qd qa qm qs qp ql qt qz qf g0 ys yk yo yt yfa yfe yro yhe ygr yta ywa ybi ysi ynu ymo : Nat) {H : Heap} {locs : List Loc} {ls : Array Slot} (hP : va_P D vwCl [(h0, .inr (8, [.ref qh, .ref qk, .ref qd, .int 0, .ref qa, .ref qm, .ref qs, .ref qp, .ref ql, .ref qt, .ref qz, .ref qf])), (qf, .inl (cI, 7, .inl (fun _ => 0))), (g0, .inr (9, [.ref ys, .ref yk, .ref yo, .ref yt, .int 0, .ref yfa, .ref yfe, .int 0, .int 0, .int 0, .ref yro, .ref yhe, .ref ygr, .int 0, .int 0, .int 0, .ref yta, .int 0, .int 0, .int 0, .int 0, .int 0, .ref ywa, .ref ybi, .ref ysi, .ref ynu, .ref ymo])), (yt, .inl (cI, 7, .inl (fun _ => 0)))] H) (hD : va_D A [(h0, .inr (8, [.ref qh, .ref qk, .ref qd, .int 0, .ref qa, .ref qm, .ref qs, .ref qp, .ref ql, .ref qt, .ref qz, .ref qf])), (qf, .inl (cI, 7, .inl (fun _ => 0))), (g0, .inr (9, [.ref ys, .ref yk, .ref yo, .ref yt, .int 0, .ref yfa, .ref yfe, .int 0, .int 0, .int 0, .ref yro, .ref yhe, .ref ygr, .int 0, .int 0, .int 0, .ref yta, .int 0, .int 0, .int 0, .int 0, .int 0, .ref ywa, .ref ybi, .ref ysi, .ref ynu, .ref ymo])), (yt, .inl (cI, 7, .inl (fun _ => 0)))]) (hS : va_S A s.heap H locs) (hl : lv_has ls 4 [(3, .int 0), (2, .ref g0), (1, .ref h0), (0, .ref b)]) : W p l e room_1 s m #[Value.ref b] below meth c H locs 82 4273 (lw_Z below #[Value.ref b] s) (F0 m 1460 ls []) := by
  have hx := hF.1
  have hb := hF.2.1
  have hml := hF.2.2.1
  have hown := hF.2.2.2.1
  have hu : ∀ w ∈ wsU, w.before _ s = true := fun w h => hF.2.2.2.2 w (List.mem_cons_of_mem _ h)
  refine lv_aload_n hx hb dL_law_1460 rfl (lv_at hl 2 rfl) ?_
  refine lv_aload_n hx hb dL_law_1461 rfl (lv_at hl 3 rfl) ?_
  refine lv_iload_n hx hb dL_law_1462 rfl (lv_at hl 0 rfl) ?_
  refine lv_iconst (v := 1) hx hb dL_law_1463 (by decide) ?_
  refine lv_iadd hx hb dL_law_1464 ?_
  refine xl_i (y := 1) (by decide) ?_
  refine va_sld hx hb hX hbl hbA hS (xin 1 6 (by decide) (by decide)) dL_law_1465 ?_
  refine xl_i (y := xs 1) rfl ?_
  refine xc_Vi (wr := [(g0, .inr (9, [.ref ys, .ref yk, .ref yo, .ref yt, .int 0, .ref yfa, .ref yfe, .int 0, .int 0, .int 0, .ref yro, .ref yhe, .ref ygr, .int 0, .int 0, .int 0, .ref yta, .int 0, .int 0, .int 0, .int 0, .int 0, .ref ywa, .ref ybi, .ref ysi, .ref ynu, .ref ymo])), (yt, .inl (cI, 7, .inl (fun _ => 0)))]) hF (c_X8_status l D cI cJ cZ cS sa H.size h0 qh qk qd qa qm qs qp ql qt qz qf (xs 1) ) kv_L_195 ⟨rfl, rfl, Nat.le_of_ble_eq_true rfl, Nat.le_of_ble_eq_true rfl⟩ ⟨Nat.le_of_ble_eq_true rfl, Nat.le_of_ble_eq_true rfl⟩ hK hN hP hD hS hA [0, 1] [2, 3] rfl rfl rfl rfl (by decide) 0 rfl rfl rfl rfl hl.1 rfl (Nat.le_of_ble_eq_true rfl) dL_law_1466 (fun r_1 u_r_1 H locs hw_r_1 hP hD hS => ?_)
  have hP : va_P D vwCl [(g0, .inr (9, [.ref ys, .ref yk, .ref yo, .ref yt, .int 0, .ref yfa, .ref yfe, .int 0, .int 0, .int 0, .ref yro, .ref yhe, .ref ygr, .int 0, .int 0, .int 0, .ref yta, .int 0, .int 0, .int 0, .int 0, .int 0, .ref ywa, .ref ybi, .ref ysi, .ref ynu, .ref ymo])), (yt, .inl (cI, 7, .inl (fun _ => 0)))] H := hP
  have hD : va_D A [(g0, .inr (9, [.ref ys, .ref yk, .ref yo, .ref yt, .int 0, .ref yfa, .ref yfe, .int 0, .int 0, .int 0, .ref yro, .ref yhe, .ref ygr, .int 0, .int 0, .int 0, .ref yta, .int 0, .int 0, .int 0, .int 0, .int 0, .ref ywa, .ref ybi, .ref ysi, .ref ynu, .ref ymo])), (yt, .inl (cI, 7, .inl (fun _ => 0)))] := hD
  subst hw_r_1
  refine lv_aload_n hx hb dL_law_1469 rfl (lv_at hl 1 rfl) ?_
  refine lv_aload_n hx hb dL_law_1470 rfl (lv_at hl 3 rfl) ?_
  refine lv_iload_n hx hb dL_law_1471 rfl (lv_at hl 0 rfl) ?_
  refine lv_iconst (v := 1) hx hb dL_law_1472 (by decide) ?_
  refine lv_iadd hx hb dL_law_1473 ?_
  refine xl_i (y := 1) (by decide) ?_
  refine va_sld hx hb hX hbl hbA hS (xin 1 6 (by decide) (by decide)) dL_law_1474 ?_
  refine xl_i (y := xs 1) rfl ?_
  refine xc_Vi (wr := []) hF (c_X9_status l D cI cJ cZ cS sa H.size g0 ys yk yo yt yfa yfe yro yhe ygr yta ywa ybi ysi ynu ymo (xs 1) ) kv_L_198 ⟨rfl, rfl, Nat.le_of_ble_eq_true rfl, Nat.le_of_ble_eq_true rfl⟩ ⟨Nat.le_of_ble_eq_true rfl, Nat.le_of_ble_eq_true rfl⟩ hK hN hP hD hS hA [0, 1] [] rfl rfl rfl rfl (by decide) 0 rfl rfl rfl rfl hl.1 rfl (Nat.le_of_ble_eq_true rfl) dL_law_1475 (fun r_2 u_r_2 H locs hw_r_2 hP hD hS => ?_)
  have hP : va_P D vwCl [] H := hP
  have hD : va_D A [] := hD
  subst hw_r_2
  refine lv_icmp_eq (tgt := 1483) hx hb dL_law_1478 (by decide) (fun c_3 => ?_) (fun c_3 => absurd rfl c_3)
  exact law_end l hF hr hlk hX hbl hbA hAs hS hl
