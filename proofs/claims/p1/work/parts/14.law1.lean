set_option maxHeartbeats 4000000 in
set_option maxRecDepth 100000 in
theorem law_0 {p : Program} {e : Env} {s : State} {m : MethodId} {below : List Frame} {meth : Method} {c : Code} (l : Launch) (D : va_G) (cI cJ cZ cS : ClassId) (sa : Nat → Nat) {b : Nat} {xs : Nat → Int32} (hF : CallFix p m c cL_law 4 s #[Value.ref b] (Cond.initialized RX8 :: wsU) RL) (hr : meth.sig.returnType = ret) (hlk : meth.locks = false) (hK : va_K D vwCl (xT cI cJ cZ cS) s) (hN : XN sa s) (hX : va_X b 6 xs s s.heap) (hbl : b < s.heap.size) {A : Nat → Prop} (hA : ∀ q : Nat, s.heap.size ≤ q → A q) (hbA : ¬ A b) (hAs : ∀ q, A q → s.heap.size ≤ q) (h0 qh qk qd qa qm qs qp ql qt qz qf ae al au ao ar ak aw att ass g0 ys yk yo yt yfa yfe yro yhe ygr yta ywa ybi ysi ynu ymo : Nat) {H : Heap} {locs : List Loc} {ls : Array Slot} (hP : va_P D vwCl [(h0, .inr (8, [.ref qh, .ref qk, .ref qd, .int 0, .ref qa, .ref qm, .ref qs, .ref qp, .ref ql, .ref qt, .ref qz, .ref qf])), (qh, .inr (1, [.int 0, .ref ae, .ref al, .ref au, .ref ao, .ref ar, .ref ak, .ref aw, .ref att, .ref ass])), (ae, .inl (cI, 10, .inl (fun _ => 0))), (g0, .inr (9, [.ref ys, .ref yk, .ref yo, .ref yt, .int 0, .ref yfa, .ref yfe, .int 0, .int 0, .int 0, .ref yro, .ref yhe, .ref ygr, .int 0, .int 0, .int 0, .ref yta, .int 0, .int 0, .int 0, .int 0, .int 0, .ref ywa, .ref ybi, .ref ysi, .ref ynu, .ref ymo])), (ys, .inl (cI, 449, .inl (fun _ => 0)))] H) (hD : va_D A [(h0, .inr (8, [.ref qh, .ref qk, .ref qd, .int 0, .ref qa, .ref qm, .ref qs, .ref qp, .ref ql, .ref qt, .ref qz, .ref qf])), (qh, .inr (1, [.int 0, .ref ae, .ref al, .ref au, .ref ao, .ref ar, .ref ak, .ref aw, .ref att, .ref ass])), (ae, .inl (cI, 10, .inl (fun _ => 0))), (g0, .inr (9, [.ref ys, .ref yk, .ref yo, .ref yt, .int 0, .ref yfa, .ref yfe, .int 0, .int 0, .int 0, .ref yro, .ref yhe, .ref ygr, .int 0, .int 0, .int 0, .ref yta, .int 0, .int 0, .int 0, .int 0, .int 0, .ref ywa, .ref ybi, .ref ysi, .ref ynu, .ref ymo])), (ys, .inl (cI, 449, .inl (fun _ => 0)))]) (hS : va_S A s.heap H locs) (hl : lv_has ls 4 [(3, .int 0), (2, .ref g0), (1, .ref h0), (0, .ref b)]) : W p l e room_1 s m #[Value.ref b] below meth c H locs 82 4273 (lw_Z below #[Value.ref b] s) (F0 m 224 ls []) := by
  have hx := hF.1
  have hb := hF.2.1
  have hml := hF.2.2.1
  have hown := hF.2.2.2.1
  have hu : ∀ w ∈ wsU, w.before _ s = true := fun w h => hF.2.2.2.2 w (List.mem_cons_of_mem _ h)
  refine lv_aload_n hx hb dL_law_224 rfl (lv_at hl 2 rfl) ?_
  refine xc_Vi (wr := [(g0, .inr (9, [.ref ys, .ref yk, .ref yo, .ref yt, .int 0, .ref yfa, .ref yfe, .int 0, .int 0, .int 0, .ref yro, .ref yhe, .ref ygr, .int 0, .int 0, .int 0, .ref yta, .int 0, .int 0, .int 0, .int 0, .int 0, .ref ywa, .ref ybi, .ref ysi, .ref ynu, .ref ymo])), (ys, .inl (cI, 449, .inl (fun _ => 0)))]) hF (c_X8_place l D cI cJ cZ cS sa H.size h0 qh qk qd qa qm qs qp ql qt qz qf ae al au ao ar ak aw att ass ) kv_L_13 ⟨rfl, rfl, Nat.le_of_ble_eq_true rfl, Nat.le_of_ble_eq_true rfl⟩ ⟨Nat.le_of_ble_eq_true rfl, Nat.le_of_ble_eq_true rfl⟩ hK hN hP hD hS hA [0, 1, 2] [3, 4] rfl rfl rfl rfl (by decide) 0 rfl rfl rfl rfl hl.1 rfl (Nat.le_of_ble_eq_true rfl) dL_law_225 (fun r_1 u_r_1 H locs hw_r_1 hP hD hS => ?_)
  have hP : va_P D vwCl [(g0, .inr (9, [.ref ys, .ref yk, .ref yo, .ref yt, .int 0, .ref yfa, .ref yfe, .int 0, .int 0, .int 0, .ref yro, .ref yhe, .ref ygr, .int 0, .int 0, .int 0, .ref yta, .int 0, .int 0, .int 0, .int 0, .int 0, .ref ywa, .ref ybi, .ref ysi, .ref ynu, .ref ymo])), (ys, .inl (cI, 449, .inl (fun _ => 0)))] H := hP
  have hD : va_D A [(g0, .inr (9, [.ref ys, .ref yk, .ref yo, .ref yt, .int 0, .ref yfa, .ref yfe, .int 0, .int 0, .int 0, .ref yro, .ref yhe, .ref ygr, .int 0, .int 0, .int 0, .ref yta, .int 0, .int 0, .int 0, .int 0, .int 0, .ref ywa, .ref ybi, .ref ysi, .ref ynu, .ref ymo])), (ys, .inl (cI, 449, .inl (fun _ => 0)))] := hD
  subst hw_r_1
  refine lv_aload_n hx hb dL_law_228 rfl (lv_at hl 1 rfl) ?_
  refine xc_Vi (wr := []) hF (c_X9_place l D cI cJ cZ cS sa H.size g0 ys yk yo yt yfa yfe yro yhe ygr yta ywa ybi ysi ynu ymo ) kv_L_17 ⟨rfl, rfl, Nat.le_of_ble_eq_true rfl, Nat.le_of_ble_eq_true rfl⟩ ⟨Nat.le_of_ble_eq_true rfl, Nat.le_of_ble_eq_true rfl⟩ hK hN hP hD hS hA [0, 1] [] rfl rfl rfl rfl (by decide) 0 rfl rfl rfl rfl hl.1 rfl (Nat.le_of_ble_eq_true rfl) dL_law_229 (fun r_2 u_r_2 H locs hw_r_2 hP hD hS => ?_)
  have hP : va_P D vwCl [] H := hP
  have hD : va_D A [] := hD
  subst hw_r_2
  refine lv_icmp_eq (tgt := 1483) hx hb dL_law_232 (by decide) (fun c_3 => ?_) (fun c_3 => absurd (by decide) c_3)
  exact law_end l hF hr hlk hX hbl hbA hAs hS hl
set_option maxHeartbeats 4000000 in
set_option maxRecDepth 100000 in
theorem law_1 {p : Program} {e : Env} {s : State} {m : MethodId} {below : List Frame} {meth : Method} {c : Code} (l : Launch) (D : va_G) (cI cJ cZ cS : ClassId) (sa : Nat → Nat) {b : Nat} {xs : Nat → Int32} (hF : CallFix p m c cL_law 4 s #[Value.ref b] (Cond.initialized RX8 :: wsU) RL) (hr : meth.sig.returnType = ret) (hlk : meth.locks = false) (hK : va_K D vwCl (xT cI cJ cZ cS) s) (hN : XN sa s) (hX : va_X b 6 xs s s.heap) (hbl : b < s.heap.size) {A : Nat → Prop} (hA : ∀ q : Nat, s.heap.size ≤ q → A q) (hbA : ¬ A b) (hAs : ∀ q, A q → s.heap.size ≤ q) (h0 qh qk qd qa qm qs qp ql qt qz qf ae al au ao ar ak aw att ass g0 ys yk yo yt yfa yfe yro yhe ygr yta ywa ybi ysi ynu ymo : Nat) {H : Heap} {locs : List Loc} {ls : Array Slot} (hP : va_P D vwCl [(h0, .inr (8, [.ref qh, .ref qk, .ref qd, .int 0, .ref qa, .ref qm, .ref qs, .ref qp, .ref ql, .ref qt, .ref qz, .ref qf])), (qh, .inr (1, [.int 0, .ref ae, .ref al, .ref au, .ref ao, .ref ar, .ref ak, .ref aw, .ref att, .ref ass])), (qf, .inl (cI, 7, .inl (fun _ => 0))), (g0, .inr (9, [.ref ys, .ref yk, .ref yo, .ref yt, .int 0, .ref yfa, .ref yfe, .int 0, .int 0, .int 0, .ref yro, .ref yhe, .ref ygr, .int 0, .int 0, .int 0, .ref yta, .int 0, .int 0, .int 0, .int 0, .int 0, .ref ywa, .ref ybi, .ref ysi, .ref ynu, .ref ymo])), (ys, .inl (cI, 449, .inl (fun _ => 0))), (yt, .inl (cI, 7, .inl (fun _ => 0)))] H) (hD : va_D A [(h0, .inr (8, [.ref qh, .ref qk, .ref qd, .int 0, .ref qa, .ref qm, .ref qs, .ref qp, .ref ql, .ref qt, .ref qz, .ref qf])), (qh, .inr (1, [.int 0, .ref ae, .ref al, .ref au, .ref ao, .ref ar, .ref ak, .ref aw, .ref att, .ref ass])), (qf, .inl (cI, 7, .inl (fun _ => 0))), (g0, .inr (9, [.ref ys, .ref yk, .ref yo, .ref yt, .int 0, .ref yfa, .ref yfe, .int 0, .int 0, .int 0, .ref yro, .ref yhe, .ref ygr, .int 0, .int 0, .int 0, .ref yta, .int 0, .int 0, .int 0, .int 0, .int 0, .ref ywa, .ref ybi, .ref ysi, .ref ynu, .ref ymo])), (ys, .inl (cI, 449, .inl (fun _ => 0))), (yt, .inl (cI, 7, .inl (fun _ => 0)))]) (hS : va_S A s.heap H locs) (hl : lv_has ls 4 [(3, .int 0), (2, .ref g0), (1, .ref h0), (0, .ref b)]) : W p l e room_1 s m #[Value.ref b] below meth c H locs 82 4273 (lw_Z below #[Value.ref b] s) (F0 m 237 ls []) := by
  have hx := hF.1
  have hb := hF.2.1
  have hml := hF.2.2.1
  have hown := hF.2.2.2.1
  have hu : ∀ w ∈ wsU, w.before _ s = true := fun w h => hF.2.2.2.2 w (List.mem_cons_of_mem _ h)
  refine lv_aload_n hx hb dL_law_237 rfl (lv_at hl 2 rfl) ?_
  refine lv_aload_n hx hb dL_law_238 rfl (lv_at hl 3 rfl) ?_
  refine lv_iload_n hx hb dL_law_239 rfl (lv_at hl 0 rfl) ?_
  refine lv_iconst (v := 1) hx hb dL_law_240 (by decide) ?_
  refine lv_iadd hx hb dL_law_241 ?_
  refine xl_i (y := 1) (by decide) ?_
  refine va_sld hx hb hX hbl hbA hS (xin 1 6 (by decide) (by decide)) dL_law_242 ?_
  refine xl_i (y := xs 1) rfl ?_
  refine lv_aload_n hx hb dL_law_243 rfl (lv_at hl 3 rfl) ?_
  refine lv_iload_n hx hb dL_law_244 rfl (lv_at hl 0 rfl) ?_
  refine lv_iconst (v := 2) hx hb dL_law_245 (by decide) ?_
  refine lv_iadd hx hb dL_law_246 ?_
  refine xl_i (y := 2) (by decide) ?_
  refine va_sld hx hb hX hbl hbA hS (xin 2 6 (by decide) (by decide)) dL_law_247 ?_
  refine xl_i (y := xs 2) rfl ?_
  refine xc_Vi (wr := [(g0, .inr (9, [.ref ys, .ref yk, .ref yo, .ref yt, .int 0, .ref yfa, .ref yfe, .int 0, .int 0, .int 0, .ref yro, .ref yhe, .ref ygr, .int 0, .int 0, .int 0, .ref yta, .int 0, .int 0, .int 0, .int 0, .int 0, .ref ywa, .ref ybi, .ref ysi, .ref ynu, .ref ymo])), (ys, .inl (cI, 449, .inl (fun _ => 0))), (yt, .inl (cI, 7, .inl (fun _ => 0)))]) hF (c_X8_errands l D cI cJ cZ cS sa H.size h0 qh qk qd qa qm qs qp ql qt qz qf ae al au ao ar ak aw att ass (xs 1) (xs 2) ) kv_L_18 ⟨rfl, rfl, Nat.le_of_ble_eq_true rfl, Nat.le_of_ble_eq_true rfl⟩ ⟨Nat.le_of_ble_eq_true rfl, Nat.le_of_ble_eq_true rfl⟩ hK hN hP hD hS hA [0, 1, 2] [3, 4, 5] rfl rfl rfl rfl (by decide) 0 rfl rfl rfl rfl hl.1 rfl (Nat.le_of_ble_eq_true rfl) dL_law_248 (fun r_1 u_r_1 H locs hw_r_1 hP hD hS => ?_)
  have hP : va_P D vwCl [(g0, .inr (9, [.ref ys, .ref yk, .ref yo, .ref yt, .int 0, .ref yfa, .ref yfe, .int 0, .int 0, .int 0, .ref yro, .ref yhe, .ref ygr, .int 0, .int 0, .int 0, .ref yta, .int 0, .int 0, .int 0, .int 0, .int 0, .ref ywa, .ref ybi, .ref ysi, .ref ynu, .ref ymo])), (ys, .inl (cI, 449, .inl (fun _ => 0))), (yt, .inl (cI, 7, .inl (fun _ => 0)))] H := hP
  have hD : va_D A [(g0, .inr (9, [.ref ys, .ref yk, .ref yo, .ref yt, .int 0, .ref yfa, .ref yfe, .int 0, .int 0, .int 0, .ref yro, .ref yhe, .ref ygr, .int 0, .int 0, .int 0, .ref yta, .int 0, .int 0, .int 0, .int 0, .int 0, .ref ywa, .ref ybi, .ref ysi, .ref ynu, .ref ymo])), (ys, .inl (cI, 449, .inl (fun _ => 0))), (yt, .inl (cI, 7, .inl (fun _ => 0)))] := hD
  subst hw_r_1
  refine lv_aload_n hx hb dL_law_251 rfl (lv_at hl 1 rfl) ?_
  refine lv_aload_n hx hb dL_law_252 rfl (lv_at hl 3 rfl) ?_
  refine lv_iload_n hx hb dL_law_253 rfl (lv_at hl 0 rfl) ?_
  refine lv_iconst (v := 1) hx hb dL_law_254 (by decide) ?_
  refine lv_iadd hx hb dL_law_255 ?_
  refine xl_i (y := 1) (by decide) ?_
  refine va_sld hx hb hX hbl hbA hS (xin 1 6 (by decide) (by decide)) dL_law_256 ?_
  refine xl_i (y := xs 1) rfl ?_
  refine lv_aload_n hx hb dL_law_257 rfl (lv_at hl 3 rfl) ?_
  refine lv_iload_n hx hb dL_law_258 rfl (lv_at hl 0 rfl) ?_
  refine lv_iconst (v := 2) hx hb dL_law_259 (by decide) ?_
  refine lv_iadd hx hb dL_law_260 ?_
  refine xl_i (y := 2) (by decide) ?_
  refine va_sld hx hb hX hbl hbA hS (xin 2 6 (by decide) (by decide)) dL_law_261 ?_
  refine xl_i (y := xs 2) rfl ?_
  refine xc_Vi (wr := []) hF (c_X9_errands l D cI cJ cZ cS sa H.size g0 ys yk yo yt yfa yfe yro yhe ygr yta ywa ybi ysi ynu ymo (xs 1) (xs 2) ) kv_L_22 ⟨rfl, rfl, Nat.le_of_ble_eq_true rfl, Nat.le_of_ble_eq_true rfl⟩ ⟨Nat.le_of_ble_eq_true rfl, Nat.le_of_ble_eq_true rfl⟩ hK hN hP hD hS hA [0, 1, 2] [] rfl rfl rfl rfl (by decide) 0 rfl rfl rfl rfl hl.1 rfl (Nat.le_of_ble_eq_true rfl) dL_law_262 (fun r_2 u_r_2 H locs hw_r_2 hP hD hS => ?_)
  have hP : va_P D vwCl [] H := hP
  have hD : va_D A [] := hD
  subst hw_r_2
  refine lv_icmp_eq (tgt := 1483) hx hb dL_law_265 (by decide) (fun c_3 => ?_) (fun c_3 => absurd (by decide) c_3)
  exact law_end l hF hr hlk hX hbl hbA hAs hS hl
set_option maxHeartbeats 4000000 in
set_option maxRecDepth 100000 in
theorem law_2 {p : Program} {e : Env} {s : State} {m : MethodId} {below : List Frame} {meth : Method} {c : Code} (l : Launch) (D : va_G) (cI cJ cZ cS : ClassId) (sa : Nat → Nat) {b : Nat} {xs : Nat → Int32} (hF : CallFix p m c cL_law 4 s #[Value.ref b] (Cond.initialized RX8 :: wsU) RL) (hr : meth.sig.returnType = ret) (hlk : meth.locks = false) (hK : va_K D vwCl (xT cI cJ cZ cS) s) (hN : XN sa s) (hX : va_X b 6 xs s s.heap) (hbl : b < s.heap.size) {A : Nat → Prop} (hA : ∀ q : Nat, s.heap.size ≤ q → A q) (hbA : ¬ A b) (hAs : ∀ q, A q → s.heap.size ≤ q) (h0 qh qk qd qa qm qs qp ql qt qz qf ae al au ao ar ak aw att ass g0 ys yk yo yt yfa yfe yro yhe ygr yta ywa ybi ysi ynu ymo : Nat) {H : Heap} {locs : List Loc} {ls : Array Slot} (hP : va_P D vwCl [(h0, .inr (8, [.ref qh, .ref qk, .ref qd, .int 0, .ref qa, .ref qm, .ref qs, .ref qp, .ref ql, .ref qt, .ref qz, .ref qf])), (qh, .inr (1, [.int 0, .ref ae, .ref al, .ref au, .ref ao, .ref ar, .ref ak, .ref aw, .ref att, .ref ass])), (qf, .inl (cI, 7, .inl (fun _ => 0))), (g0, .inr (9, [.ref ys, .ref yk, .ref yo, .ref yt, .int 0, .ref yfa, .ref yfe, .int 0, .int 0, .int 0, .ref yro, .ref yhe, .ref ygr, .int 0, .int 0, .int 0, .ref yta, .int 0, .int 0, .int 0, .int 0, .int 0, .ref ywa, .ref ybi, .ref ysi, .ref ynu, .ref ymo])), (ys, .inl (cI, 449, .inl (fun _ => 0))), (yt, .inl (cI, 7, .inl (fun _ => 0)))] H) (hD : va_D A [(h0, .inr (8, [.ref qh, .ref qk, .ref qd, .int 0, .ref qa, .ref qm, .ref qs, .ref qp, .ref ql, .ref qt, .ref qz, .ref qf])), (qh, .inr (1, [.int 0, .ref ae, .ref al, .ref au, .ref ao, .ref ar, .ref ak, .ref aw, .ref att, .ref ass])), (qf, .inl (cI, 7, .inl (fun _ => 0))), (g0, .inr (9, [.ref ys, .ref yk, .ref yo, .ref yt, .int 0, .ref yfa, .ref yfe, .int 0, .int 0, .int 0, .ref yro, .ref yhe, .ref ygr, .int 0, .int 0, .int 0, .ref yta, .int 0, .int 0, .int 0, .int 0, .int 0, .ref ywa, .ref ybi, .ref ysi, .ref ynu, .ref ymo])), (ys, .inl (cI, 449, .inl (fun _ => 0))), (yt, .inl (cI, 7, .inl (fun _ => 0)))]) (hS : va_S A s.heap H locs) (hl : lv_has ls 4 [(3, .int 0), (2, .ref g0), (1, .ref h0), (0, .ref b)]) : W p l e room_1 s m #[Value.ref b] below meth c H locs 82 4273 (lw_Z below #[Value.ref b] s) (F0 m 270 ls []) := by
  have hx := hF.1
  have hb := hF.2.1
  have hml := hF.2.2.1
  have hown := hF.2.2.2.1
  have hu : ∀ w ∈ wsU, w.before _ s = true := fun w h => hF.2.2.2.2 w (List.mem_cons_of_mem _ h)
  refine lv_aload_n hx hb dL_law_270 rfl (lv_at hl 2 rfl) ?_
  refine lv_aload_n hx hb dL_law_271 rfl (lv_at hl 3 rfl) ?_
  refine lv_iload_n hx hb dL_law_272 rfl (lv_at hl 0 rfl) ?_
  refine lv_iconst (v := 1) hx hb dL_law_273 (by decide) ?_
  refine lv_iadd hx hb dL_law_274 ?_
  refine xl_i (y := 1) (by decide) ?_
  refine va_sld hx hb hX hbl hbA hS (xin 1 6 (by decide) (by decide)) dL_law_275 ?_
  refine xl_i (y := xs 1) rfl ?_
  refine lv_aload_n hx hb dL_law_276 rfl (lv_at hl 3 rfl) ?_
  refine lv_iload_n hx hb dL_law_277 rfl (lv_at hl 0 rfl) ?_
  refine lv_iconst (v := 2) hx hb dL_law_278 (by decide) ?_
  refine lv_iadd hx hb dL_law_279 ?_
  refine xl_i (y := 2) (by decide) ?_
  refine va_sld hx hb hX hbl hbA hS (xin 2 6 (by decide) (by decide)) dL_law_280 ?_
  refine xl_i (y := xs 2) rfl ?_
  refine lv_aload_n hx hb dL_law_281 rfl (lv_at hl 3 rfl) ?_
  refine lv_iload_n hx hb dL_law_282 rfl (lv_at hl 0 rfl) ?_
  refine lv_iconst (v := 3) hx hb dL_law_283 (by decide) ?_
  refine lv_iadd hx hb dL_law_284 ?_
  refine xl_i (y := 3) (by decide) ?_
  refine va_sld hx hb hX hbl hbA hS (xin 3 6 (by decide) (by decide)) dL_law_285 ?_
  refine xl_i (y := xs 3) rfl ?_
  refine lv_aload_n hx hb dL_law_286 rfl (lv_at hl 3 rfl) ?_
  refine lv_iload_n hx hb dL_law_287 rfl (lv_at hl 0 rfl) ?_
  refine lv_iconst (v := 4) hx hb dL_law_288 (by decide) ?_
  refine lv_iadd hx hb dL_law_289 ?_
  refine xl_i (y := 4) (by decide) ?_
  refine va_sld hx hb hX hbl hbA hS (xin 4 6 (by decide) (by decide)) dL_law_290 ?_
  refine xl_i (y := xs 4) rfl ?_
  refine xc_Vi (wr := [(g0, .inr (9, [.ref ys, .ref yk, .ref yo, .ref yt, .int 0, .ref yfa, .ref yfe, .int 0, .int 0, .int 0, .ref yro, .ref yhe, .ref ygr, .int 0, .int 0, .int 0, .ref yta, .int 0, .int 0, .int 0, .int 0, .int 0, .ref ywa, .ref ybi, .ref ysi, .ref ynu, .ref ymo])), (ys, .inl (cI, 449, .inl (fun _ => 0))), (yt, .inl (cI, 7, .inl (fun _ => 0)))]) hF (c_X8_way l D cI cJ cZ cS sa H.size h0 qh qk qd qa qm qs qp ql qt qz qf ae al au ao ar ak aw att ass (xs 1) (xs 2) (xs 3) (xs 4) ) kv_L_23 ⟨rfl, rfl, Nat.le_of_ble_eq_true rfl, Nat.le_of_ble_eq_true rfl⟩ ⟨Nat.le_of_ble_eq_true rfl, Nat.le_of_ble_eq_true rfl⟩ hK hN hP hD hS hA [0, 1, 2] [3, 4, 5] rfl rfl rfl rfl (by decide) 0 rfl rfl rfl rfl hl.1 rfl (Nat.le_of_ble_eq_true rfl) dL_law_291 (fun r_1 u_r_1 H locs hw_r_1 hP hD hS => ?_)
  have hP : va_P D vwCl [(g0, .inr (9, [.ref ys, .ref yk, .ref yo, .ref yt, .int 0, .ref yfa, .ref yfe, .int 0, .int 0, .int 0, .ref yro, .ref yhe, .ref ygr, .int 0, .int 0, .int 0, .ref yta, .int 0, .int 0, .int 0, .int 0, .int 0, .ref ywa, .ref ybi, .ref ysi, .ref ynu, .ref ymo])), (ys, .inl (cI, 449, .inl (fun _ => 0))), (yt, .inl (cI, 7, .inl (fun _ => 0)))] H := hP
  have hD : va_D A [(g0, .inr (9, [.ref ys, .ref yk, .ref yo, .ref yt, .int 0, .ref yfa, .ref yfe, .int 0, .int 0, .int 0, .ref yro, .ref yhe, .ref ygr, .int 0, .int 0, .int 0, .ref yta, .int 0, .int 0, .int 0, .int 0, .int 0, .ref ywa, .ref ybi, .ref ysi, .ref ynu, .ref ymo])), (ys, .inl (cI, 449, .inl (fun _ => 0))), (yt, .inl (cI, 7, .inl (fun _ => 0)))] := hD
  subst hw_r_1
  refine lv_aload_n hx hb dL_law_294 rfl (lv_at hl 1 rfl) ?_
  refine lv_aload_n hx hb dL_law_295 rfl (lv_at hl 3 rfl) ?_
  refine lv_iload_n hx hb dL_law_296 rfl (lv_at hl 0 rfl) ?_
  refine lv_iconst (v := 1) hx hb dL_law_297 (by decide) ?_
  refine lv_iadd hx hb dL_law_298 ?_
  refine xl_i (y := 1) (by decide) ?_
  refine va_sld hx hb hX hbl hbA hS (xin 1 6 (by decide) (by decide)) dL_law_299 ?_
  refine xl_i (y := xs 1) rfl ?_
  refine lv_aload_n hx hb dL_law_300 rfl (lv_at hl 3 rfl) ?_
  refine lv_iload_n hx hb dL_law_301 rfl (lv_at hl 0 rfl) ?_
  refine lv_iconst (v := 2) hx hb dL_law_302 (by decide) ?_
  refine lv_iadd hx hb dL_law_303 ?_
  refine xl_i (y := 2) (by decide) ?_
  refine va_sld hx hb hX hbl hbA hS (xin 2 6 (by decide) (by decide)) dL_law_304 ?_
  refine xl_i (y := xs 2) rfl ?_
  refine lv_aload_n hx hb dL_law_305 rfl (lv_at hl 3 rfl) ?_
  refine lv_iload_n hx hb dL_law_306 rfl (lv_at hl 0 rfl) ?_
  refine lv_iconst (v := 3) hx hb dL_law_307 (by decide) ?_
  refine lv_iadd hx hb dL_law_308 ?_
  refine xl_i (y := 3) (by decide) ?_
  refine va_sld hx hb hX hbl hbA hS (xin 3 6 (by decide) (by decide)) dL_law_309 ?_
  refine xl_i (y := xs 3) rfl ?_
  refine lv_aload_n hx hb dL_law_310 rfl (lv_at hl 3 rfl) ?_
  refine lv_iload_n hx hb dL_law_311 rfl (lv_at hl 0 rfl) ?_
  refine lv_iconst (v := 4) hx hb dL_law_312 (by decide) ?_
  refine lv_iadd hx hb dL_law_313 ?_
  refine xl_i (y := 4) (by decide) ?_
  refine va_sld hx hb hX hbl hbA hS (xin 4 6 (by decide) (by decide)) dL_law_314 ?_
  refine xl_i (y := xs 4) rfl ?_
  refine xc_Vi (wr := []) hF (c_X9_way l D cI cJ cZ cS sa H.size g0 ys yk yo yt yfa yfe yro yhe ygr yta ywa ybi ysi ynu ymo (xs 1) (xs 2) (xs 3) (xs 4) ) kv_L_27 ⟨rfl, rfl, Nat.le_of_ble_eq_true rfl, Nat.le_of_ble_eq_true rfl⟩ ⟨Nat.le_of_ble_eq_true rfl, Nat.le_of_ble_eq_true rfl⟩ hK hN hP hD hS hA [0, 1, 2] [] rfl rfl rfl rfl (by decide) 0 rfl rfl rfl rfl hl.1 rfl (Nat.le_of_ble_eq_true rfl) dL_law_315 (fun r_2 u_r_2 H locs hw_r_2 hP hD hS => ?_)
  have hP : va_P D vwCl [] H := hP
  have hD : va_D A [] := hD
  subst hw_r_2
  refine lv_icmp_eq (tgt := 1483) hx hb dL_law_318 (by decide) (fun c_3 => ?_) (fun c_3 => absurd (by decide) c_3)
  exact law_end l hF hr hlk hX hbl hbA hAs hS hl
set_option maxHeartbeats 4000000 in
set_option maxRecDepth 100000 in
theorem law_3 {p : Program} {e : Env} {s : State} {m : MethodId} {below : List Frame} {meth : Method} {c : Code} (l : Launch) (D : va_G) (cI cJ cZ cS : ClassId) (sa : Nat → Nat) {b : Nat} {xs : Nat → Int32} (hF : CallFix p m c cL_law 4 s #[Value.ref b] (Cond.initialized RX8 :: wsU) RL) (hr : meth.sig.returnType = ret) (hlk : meth.locks = false) (hK : va_K D vwCl (xT cI cJ cZ cS) s) (hN : XN sa s) (hX : va_X b 6 xs s s.heap) (hbl : b < s.heap.size) {A : Nat → Prop} (hA : ∀ q : Nat, s.heap.size ≤ q → A q) (hbA : ¬ A b) (hAs : ∀ q, A q → s.heap.size ≤ q) (h0 qh qk qd qa qm qs qp ql qt qz qf ae al au ao ar ak aw att ass g0 ys yk yo yt yfa yfe yro yhe ygr yta ywa ybi ysi ynu ymo : Nat) {H : Heap} {locs : List Loc} {ls : Array Slot} (hP : va_P D vwCl [(h0, .inr (8, [.ref qh, .ref qk, .ref qd, .int 0, .ref qa, .ref qm, .ref qs, .ref qp, .ref ql, .ref qt, .ref qz, .ref qf])), (qh, .inr (1, [.int 0, .ref ae, .ref al, .ref au, .ref ao, .ref ar, .ref ak, .ref aw, .ref att, .ref ass])), (qf, .inl (cI, 7, .inl (fun _ => 0))), (g0, .inr (9, [.ref ys, .ref yk, .ref yo, .ref yt, .int 0, .ref yfa, .ref yfe, .int 0, .int 0, .int 0, .ref yro, .ref yhe, .ref ygr, .int 0, .int 0, .int 0, .ref yta, .int 0, .int 0, .int 0, .int 0, .int 0, .ref ywa, .ref ybi, .ref ysi, .ref ynu, .ref ymo])), (ys, .inl (cI, 449, .inl (fun _ => 0))), (yt, .inl (cI, 7, .inl (fun _ => 0)))] H) (hD : va_D A [(h0, .inr (8, [.ref qh, .ref qk, .ref qd, .int 0, .ref qa, .ref qm, .ref qs, .ref qp, .ref ql, .ref qt, .ref qz, .ref qf])), (qh, .inr (1, [.int 0, .ref ae, .ref al, .ref au, .ref ao, .ref ar, .ref ak, .ref aw, .ref att, .ref ass])), (qf, .inl (cI, 7, .inl (fun _ => 0))), (g0, .inr (9, [.ref ys, .ref yk, .ref yo, .ref yt, .int 0, .ref yfa, .ref yfe, .int 0, .int 0, .int 0, .ref yro, .ref yhe, .ref ygr, .int 0, .int 0, .int 0, .ref yta, .int 0, .int 0, .int 0, .int 0, .int 0, .ref ywa, .ref ybi, .ref ysi, .ref ynu, .ref ymo])), (ys, .inl (cI, 449, .inl (fun _ => 0))), (yt, .inl (cI, 7, .inl (fun _ => 0)))]) (hS : va_S A s.heap H locs) (hl : lv_has ls 4 [(3, .int 0), (2, .ref g0), (1, .ref h0), (0, .ref b)]) : W p l e room_1 s m #[Value.ref b] below meth c H locs 82 4273 (lw_Z below #[Value.ref b] s) (F0 m 323 ls []) := by
  have hx := hF.1
  have hb := hF.2.1
  have hml := hF.2.2.1
  have hown := hF.2.2.2.1
  have hu : ∀ w ∈ wsU, w.before _ s = true := fun w h => hF.2.2.2.2 w (List.mem_cons_of_mem _ h)
  refine lv_aload_n hx hb dL_law_323 rfl (lv_at hl 2 rfl) ?_
  refine lv_aload_n hx hb dL_law_324 rfl (lv_at hl 3 rfl) ?_
  refine lv_iload_n hx hb dL_law_325 rfl (lv_at hl 0 rfl) ?_
  refine lv_iconst (v := 1) hx hb dL_law_326 (by decide) ?_
  refine lv_iadd hx hb dL_law_327 ?_
  refine xl_i (y := 1) (by decide) ?_
  refine va_sld hx hb hX hbl hbA hS (xin 1 6 (by decide) (by decide)) dL_law_328 ?_
  refine xl_i (y := xs 1) rfl ?_
  refine lv_aload_n hx hb dL_law_329 rfl (lv_at hl 3 rfl) ?_
  refine lv_iload_n hx hb dL_law_330 rfl (lv_at hl 0 rfl) ?_
  refine lv_iconst (v := 2) hx hb dL_law_331 (by decide) ?_
  refine lv_iadd hx hb dL_law_332 ?_
  refine xl_i (y := 2) (by decide) ?_
  refine va_sld hx hb hX hbl hbA hS (xin 2 6 (by decide) (by decide)) dL_law_333 ?_
  refine xl_i (y := xs 2) rfl ?_
  refine lv_aload_n hx hb dL_law_334 rfl (lv_at hl 3 rfl) ?_
  refine lv_iload_n hx hb dL_law_335 rfl (lv_at hl 0 rfl) ?_
  refine lv_iconst (v := 3) hx hb dL_law_336 (by decide) ?_
  refine lv_iadd hx hb dL_law_337 ?_
  refine xl_i (y := 3) (by decide) ?_
  refine va_sld hx hb hX hbl hbA hS (xin 3 6 (by decide) (by decide)) dL_law_338 ?_
  refine xl_i (y := xs 3) rfl ?_
  refine xc_Vi (wr := [(g0, .inr (9, [.ref ys, .ref yk, .ref yo, .ref yt, .int 0, .ref yfa, .ref yfe, .int 0, .int 0, .int 0, .ref yro, .ref yhe, .ref ygr, .int 0, .int 0, .int 0, .ref yta, .int 0, .int 0, .int 0, .int 0, .int 0, .ref ywa, .ref ybi, .ref ysi, .ref ynu, .ref ymo])), (ys, .inl (cI, 449, .inl (fun _ => 0))), (yt, .inl (cI, 7, .inl (fun _ => 0)))]) hF (c_X8_wayOf l D cI cJ cZ cS sa H.size h0 qh qk qd qa qm qs qp ql qt qz qf ae al au ao ar ak aw att ass (xs 1) (xs 2) (xs 3) ) kv_L_28 ⟨rfl, rfl, Nat.le_of_ble_eq_true rfl, Nat.le_of_ble_eq_true rfl⟩ ⟨Nat.le_of_ble_eq_true rfl, Nat.le_of_ble_eq_true rfl⟩ hK hN hP hD hS hA [0, 1, 2] [3, 4, 5] rfl rfl rfl rfl (by decide) 0 rfl rfl rfl rfl hl.1 rfl (Nat.le_of_ble_eq_true rfl) dL_law_339 (fun r_1 u_r_1 H locs hw_r_1 hP hD hS => ?_)
  have hP : va_P D vwCl [(g0, .inr (9, [.ref ys, .ref yk, .ref yo, .ref yt, .int 0, .ref yfa, .ref yfe, .int 0, .int 0, .int 0, .ref yro, .ref yhe, .ref ygr, .int 0, .int 0, .int 0, .ref yta, .int 0, .int 0, .int 0, .int 0, .int 0, .ref ywa, .ref ybi, .ref ysi, .ref ynu, .ref ymo])), (ys, .inl (cI, 449, .inl (fun _ => 0))), (yt, .inl (cI, 7, .inl (fun _ => 0)))] H := hP
  have hD : va_D A [(g0, .inr (9, [.ref ys, .ref yk, .ref yo, .ref yt, .int 0, .ref yfa, .ref yfe, .int 0, .int 0, .int 0, .ref yro, .ref yhe, .ref ygr, .int 0, .int 0, .int 0, .ref yta, .int 0, .int 0, .int 0, .int 0, .int 0, .ref ywa, .ref ybi, .ref ysi, .ref ynu, .ref ymo])), (ys, .inl (cI, 449, .inl (fun _ => 0))), (yt, .inl (cI, 7, .inl (fun _ => 0)))] := hD
  subst hw_r_1
  refine lv_aload_n hx hb dL_law_342 rfl (lv_at hl 1 rfl) ?_
  refine lv_aload_n hx hb dL_law_343 rfl (lv_at hl 3 rfl) ?_
  refine lv_iload_n hx hb dL_law_344 rfl (lv_at hl 0 rfl) ?_
  refine lv_iconst (v := 1) hx hb dL_law_345 (by decide) ?_
  refine lv_iadd hx hb dL_law_346 ?_
  refine xl_i (y := 1) (by decide) ?_
  refine va_sld hx hb hX hbl hbA hS (xin 1 6 (by decide) (by decide)) dL_law_347 ?_
  refine xl_i (y := xs 1) rfl ?_
  refine lv_aload_n hx hb dL_law_348 rfl (lv_at hl 3 rfl) ?_
  refine lv_iload_n hx hb dL_law_349 rfl (lv_at hl 0 rfl) ?_
  refine lv_iconst (v := 2) hx hb dL_law_350 (by decide) ?_
  refine lv_iadd hx hb dL_law_351 ?_
  refine xl_i (y := 2) (by decide) ?_
  refine va_sld hx hb hX hbl hbA hS (xin 2 6 (by decide) (by decide)) dL_law_352 ?_
  refine xl_i (y := xs 2) rfl ?_
  refine lv_aload_n hx hb dL_law_353 rfl (lv_at hl 3 rfl) ?_
  refine lv_iload_n hx hb dL_law_354 rfl (lv_at hl 0 rfl) ?_
  refine lv_iconst (v := 3) hx hb dL_law_355 (by decide) ?_
  refine lv_iadd hx hb dL_law_356 ?_
  refine xl_i (y := 3) (by decide) ?_
  refine va_sld hx hb hX hbl hbA hS (xin 3 6 (by decide) (by decide)) dL_law_357 ?_
  refine xl_i (y := xs 3) rfl ?_
  refine xc_Vi (wr := []) hF (c_X9_wayOf l D cI cJ cZ cS sa H.size g0 ys yk yo yt yfa yfe yro yhe ygr yta ywa ybi ysi ynu ymo (xs 1) (xs 2) (xs 3) ) kv_L_32 ⟨rfl, rfl, Nat.le_of_ble_eq_true rfl, Nat.le_of_ble_eq_true rfl⟩ ⟨Nat.le_of_ble_eq_true rfl, Nat.le_of_ble_eq_true rfl⟩ hK hN hP hD hS hA [0, 1, 2] [] rfl rfl rfl rfl (by decide) 0 rfl rfl rfl rfl hl.1 rfl (Nat.le_of_ble_eq_true rfl) dL_law_358 (fun r_2 u_r_2 H locs hw_r_2 hP hD hS => ?_)
  have hP : va_P D vwCl [] H := hP
  have hD : va_D A [] := hD
  subst hw_r_2
  refine lv_icmp_eq (tgt := 1483) hx hb dL_law_361 (by decide) (fun c_3 => ?_) (fun c_3 => absurd (by decide) c_3)
  exact law_end l hF hr hlk hX hbl hbA hAs hS hl
set_option maxHeartbeats 4000000 in
set_option maxRecDepth 100000 in
theorem law_4 {p : Program} {e : Env} {s : State} {m : MethodId} {below : List Frame} {meth : Method} {c : Code} (l : Launch) (D : va_G) (cI cJ cZ cS : ClassId) (sa : Nat → Nat) {b : Nat} {xs : Nat → Int32} (hF : CallFix p m c cL_law 4 s #[Value.ref b] (Cond.initialized RX8 :: wsU) RL) (hr : meth.sig.returnType = ret) (hlk : meth.locks = false) (hK : va_K D vwCl (xT cI cJ cZ cS) s) (hN : XN sa s) (hX : va_X b 6 xs s s.heap) (hbl : b < s.heap.size) {A : Nat → Prop} (hA : ∀ q : Nat, s.heap.size ≤ q → A q) (hbA : ¬ A b) (hAs : ∀ q, A q → s.heap.size ≤ q) (h0 qh qk qd qa qm qs qp ql qt qz qf ae al au ao ar ak aw att ass g0 ys yk yo yt yfa yfe yro yhe ygr yta ywa ybi ysi ynu ymo : Nat) {H : Heap} {locs : List Loc} {ls : Array Slot} (hP : va_P D vwCl [(h0, .inr (8, [.ref qh, .ref qk, .ref qd, .int 0, .ref qa, .ref qm, .ref qs, .ref qp, .ref ql, .ref qt, .ref qz, .ref qf])), (qh, .inr (1, [.int 0, .ref ae, .ref al, .ref au, .ref ao, .ref ar, .ref ak, .ref aw, .ref att, .ref ass])), (qf, .inl (cI, 7, .inl (fun _ => 0))), (g0, .inr (9, [.ref ys, .ref yk, .ref yo, .ref yt, .int 0, .ref yfa, .ref yfe, .int 0, .int 0, .int 0, .ref yro, .ref yhe, .ref ygr, .int 0, .int 0, .int 0, .ref yta, .int 0, .int 0, .int 0, .int 0, .int 0, .ref ywa, .ref ybi, .ref ysi, .ref ynu, .ref ymo])), (ys, .inl (cI, 449, .inl (fun _ => 0))), (yt, .inl (cI, 7, .inl (fun _ => 0)))] H) (hD : va_D A [(h0, .inr (8, [.ref qh, .ref qk, .ref qd, .int 0, .ref qa, .ref qm, .ref qs, .ref qp, .ref ql, .ref qt, .ref qz, .ref qf])), (qh, .inr (1, [.int 0, .ref ae, .ref al, .ref au, .ref ao, .ref ar, .ref ak, .ref aw, .ref att, .ref ass])), (qf, .inl (cI, 7, .inl (fun _ => 0))), (g0, .inr (9, [.ref ys, .ref yk, .ref yo, .ref yt, .int 0, .ref yfa, .ref yfe, .int 0, .int 0, .int 0, .ref yro, .ref yhe, .ref ygr, .int 0, .int 0, .int 0, .ref yta, .int 0, .int 0, .int 0, .int 0, .int 0, .ref ywa, .ref ybi, .ref ysi, .ref ynu, .ref ymo])), (ys, .inl (cI, 449, .inl (fun _ => 0))), (yt, .inl (cI, 7, .inl (fun _ => 0)))]) (hS : va_S A s.heap H locs) (hl : lv_has ls 4 [(3, .int 0), (2, .ref g0), (1, .ref h0), (0, .ref b)]) : W p l e room_1 s m #[Value.ref b] below meth c H locs 82 4273 (lw_Z below #[Value.ref b] s) (F0 m 366 ls []) := by
  have hx := hF.1
  have hb := hF.2.1
  have hml := hF.2.2.1
  have hown := hF.2.2.2.1
  have hu : ∀ w ∈ wsU, w.before _ s = true := fun w h => hF.2.2.2.2 w (List.mem_cons_of_mem _ h)
  refine lv_aload_n hx hb dL_law_366 rfl (lv_at hl 2 rfl) ?_
  refine lv_aload_n hx hb dL_law_367 rfl (lv_at hl 3 rfl) ?_
  refine lv_iload_n hx hb dL_law_368 rfl (lv_at hl 0 rfl) ?_
  refine lv_iconst (v := 1) hx hb dL_law_369 (by decide) ?_
  refine lv_iadd hx hb dL_law_370 ?_
  refine xl_i (y := 1) (by decide) ?_
  refine va_sld hx hb hX hbl hbA hS (xin 1 6 (by decide) (by decide)) dL_law_371 ?_
  refine xl_i (y := xs 1) rfl ?_
  refine lv_aload_n hx hb dL_law_372 rfl (lv_at hl 3 rfl) ?_
  refine lv_iload_n hx hb dL_law_373 rfl (lv_at hl 0 rfl) ?_
  refine lv_iconst (v := 2) hx hb dL_law_374 (by decide) ?_
  refine lv_iadd hx hb dL_law_375 ?_
  refine xl_i (y := 2) (by decide) ?_
  refine va_sld hx hb hX hbl hbA hS (xin 2 6 (by decide) (by decide)) dL_law_376 ?_
  refine xl_i (y := xs 2) rfl ?_
  refine lv_aload_n hx hb dL_law_377 rfl (lv_at hl 3 rfl) ?_
  refine lv_iload_n hx hb dL_law_378 rfl (lv_at hl 0 rfl) ?_
  refine lv_iconst (v := 3) hx hb dL_law_379 (by decide) ?_
  refine lv_iadd hx hb dL_law_380 ?_
  refine xl_i (y := 3) (by decide) ?_
  refine va_sld hx hb hX hbl hbA hS (xin 3 6 (by decide) (by decide)) dL_law_381 ?_
  refine xl_i (y := xs 3) rfl ?_
  refine lv_if_eq (tgt := 389) hx hb dL_law_382 (by decide) (fun c_1 => ?_) (fun c_1 => ?_)
  · skip
    refine lv_iconst (v := 0) hx hb dL_law_389 (by decide) ?_
    refine xc_Vi (wr := [(g0, .inr (9, [.ref ys, .ref yk, .ref yo, .ref yt, .int 0, .ref yfa, .ref yfe, .int 0, .int 0, .int 0, .ref yro, .ref yhe, .ref ygr, .int 0, .int 0, .int 0, .ref yta, .int 0, .int 0, .int 0, .int 0, .int 0, .ref ywa, .ref ybi, .ref ysi, .ref ynu, .ref ymo])), (ys, .inl (cI, 449, .inl (fun _ => 0))), (yt, .inl (cI, 7, .inl (fun _ => 0)))]) hF (c_X8_shut l D cI cJ cZ cS sa H.size h0 qh qk qd qa qm qs qp ql qt qz qf ae al au ao ar ak aw att ass (xs 1) (xs 2) 0 ) kv_L_33 ⟨rfl, rfl, Nat.le_of_ble_eq_true rfl, Nat.le_of_ble_eq_true rfl⟩ ⟨Nat.le_of_ble_eq_true rfl, Nat.le_of_ble_eq_true rfl⟩ hK hN hP hD hS hA [0, 1, 2] [3, 4, 5] rfl rfl rfl rfl (by decide) 0 rfl rfl rfl rfl hl.1 rfl (Nat.le_of_ble_eq_true rfl) dL_law_390 (fun r_2 u_r_2 H locs hw_r_2 hP hD hS => ?_)
    have hP : va_P D vwCl [(g0, .inr (9, [.ref ys, .ref yk, .ref yo, .ref yt, .int 0, .ref yfa, .ref yfe, .int 0, .int 0, .int 0, .ref yro, .ref yhe, .ref ygr, .int 0, .int 0, .int 0, .ref yta, .int 0, .int 0, .int 0, .int 0, .int 0, .ref ywa, .ref ybi, .ref ysi, .ref ynu, .ref ymo])), (ys, .inl (cI, 449, .inl (fun _ => 0))), (yt, .inl (cI, 7, .inl (fun _ => 0)))] H := hP
    have hD : va_D A [(g0, .inr (9, [.ref ys, .ref yk, .ref yo, .ref yt, .int 0, .ref yfa, .ref yfe, .int 0, .int 0, .int 0, .ref yro, .ref yhe, .ref ygr, .int 0, .int 0, .int 0, .ref yta, .int 0, .int 0, .int 0, .int 0, .int 0, .ref ywa, .ref ybi, .ref ysi, .ref ynu, .ref ymo])), (ys, .inl (cI, 449, .inl (fun _ => 0))), (yt, .inl (cI, 7, .inl (fun _ => 0)))] := hD
    subst hw_r_2
    refine lv_aload_n hx hb dL_law_393 rfl (lv_at hl 1 rfl) ?_
    refine lv_aload_n hx hb dL_law_394 rfl (lv_at hl 3 rfl) ?_
    refine lv_iload_n hx hb dL_law_395 rfl (lv_at hl 0 rfl) ?_
    refine lv_iconst (v := 1) hx hb dL_law_396 (by decide) ?_
    refine lv_iadd hx hb dL_law_397 ?_
    refine xl_i (y := 1) (by decide) ?_
    refine va_sld hx hb hX hbl hbA hS (xin 1 6 (by decide) (by decide)) dL_law_398 ?_
    refine xl_i (y := xs 1) rfl ?_
    refine lv_aload_n hx hb dL_law_399 rfl (lv_at hl 3 rfl) ?_
    refine lv_iload_n hx hb dL_law_400 rfl (lv_at hl 0 rfl) ?_
    refine lv_iconst (v := 2) hx hb dL_law_401 (by decide) ?_
    refine lv_iadd hx hb dL_law_402 ?_
    refine xl_i (y := 2) (by decide) ?_
    refine va_sld hx hb hX hbl hbA hS (xin 2 6 (by decide) (by decide)) dL_law_403 ?_
    refine xl_i (y := xs 2) rfl ?_
    refine lv_aload_n hx hb dL_law_404 rfl (lv_at hl 3 rfl) ?_
    refine lv_iload_n hx hb dL_law_405 rfl (lv_at hl 0 rfl) ?_
    refine lv_iconst (v := 3) hx hb dL_law_406 (by decide) ?_
    refine lv_iadd hx hb dL_law_407 ?_
    refine xl_i (y := 3) (by decide) ?_
    refine va_sld hx hb hX hbl hbA hS (xin 3 6 (by decide) (by decide)) dL_law_408 ?_
    refine xl_i (y := xs 3) rfl ?_
    refine lv_if_eq (tgt := 416) hx hb dL_law_409 (by decide) (fun c_3 => ?_) (fun c_3 => ?_)
    · skip
      refine lv_iconst (v := 0) hx hb dL_law_416 (by decide) ?_
      refine xc_Vi (wr := []) hF (c_X9_shut l D cI cJ cZ cS sa H.size g0 ys yk yo yt yfa yfe yro yhe ygr yta ywa ybi ysi ynu ymo (xs 1) (xs 2) 0 ) kv_L_37 ⟨rfl, rfl, Nat.le_of_ble_eq_true rfl, Nat.le_of_ble_eq_true rfl⟩ ⟨Nat.le_of_ble_eq_true rfl, Nat.le_of_ble_eq_true rfl⟩ hK hN hP hD hS hA [0, 1, 2] [] rfl rfl rfl rfl (by decide) 0 rfl rfl rfl rfl hl.1 rfl (Nat.le_of_ble_eq_true rfl) dL_law_417 (fun r_4 u_r_4 H locs hw_r_4 hP hD hS => ?_)
      have hP : va_P D vwCl [] H := hP
      have hD : va_D A [] := hD
      subst hw_r_4
      refine lv_icmp_eq (tgt := 1483) hx hb dL_law_420 (by decide) (fun c_5 => ?_) (fun c_5 => absurd (by decide) c_5)
      exact law_end l hF hr hlk hX hbl hbA hAs hS hl
    · skip
      refine lv_iconst (v := 1) hx hb dL_law_412 (by decide) ?_
      refine lv_goto (tgt := 417) hx hb dL_law_413 (by decide) ?_
      refine xc_Vi (wr := []) hF (c_X9_shut l D cI cJ cZ cS sa H.size g0 ys yk yo yt yfa yfe yro yhe ygr yta ywa ybi ysi ynu ymo (xs 1) (xs 2) 1 ) kv_L_37 ⟨rfl, rfl, Nat.le_of_ble_eq_true rfl, Nat.le_of_ble_eq_true rfl⟩ ⟨Nat.le_of_ble_eq_true rfl, Nat.le_of_ble_eq_true rfl⟩ hK hN hP hD hS hA [0, 1, 2] [] rfl rfl rfl rfl (by decide) 0 rfl rfl rfl rfl hl.1 rfl (Nat.le_of_ble_eq_true rfl) dL_law_417 (fun r_6 u_r_6 H locs hw_r_6 hP hD hS => ?_)
      have hP : va_P D vwCl [] H := hP
      have hD : va_D A [] := hD
      subst hw_r_6
      refine lv_icmp_eq (tgt := 1483) hx hb dL_law_420 (by decide) (fun c_7 => ?_) (fun c_7 => absurd (by decide) c_7)
      exact law_end l hF hr hlk hX hbl hbA hAs hS hl
  · skip
    refine lv_iconst (v := 1) hx hb dL_law_385 (by decide) ?_
    refine lv_goto (tgt := 390) hx hb dL_law_386 (by decide) ?_
    refine xc_Vi (wr := [(g0, .inr (9, [.ref ys, .ref yk, .ref yo, .ref yt, .int 0, .ref yfa, .ref yfe, .int 0, .int 0, .int 0, .ref yro, .ref yhe, .ref ygr, .int 0, .int 0, .int 0, .ref yta, .int 0, .int 0, .int 0, .int 0, .int 0, .ref ywa, .ref ybi, .ref ysi, .ref ynu, .ref ymo])), (ys, .inl (cI, 449, .inl (fun _ => 0))), (yt, .inl (cI, 7, .inl (fun _ => 0)))]) hF (c_X8_shut l D cI cJ cZ cS sa H.size h0 qh qk qd qa qm qs qp ql qt qz qf ae al au ao ar ak aw att ass (xs 1) (xs 2) 1 ) kv_L_33 ⟨rfl, rfl, Nat.le_of_ble_eq_true rfl, Nat.le_of_ble_eq_true rfl⟩ ⟨Nat.le_of_ble_eq_true rfl, Nat.le_of_ble_eq_true rfl⟩ hK hN hP hD hS hA [0, 1, 2] [3, 4, 5] rfl rfl rfl rfl (by decide) 0 rfl rfl rfl rfl hl.1 rfl (Nat.le_of_ble_eq_true rfl) dL_law_390 (fun r_8 u_r_8 H locs hw_r_8 hP hD hS => ?_)
    have hP : va_P D vwCl [(g0, .inr (9, [.ref ys, .ref yk, .ref yo, .ref yt, .int 0, .ref yfa, .ref yfe, .int 0, .int 0, .int 0, .ref yro, .ref yhe, .ref ygr, .int 0, .int 0, .int 0, .ref yta, .int 0, .int 0, .int 0, .int 0, .int 0, .ref ywa, .ref ybi, .ref ysi, .ref ynu, .ref ymo])), (ys, .inl (cI, 449, .inl (fun _ => 0))), (yt, .inl (cI, 7, .inl (fun _ => 0)))] H := hP
    have hD : va_D A [(g0, .inr (9, [.ref ys, .ref yk, .ref yo, .ref yt, .int 0, .ref yfa, .ref yfe, .int 0, .int 0, .int 0, .ref yro, .ref yhe, .ref ygr, .int 0, .int 0, .int 0, .ref yta, .int 0, .int 0, .int 0, .int 0, .int 0, .ref ywa, .ref ybi, .ref ysi, .ref ynu, .ref ymo])), (ys, .inl (cI, 449, .inl (fun _ => 0))), (yt, .inl (cI, 7, .inl (fun _ => 0)))] := hD
    subst hw_r_8
    refine lv_aload_n hx hb dL_law_393 rfl (lv_at hl 1 rfl) ?_
    refine lv_aload_n hx hb dL_law_394 rfl (lv_at hl 3 rfl) ?_
    refine lv_iload_n hx hb dL_law_395 rfl (lv_at hl 0 rfl) ?_
    refine lv_iconst (v := 1) hx hb dL_law_396 (by decide) ?_
    refine lv_iadd hx hb dL_law_397 ?_
    refine xl_i (y := 1) (by decide) ?_
    refine va_sld hx hb hX hbl hbA hS (xin 1 6 (by decide) (by decide)) dL_law_398 ?_
    refine xl_i (y := xs 1) rfl ?_
    refine lv_aload_n hx hb dL_law_399 rfl (lv_at hl 3 rfl) ?_
    refine lv_iload_n hx hb dL_law_400 rfl (lv_at hl 0 rfl) ?_
    refine lv_iconst (v := 2) hx hb dL_law_401 (by decide) ?_
    refine lv_iadd hx hb dL_law_402 ?_
    refine xl_i (y := 2) (by decide) ?_
    refine va_sld hx hb hX hbl hbA hS (xin 2 6 (by decide) (by decide)) dL_law_403 ?_
    refine xl_i (y := xs 2) rfl ?_
    refine lv_aload_n hx hb dL_law_404 rfl (lv_at hl 3 rfl) ?_
    refine lv_iload_n hx hb dL_law_405 rfl (lv_at hl 0 rfl) ?_
    refine lv_iconst (v := 3) hx hb dL_law_406 (by decide) ?_
    refine lv_iadd hx hb dL_law_407 ?_
    refine xl_i (y := 3) (by decide) ?_
    refine va_sld hx hb hX hbl hbA hS (xin 3 6 (by decide) (by decide)) dL_law_408 ?_
    refine xl_i (y := xs 3) rfl ?_
    refine lv_if_eq (tgt := 416) hx hb dL_law_409 (by decide) (fun c_9 => ?_) (fun c_9 => ?_)
    · skip
      refine lv_iconst (v := 0) hx hb dL_law_416 (by decide) ?_
      refine xc_Vi (wr := []) hF (c_X9_shut l D cI cJ cZ cS sa H.size g0 ys yk yo yt yfa yfe yro yhe ygr yta ywa ybi ysi ynu ymo (xs 1) (xs 2) 0 ) kv_L_37 ⟨rfl, rfl, Nat.le_of_ble_eq_true rfl, Nat.le_of_ble_eq_true rfl⟩ ⟨Nat.le_of_ble_eq_true rfl, Nat.le_of_ble_eq_true rfl⟩ hK hN hP hD hS hA [0, 1, 2] [] rfl rfl rfl rfl (by decide) 0 rfl rfl rfl rfl hl.1 rfl (Nat.le_of_ble_eq_true rfl) dL_law_417 (fun r_10 u_r_10 H locs hw_r_10 hP hD hS => ?_)
      have hP : va_P D vwCl [] H := hP
      have hD : va_D A [] := hD
      subst hw_r_10
      refine lv_icmp_eq (tgt := 1483) hx hb dL_law_420 (by decide) (fun c_11 => ?_) (fun c_11 => absurd (by decide) c_11)
      exact law_end l hF hr hlk hX hbl hbA hAs hS hl
    · skip
      refine lv_iconst (v := 1) hx hb dL_law_412 (by decide) ?_
      refine lv_goto (tgt := 417) hx hb dL_law_413 (by decide) ?_
      refine xc_Vi (wr := []) hF (c_X9_shut l D cI cJ cZ cS sa H.size g0 ys yk yo yt yfa yfe yro yhe ygr yta ywa ybi ysi ynu ymo (xs 1) (xs 2) 1 ) kv_L_37 ⟨rfl, rfl, Nat.le_of_ble_eq_true rfl, Nat.le_of_ble_eq_true rfl⟩ ⟨Nat.le_of_ble_eq_true rfl, Nat.le_of_ble_eq_true rfl⟩ hK hN hP hD hS hA [0, 1, 2] [] rfl rfl rfl rfl (by decide) 0 rfl rfl rfl rfl hl.1 rfl (Nat.le_of_ble_eq_true rfl) dL_law_417 (fun r_12 u_r_12 H locs hw_r_12 hP hD hS => ?_)
      have hP : va_P D vwCl [] H := hP
      have hD : va_D A [] := hD
      subst hw_r_12
      refine lv_icmp_eq (tgt := 1483) hx hb dL_law_420 (by decide) (fun c_13 => ?_) (fun c_13 => absurd (by decide) c_13)
      exact law_end l hF hr hlk hX hbl hbA hAs hS hl
set_option maxHeartbeats 4000000 in
set_option maxRecDepth 100000 in
theorem law_5 {p : Program} {e : Env} {s : State} {m : MethodId} {below : List Frame} {meth : Method} {c : Code} (l : Launch) (D : va_G) (cI cJ cZ cS : ClassId) (sa : Nat → Nat) {b : Nat} {xs : Nat → Int32} (hF : CallFix p m c cL_law 4 s #[Value.ref b] (Cond.initialized RX8 :: wsU) RL) (hr : meth.sig.returnType = ret) (hlk : meth.locks = false) (hK : va_K D vwCl (xT cI cJ cZ cS) s) (hN : XN sa s) (hX : va_X b 6 xs s s.heap) (hbl : b < s.heap.size) {A : Nat → Prop} (hA : ∀ q : Nat, s.heap.size ≤ q → A q) (hbA : ¬ A b) (hAs : ∀ q, A q → s.heap.size ≤ q) (h0 qh qk qd qa qm qs qp ql qt qz qf ae al au ao ar ak aw att ass g0 ys yk yo yt yfa yfe yro yhe ygr yta ywa ybi ysi ynu ymo : Nat) {H : Heap} {locs : List Loc} {ls : Array Slot} (hP : va_P D vwCl [(h0, .inr (8, [.ref qh, .ref qk, .ref qd, .int 0, .ref qa, .ref qm, .ref qs, .ref qp, .ref ql, .ref qt, .ref qz, .ref qf])), (qh, .inr (1, [.int 0, .ref ae, .ref al, .ref au, .ref ao, .ref ar, .ref ak, .ref aw, .ref att, .ref ass])), (qf, .inl (cI, 7, .inl (fun _ => 0))), (g0, .inr (9, [.ref ys, .ref yk, .ref yo, .ref yt, .int 0, .ref yfa, .ref yfe, .int 0, .int 0, .int 0, .ref yro, .ref yhe, .ref ygr, .int 0, .int 0, .int 0, .ref yta, .int 0, .int 0, .int 0, .int 0, .int 0, .ref ywa, .ref ybi, .ref ysi, .ref ynu, .ref ymo])), (ys, .inl (cI, 449, .inl (fun _ => 0))), (yt, .inl (cI, 7, .inl (fun _ => 0)))] H) (hD : va_D A [(h0, .inr (8, [.ref qh, .ref qk, .ref qd, .int 0, .ref qa, .ref qm, .ref qs, .ref qp, .ref ql, .ref qt, .ref qz, .ref qf])), (qh, .inr (1, [.int 0, .ref ae, .ref al, .ref au, .ref ao, .ref ar, .ref ak, .ref aw, .ref att, .ref ass])), (qf, .inl (cI, 7, .inl (fun _ => 0))), (g0, .inr (9, [.ref ys, .ref yk, .ref yo, .ref yt, .int 0, .ref yfa, .ref yfe, .int 0, .int 0, .int 0, .ref yro, .ref yhe, .ref ygr, .int 0, .int 0, .int 0, .ref yta, .int 0, .int 0, .int 0, .int 0, .int 0, .ref ywa, .ref ybi, .ref ysi, .ref ynu, .ref ymo])), (ys, .inl (cI, 449, .inl (fun _ => 0))), (yt, .inl (cI, 7, .inl (fun _ => 0)))]) (hS : va_S A s.heap H locs) (hl : lv_has ls 4 [(3, .int 0), (2, .ref g0), (1, .ref h0), (0, .ref b)]) : W p l e room_1 s m #[Value.ref b] below meth c H locs 82 4273 (lw_Z below #[Value.ref b] s) (F0 m 425 ls []) := by
  have hx := hF.1
  have hb := hF.2.1
  have hml := hF.2.2.1
  have hown := hF.2.2.2.1
  have hu : ∀ w ∈ wsU, w.before _ s = true := fun w h => hF.2.2.2.2 w (List.mem_cons_of_mem _ h)
  refine lv_aload_n hx hb dL_law_425 rfl (lv_at hl 2 rfl) ?_
  refine lv_aload_n hx hb dL_law_426 rfl (lv_at hl 3 rfl) ?_
  refine lv_iload_n hx hb dL_law_427 rfl (lv_at hl 0 rfl) ?_
  refine lv_iconst (v := 1) hx hb dL_law_428 (by decide) ?_
  refine lv_iadd hx hb dL_law_429 ?_
  refine xl_i (y := 1) (by decide) ?_
  refine va_sld hx hb hX hbl hbA hS (xin 1 6 (by decide) (by decide)) dL_law_430 ?_
  refine xl_i (y := xs 1) rfl ?_
  refine lv_aload_n hx hb dL_law_431 rfl (lv_at hl 3 rfl) ?_
  refine lv_iload_n hx hb dL_law_432 rfl (lv_at hl 0 rfl) ?_
  refine lv_iconst (v := 2) hx hb dL_law_433 (by decide) ?_
  refine lv_iadd hx hb dL_law_434 ?_
  refine xl_i (y := 2) (by decide) ?_
  refine va_sld hx hb hX hbl hbA hS (xin 2 6 (by decide) (by decide)) dL_law_435 ?_
  refine xl_i (y := xs 2) rfl ?_
  refine xc_Vi (wr := [(g0, .inr (9, [.ref ys, .ref yk, .ref yo, .ref yt, .int 0, .ref yfa, .ref yfe, .int 0, .int 0, .int 0, .ref yro, .ref yhe, .ref ygr, .int 0, .int 0, .int 0, .ref yta, .int 0, .int 0, .int 0, .int 0, .int 0, .ref ywa, .ref ybi, .ref ysi, .ref ynu, .ref ymo])), (ys, .inl (cI, 449, .inl (fun _ => 0))), (yt, .inl (cI, 7, .inl (fun _ => 0)))]) hF (c_X8_far l D cI cJ cZ cS sa H.size h0 qh qk qd qa qm qs qp ql qt qz qf ae al au ao ar ak aw att ass (xs 1) (xs 2) ) kv_L_38 ⟨rfl, rfl, Nat.le_of_ble_eq_true rfl, Nat.le_of_ble_eq_true rfl⟩ ⟨Nat.le_of_ble_eq_true rfl, Nat.le_of_ble_eq_true rfl⟩ hK hN hP hD hS hA [0, 1, 2] [3, 4, 5] rfl rfl rfl rfl (by decide) 0 rfl rfl rfl rfl hl.1 rfl (Nat.le_of_ble_eq_true rfl) dL_law_436 (fun r_1 u_r_1 H locs hw_r_1 hP hD hS => ?_)
  have hP : va_P D vwCl [(g0, .inr (9, [.ref ys, .ref yk, .ref yo, .ref yt, .int 0, .ref yfa, .ref yfe, .int 0, .int 0, .int 0, .ref yro, .ref yhe, .ref ygr, .int 0, .int 0, .int 0, .ref yta, .int 0, .int 0, .int 0, .int 0, .int 0, .ref ywa, .ref ybi, .ref ysi, .ref ynu, .ref ymo])), (ys, .inl (cI, 449, .inl (fun _ => 0))), (yt, .inl (cI, 7, .inl (fun _ => 0)))] H := hP
  have hD : va_D A [(g0, .inr (9, [.ref ys, .ref yk, .ref yo, .ref yt, .int 0, .ref yfa, .ref yfe, .int 0, .int 0, .int 0, .ref yro, .ref yhe, .ref ygr, .int 0, .int 0, .int 0, .ref yta, .int 0, .int 0, .int 0, .int 0, .int 0, .ref ywa, .ref ybi, .ref ysi, .ref ynu, .ref ymo])), (ys, .inl (cI, 449, .inl (fun _ => 0))), (yt, .inl (cI, 7, .inl (fun _ => 0)))] := hD
  subst hw_r_1
  refine lv_aload_n hx hb dL_law_439 rfl (lv_at hl 1 rfl) ?_
  refine lv_aload_n hx hb dL_law_440 rfl (lv_at hl 3 rfl) ?_
  refine lv_iload_n hx hb dL_law_441 rfl (lv_at hl 0 rfl) ?_
  refine lv_iconst (v := 1) hx hb dL_law_442 (by decide) ?_
  refine lv_iadd hx hb dL_law_443 ?_
  refine xl_i (y := 1) (by decide) ?_
  refine va_sld hx hb hX hbl hbA hS (xin 1 6 (by decide) (by decide)) dL_law_444 ?_
  refine xl_i (y := xs 1) rfl ?_
  refine lv_aload_n hx hb dL_law_445 rfl (lv_at hl 3 rfl) ?_
  refine lv_iload_n hx hb dL_law_446 rfl (lv_at hl 0 rfl) ?_
  refine lv_iconst (v := 2) hx hb dL_law_447 (by decide) ?_
  refine lv_iadd hx hb dL_law_448 ?_
  refine xl_i (y := 2) (by decide) ?_
  refine va_sld hx hb hX hbl hbA hS (xin 2 6 (by decide) (by decide)) dL_law_449 ?_
  refine xl_i (y := xs 2) rfl ?_
  refine xc_Vi (wr := []) hF (c_X9_far l D cI cJ cZ cS sa H.size g0 ys yk yo yt yfa yfe yro yhe ygr yta ywa ybi ysi ynu ymo (xs 1) (xs 2) ) kv_L_41 ⟨rfl, rfl, Nat.le_of_ble_eq_true rfl, Nat.le_of_ble_eq_true rfl⟩ ⟨Nat.le_of_ble_eq_true rfl, Nat.le_of_ble_eq_true rfl⟩ hK hN hP hD hS hA [0, 1, 2] [] rfl rfl rfl rfl (by decide) 0 rfl rfl rfl rfl hl.1 rfl (Nat.le_of_ble_eq_true rfl) dL_law_450 (fun r_2 u_r_2 H locs hw_r_2 hP hD hS => ?_)
  have hP : va_P D vwCl [] H := hP
  have hD : va_D A [] := hD
  subst hw_r_2
  refine lv_icmp_eq (tgt := 1483) hx hb dL_law_453 (by decide) (fun c_3 => ?_) (fun c_3 => absurd (by decide) c_3)
  exact law_end l hF hr hlk hX hbl hbA hAs hS hl
set_option maxHeartbeats 4000000 in
set_option maxRecDepth 100000 in
theorem law_6 {p : Program} {e : Env} {s : State} {m : MethodId} {below : List Frame} {meth : Method} {c : Code} (l : Launch) (D : va_G) (cI cJ cZ cS : ClassId) (sa : Nat → Nat) {b : Nat} {xs : Nat → Int32} (hF : CallFix p m c cL_law 4 s #[Value.ref b] (Cond.initialized RX8 :: wsU) RL) (hr : meth.sig.returnType = ret) (hlk : meth.locks = false) (hK : va_K D vwCl (xT cI cJ cZ cS) s) (hN : XN sa s) (hX : va_X b 6 xs s s.heap) (hbl : b < s.heap.size) {A : Nat → Prop} (hA : ∀ q : Nat, s.heap.size ≤ q → A q) (hbA : ¬ A b) (hAs : ∀ q, A q → s.heap.size ≤ q) (h0 qh qk qd qa qm qs qp ql qt qz qf ae al au ao ar ak aw att ass g0 ys yk yo yt yfa yfe yro yhe ygr yta ywa ybi ysi ynu ymo : Nat) {H : Heap} {locs : List Loc} {ls : Array Slot} (hP : va_P D vwCl [(h0, .inr (8, [.ref qh, .ref qk, .ref qd, .int 0, .ref qa, .ref qm, .ref qs, .ref qp, .ref ql, .ref qt, .ref qz, .ref qf])), (qh, .inr (1, [.int 0, .ref ae, .ref al, .ref au, .ref ao, .ref ar, .ref ak, .ref aw, .ref att, .ref ass])), (qf, .inl (cI, 7, .inl (fun _ => 0))), (g0, .inr (9, [.ref ys, .ref yk, .ref yo, .ref yt, .int 0, .ref yfa, .ref yfe, .int 0, .int 0, .int 0, .ref yro, .ref yhe, .ref ygr, .int 0, .int 0, .int 0, .ref yta, .int 0, .int 0, .int 0, .int 0, .int 0, .ref ywa, .ref ybi, .ref ysi, .ref ynu, .ref ymo])), (ys, .inl (cI, 449, .inl (fun _ => 0))), (yt, .inl (cI, 7, .inl (fun _ => 0)))] H) (hD : va_D A [(h0, .inr (8, [.ref qh, .ref qk, .ref qd, .int 0, .ref qa, .ref qm, .ref qs, .ref qp, .ref ql, .ref qt, .ref qz, .ref qf])), (qh, .inr (1, [.int 0, .ref ae, .ref al, .ref au, .ref ao, .ref ar, .ref ak, .ref aw, .ref att, .ref ass])), (qf, .inl (cI, 7, .inl (fun _ => 0))), (g0, .inr (9, [.ref ys, .ref yk, .ref yo, .ref yt, .int 0, .ref yfa, .ref yfe, .int 0, .int 0, .int 0, .ref yro, .ref yhe, .ref ygr, .int 0, .int 0, .int 0, .ref yta, .int 0, .int 0, .int 0, .int 0, .int 0, .ref ywa, .ref ybi, .ref ysi, .ref ynu, .ref ymo])), (ys, .inl (cI, 449, .inl (fun _ => 0))), (yt, .inl (cI, 7, .inl (fun _ => 0)))]) (hS : va_S A s.heap H locs) (hl : lv_has ls 4 [(3, .int 0), (2, .ref g0), (1, .ref h0), (0, .ref b)]) : W p l e room_1 s m #[Value.ref b] below meth c H locs 82 4273 (lw_Z below #[Value.ref b] s) (F0 m 458 ls []) := by
  have hx := hF.1
  have hb := hF.2.1
  have hml := hF.2.2.1
  have hown := hF.2.2.2.1
  have hu : ∀ w ∈ wsU, w.before _ s = true := fun w h => hF.2.2.2.2 w (List.mem_cons_of_mem _ h)
  refine lv_aload_n hx hb dL_law_458 rfl (lv_at hl 2 rfl) ?_
  refine lv_aload_n hx hb dL_law_459 rfl (lv_at hl 3 rfl) ?_
  refine lv_iload_n hx hb dL_law_460 rfl (lv_at hl 0 rfl) ?_
  refine lv_iconst (v := 1) hx hb dL_law_461 (by decide) ?_
  refine lv_iadd hx hb dL_law_462 ?_
  refine xl_i (y := 1) (by decide) ?_
  refine va_sld hx hb hX hbl hbA hS (xin 1 6 (by decide) (by decide)) dL_law_463 ?_
  refine xl_i (y := xs 1) rfl ?_
  refine lv_aload_n hx hb dL_law_464 rfl (lv_at hl 3 rfl) ?_
  refine lv_iload_n hx hb dL_law_465 rfl (lv_at hl 0 rfl) ?_
  refine lv_iconst (v := 2) hx hb dL_law_466 (by decide) ?_
  refine lv_iadd hx hb dL_law_467 ?_
  refine xl_i (y := 2) (by decide) ?_
  refine va_sld hx hb hX hbl hbA hS (xin 2 6 (by decide) (by decide)) dL_law_468 ?_
  refine xl_i (y := xs 2) rfl ?_
  refine lv_aload_n hx hb dL_law_469 rfl (lv_at hl 3 rfl) ?_
  refine lv_iload_n hx hb dL_law_470 rfl (lv_at hl 0 rfl) ?_
  refine lv_iconst (v := 3) hx hb dL_law_471 (by decide) ?_
  refine lv_iadd hx hb dL_law_472 ?_
  refine xl_i (y := 3) (by decide) ?_
  refine va_sld hx hb hX hbl hbA hS (xin 3 6 (by decide) (by decide)) dL_law_473 ?_
  refine xl_i (y := xs 3) rfl ?_
  refine xc_Vi (wr := [(g0, .inr (9, [.ref ys, .ref yk, .ref yo, .ref yt, .int 0, .ref yfa, .ref yfe, .int 0, .int 0, .int 0, .ref yro, .ref yhe, .ref ygr, .int 0, .int 0, .int 0, .ref yta, .int 0, .int 0, .int 0, .int 0, .int 0, .ref ywa, .ref ybi, .ref ysi, .ref ynu, .ref ymo])), (ys, .inl (cI, 449, .inl (fun _ => 0))), (yt, .inl (cI, 7, .inl (fun _ => 0)))]) hF (c_X8_by l D cI cJ cZ cS sa H.size h0 qh qk qd qa qm qs qp ql qt qz qf ae al au ao ar ak aw att ass (xs 1) (xs 2) (xs 3) ) kv_L_42 ⟨rfl, rfl, Nat.le_of_ble_eq_true rfl, Nat.le_of_ble_eq_true rfl⟩ ⟨Nat.le_of_ble_eq_true rfl, Nat.le_of_ble_eq_true rfl⟩ hK hN hP hD hS hA [0, 1, 2] [3, 4, 5] rfl rfl rfl rfl (by decide) 0 rfl rfl rfl rfl hl.1 rfl (Nat.le_of_ble_eq_true rfl) dL_law_474 (fun r_1 u_r_1 H locs hw_r_1 hP hD hS => ?_)
  have hP : va_P D vwCl [(g0, .inr (9, [.ref ys, .ref yk, .ref yo, .ref yt, .int 0, .ref yfa, .ref yfe, .int 0, .int 0, .int 0, .ref yro, .ref yhe, .ref ygr, .int 0, .int 0, .int 0, .ref yta, .int 0, .int 0, .int 0, .int 0, .int 0, .ref ywa, .ref ybi, .ref ysi, .ref ynu, .ref ymo])), (ys, .inl (cI, 449, .inl (fun _ => 0))), (yt, .inl (cI, 7, .inl (fun _ => 0)))] H := hP
  have hD : va_D A [(g0, .inr (9, [.ref ys, .ref yk, .ref yo, .ref yt, .int 0, .ref yfa, .ref yfe, .int 0, .int 0, .int 0, .ref yro, .ref yhe, .ref ygr, .int 0, .int 0, .int 0, .ref yta, .int 0, .int 0, .int 0, .int 0, .int 0, .ref ywa, .ref ybi, .ref ysi, .ref ynu, .ref ymo])), (ys, .inl (cI, 449, .inl (fun _ => 0))), (yt, .inl (cI, 7, .inl (fun _ => 0)))] := hD
  subst hw_r_1
  refine lv_aload_n hx hb dL_law_477 rfl (lv_at hl 1 rfl) ?_
  refine lv_aload_n hx hb dL_law_478 rfl (lv_at hl 3 rfl) ?_
  refine lv_iload_n hx hb dL_law_479 rfl (lv_at hl 0 rfl) ?_
  refine lv_iconst (v := 1) hx hb dL_law_480 (by decide) ?_
  refine lv_iadd hx hb dL_law_481 ?_
  refine xl_i (y := 1) (by decide) ?_
  refine va_sld hx hb hX hbl hbA hS (xin 1 6 (by decide) (by decide)) dL_law_482 ?_
  refine xl_i (y := xs 1) rfl ?_
  refine lv_aload_n hx hb dL_law_483 rfl (lv_at hl 3 rfl) ?_
  refine lv_iload_n hx hb dL_law_484 rfl (lv_at hl 0 rfl) ?_
  refine lv_iconst (v := 2) hx hb dL_law_485 (by decide) ?_
  refine lv_iadd hx hb dL_law_486 ?_
  refine xl_i (y := 2) (by decide) ?_
  refine va_sld hx hb hX hbl hbA hS (xin 2 6 (by decide) (by decide)) dL_law_487 ?_
  refine xl_i (y := xs 2) rfl ?_
  refine lv_aload_n hx hb dL_law_488 rfl (lv_at hl 3 rfl) ?_
  refine lv_iload_n hx hb dL_law_489 rfl (lv_at hl 0 rfl) ?_
  refine lv_iconst (v := 3) hx hb dL_law_490 (by decide) ?_
  refine lv_iadd hx hb dL_law_491 ?_
  refine xl_i (y := 3) (by decide) ?_
  refine va_sld hx hb hX hbl hbA hS (xin 3 6 (by decide) (by decide)) dL_law_492 ?_
  refine xl_i (y := xs 3) rfl ?_
  refine xc_Vi (wr := []) hF (c_X9_by l D cI cJ cZ cS sa H.size g0 ys yk yo yt yfa yfe yro yhe ygr yta ywa ybi ysi ynu ymo (xs 1) (xs 2) (xs 3) ) kv_L_45 ⟨rfl, rfl, Nat.le_of_ble_eq_true rfl, Nat.le_of_ble_eq_true rfl⟩ ⟨Nat.le_of_ble_eq_true rfl, Nat.le_of_ble_eq_true rfl⟩ hK hN hP hD hS hA [0, 1, 2] [] rfl rfl rfl rfl (by decide) 0 rfl rfl rfl rfl hl.1 rfl (Nat.le_of_ble_eq_true rfl) dL_law_493 (fun r_2 u_r_2 H locs hw_r_2 hP hD hS => ?_)
  have hP : va_P D vwCl [] H := hP
  have hD : va_D A [] := hD
  subst hw_r_2
  refine lv_icmp_eq (tgt := 1483) hx hb dL_law_496 (by decide) (fun c_3 => ?_) (fun c_3 => absurd (by decide) c_3)
  exact law_end l hF hr hlk hX hbl hbA hAs hS hl
set_option maxHeartbeats 4000000 in
set_option maxRecDepth 100000 in
theorem law_7 {p : Program} {e : Env} {s : State} {m : MethodId} {below : List Frame} {meth : Method} {c : Code} (l : Launch) (D : va_G) (cI cJ cZ cS : ClassId) (sa : Nat → Nat) {b : Nat} {xs : Nat → Int32} (hF : CallFix p m c cL_law 4 s #[Value.ref b] (Cond.initialized RX8 :: wsU) RL) (hr : meth.sig.returnType = ret) (hlk : meth.locks = false) (hK : va_K D vwCl (xT cI cJ cZ cS) s) (hN : XN sa s) (hX : va_X b 6 xs s s.heap) (hbl : b < s.heap.size) {A : Nat → Prop} (hA : ∀ q : Nat, s.heap.size ≤ q → A q) (hbA : ¬ A b) (hAs : ∀ q, A q → s.heap.size ≤ q) (h0 qh qk qd qa qm qs qp ql qt qz qf ae al au ao ar ak aw att ass an g0 ys yk yo yt yfa yfe yro yhe ygr yta ywa ybi ysi ynu ymo : Nat) {H : Heap} {locs : List Loc} {ls : Array Slot} (hP : va_P D vwCl [(h0, .inr (8, [.ref qh, .ref qk, .ref qd, .int 0, .ref qa, .ref qm, .ref qs, .ref qp, .ref ql, .ref qt, .ref qz, .ref qf])), (qh, .inr (1, [.int 0, .ref ae, .ref al, .ref au, .ref ao, .ref ar, .ref ak, .ref aw, .ref att, .ref ass])), (qa, .inr (0, [.int 0, .ref an])), (g0, .inr (9, [.ref ys, .ref yk, .ref yo, .ref yt, .int 0, .ref yfa, .ref yfe, .int 0, .int 0, .int 0, .ref yro, .ref yhe, .ref ygr, .int 0, .int 0, .int 0, .ref yta, .int 0, .int 0, .int 0, .int 0, .int 0, .ref ywa, .ref ybi, .ref ysi, .ref ynu, .ref ymo])), (ys, .inl (cI, 449, .inl (fun _ => 0)))] H) (hD : va_D A [(h0, .inr (8, [.ref qh, .ref qk, .ref qd, .int 0, .ref qa, .ref qm, .ref qs, .ref qp, .ref ql, .ref qt, .ref qz, .ref qf])), (qh, .inr (1, [.int 0, .ref ae, .ref al, .ref au, .ref ao, .ref ar, .ref ak, .ref aw, .ref att, .ref ass])), (qa, .inr (0, [.int 0, .ref an])), (g0, .inr (9, [.ref ys, .ref yk, .ref yo, .ref yt, .int 0, .ref yfa, .ref yfe, .int 0, .int 0, .int 0, .ref yro, .ref yhe, .ref ygr, .int 0, .int 0, .int 0, .ref yta, .int 0, .int 0, .int 0, .int 0, .int 0, .ref ywa, .ref ybi, .ref ysi, .ref ynu, .ref ymo])), (ys, .inl (cI, 449, .inl (fun _ => 0)))]) (hS : va_S A s.heap H locs) (hl : lv_has ls 4 [(3, .int 0), (2, .ref g0), (1, .ref h0), (0, .ref b)]) : W p l e room_1 s m #[Value.ref b] below meth c H locs 82 4273 (lw_Z below #[Value.ref b] s) (F0 m 501 ls []) := by
  have hx := hF.1
  have hb := hF.2.1
  have hml := hF.2.2.1
  have hown := hF.2.2.2.1
  have hu : ∀ w ∈ wsU, w.before _ s = true := fun w h => hF.2.2.2.2 w (List.mem_cons_of_mem _ h)
  refine lv_aload_n hx hb dL_law_501 rfl (lv_at hl 2 rfl) ?_
  refine xc_Vi (wr := [(g0, .inr (9, [.ref ys, .ref yk, .ref yo, .ref yt, .int 0, .ref yfa, .ref yfe, .int 0, .int 0, .int 0, .ref yro, .ref yhe, .ref ygr, .int 0, .int 0, .int 0, .ref yta, .int 0, .int 0, .int 0, .int 0, .int 0, .ref ywa, .ref ybi, .ref ysi, .ref ynu, .ref ymo])), (ys, .inl (cI, 449, .inl (fun _ => 0)))]) hF (c_X8_loops l D cI cJ cZ cS sa H.size h0 qh qk qd qa qm qs qp ql qt qz qf ae al au ao ar ak aw att ass an ) kv_L_46 ⟨rfl, rfl, Nat.le_of_ble_eq_true rfl, Nat.le_of_ble_eq_true rfl⟩ ⟨Nat.le_of_ble_eq_true rfl, Nat.le_of_ble_eq_true rfl⟩ hK hN hP hD hS hA [0, 1, 2] [3, 4] rfl rfl rfl rfl (by decide) 0 rfl rfl rfl rfl hl.1 rfl (Nat.le_of_ble_eq_true rfl) dL_law_502 (fun r_1 u_r_1 H locs hw_r_1 hP hD hS => ?_)
  have hP : va_P D vwCl [(g0, .inr (9, [.ref ys, .ref yk, .ref yo, .ref yt, .int 0, .ref yfa, .ref yfe, .int 0, .int 0, .int 0, .ref yro, .ref yhe, .ref ygr, .int 0, .int 0, .int 0, .ref yta, .int 0, .int 0, .int 0, .int 0, .int 0, .ref ywa, .ref ybi, .ref ysi, .ref ynu, .ref ymo])), (ys, .inl (cI, 449, .inl (fun _ => 0)))] H := hP
  have hD : va_D A [(g0, .inr (9, [.ref ys, .ref yk, .ref yo, .ref yt, .int 0, .ref yfa, .ref yfe, .int 0, .int 0, .int 0, .ref yro, .ref yhe, .ref ygr, .int 0, .int 0, .int 0, .ref yta, .int 0, .int 0, .int 0, .int 0, .int 0, .ref ywa, .ref ybi, .ref ysi, .ref ynu, .ref ymo])), (ys, .inl (cI, 449, .inl (fun _ => 0)))] := hD
  subst hw_r_1
  refine lv_aload_n hx hb dL_law_505 rfl (lv_at hl 1 rfl) ?_
  refine xc_Vi (wr := []) hF (c_X9_loops l D cI cJ cZ cS sa H.size g0 ys yk yo yt yfa yfe yro yhe ygr yta ywa ybi ysi ynu ymo ) kv_L_49 ⟨rfl, rfl, Nat.le_of_ble_eq_true rfl, Nat.le_of_ble_eq_true rfl⟩ ⟨Nat.le_of_ble_eq_true rfl, Nat.le_of_ble_eq_true rfl⟩ hK hN hP hD hS hA [0, 1] [] rfl rfl rfl rfl (by decide) 0 rfl rfl rfl rfl hl.1 rfl (Nat.le_of_ble_eq_true rfl) dL_law_506 (fun r_2 u_r_2 H locs hw_r_2 hP hD hS => ?_)
  have hP : va_P D vwCl [] H := hP
  have hD : va_D A [] := hD
  subst hw_r_2
  refine lv_icmp_eq (tgt := 1483) hx hb dL_law_509 (by decide) (fun c_3 => ?_) (fun c_3 => absurd (by decide) c_3)
  exact law_end l hF hr hlk hX hbl hbA hAs hS hl
set_option maxHeartbeats 4000000 in
set_option maxRecDepth 100000 in
theorem law_8 {p : Program} {e : Env} {s : State} {m : MethodId} {below : List Frame} {meth : Method} {c : Code} (l : Launch) (D : va_G) (cI cJ cZ cS : ClassId) (sa : Nat → Nat) {b : Nat} {xs : Nat → Int32} (hF : CallFix p m c cL_law 4 s #[Value.ref b] (Cond.initialized RX8 :: wsU) RL) (hr : meth.sig.returnType = ret) (hlk : meth.locks = false) (hK : va_K D vwCl (xT cI cJ cZ cS) s) (hN : XN sa s) (hX : va_X b 6 xs s s.heap) (hbl : b < s.heap.size) {A : Nat → Prop} (hA : ∀ q : Nat, s.heap.size ≤ q → A q) (hbA : ¬ A b) (hAs : ∀ q, A q → s.heap.size ≤ q) (h0 qh qk qd qa qm qs qp ql qt qz qf ae al au ao ar ak aw att ass g0 ys yk yo yt yfa yfe yro yhe ygr yta ywa ybi ysi ynu ymo : Nat) {H : Heap} {locs : List Loc} {ls : Array Slot} (hP : va_P D vwCl [(h0, .inr (8, [.ref qh, .ref qk, .ref qd, .int 0, .ref qa, .ref qm, .ref qs, .ref qp, .ref ql, .ref qt, .ref qz, .ref qf])), (qh, .inr (1, [.int 0, .ref ae, .ref al, .ref au, .ref ao, .ref ar, .ref ak, .ref aw, .ref att, .ref ass])), (qf, .inl (cI, 7, .inl (fun _ => 0))), (g0, .inr (9, [.ref ys, .ref yk, .ref yo, .ref yt, .int 0, .ref yfa, .ref yfe, .int 0, .int 0, .int 0, .ref yro, .ref yhe, .ref ygr, .int 0, .int 0, .int 0, .ref yta, .int 0, .int 0, .int 0, .int 0, .int 0, .ref ywa, .ref ybi, .ref ysi, .ref ynu, .ref ymo])), (ys, .inl (cI, 449, .inl (fun _ => 0))), (yt, .inl (cI, 7, .inl (fun _ => 0)))] H) (hD : va_D A [(h0, .inr (8, [.ref qh, .ref qk, .ref qd, .int 0, .ref qa, .ref qm, .ref qs, .ref qp, .ref ql, .ref qt, .ref qz, .ref qf])), (qh, .inr (1, [.int 0, .ref ae, .ref al, .ref au, .ref ao, .ref ar, .ref ak, .ref aw, .ref att, .ref ass])), (qf, .inl (cI, 7, .inl (fun _ => 0))), (g0, .inr (9, [.ref ys, .ref yk, .ref yo, .ref yt, .int 0, .ref yfa, .ref yfe, .int 0, .int 0, .int 0, .ref yro, .ref yhe, .ref ygr, .int 0, .int 0, .int 0, .ref yta, .int 0, .int 0, .int 0, .int 0, .int 0, .ref ywa, .ref ybi, .ref ysi, .ref ynu, .ref ymo])), (ys, .inl (cI, 449, .inl (fun _ => 0))), (yt, .inl (cI, 7, .inl (fun _ => 0)))]) (hS : va_S A s.heap H locs) (hl : lv_has ls 4 [(3, .int 0), (2, .ref g0), (1, .ref h0), (0, .ref b)]) : W p l e room_1 s m #[Value.ref b] below meth c H locs 82 4273 (lw_Z below #[Value.ref b] s) (F0 m 514 ls []) := by
  have hx := hF.1
  have hb := hF.2.1
  have hml := hF.2.2.1
  have hown := hF.2.2.2.1
  have hu : ∀ w ∈ wsU, w.before _ s = true := fun w h => hF.2.2.2.2 w (List.mem_cons_of_mem _ h)
  refine lv_aload_n hx hb dL_law_514 rfl (lv_at hl 2 rfl) ?_
  refine lv_aload_n hx hb dL_law_515 rfl (lv_at hl 3 rfl) ?_
  refine lv_iload_n hx hb dL_law_516 rfl (lv_at hl 0 rfl) ?_
  refine lv_iconst (v := 1) hx hb dL_law_517 (by decide) ?_
  refine lv_iadd hx hb dL_law_518 ?_
  refine xl_i (y := 1) (by decide) ?_
  refine va_sld hx hb hX hbl hbA hS (xin 1 6 (by decide) (by decide)) dL_law_519 ?_
  refine xl_i (y := xs 1) rfl ?_
  refine lv_aload_n hx hb dL_law_520 rfl (lv_at hl 3 rfl) ?_
  refine lv_iload_n hx hb dL_law_521 rfl (lv_at hl 0 rfl) ?_
  refine lv_iconst (v := 2) hx hb dL_law_522 (by decide) ?_
  refine lv_iadd hx hb dL_law_523 ?_
  refine xl_i (y := 2) (by decide) ?_
  refine va_sld hx hb hX hbl hbA hS (xin 2 6 (by decide) (by decide)) dL_law_524 ?_
  refine xl_i (y := xs 2) rfl ?_
  refine xc_Vi (wr := [(g0, .inr (9, [.ref ys, .ref yk, .ref yo, .ref yt, .int 0, .ref yfa, .ref yfe, .int 0, .int 0, .int 0, .ref yro, .ref yhe, .ref ygr, .int 0, .int 0, .int 0, .ref yta, .int 0, .int 0, .int 0, .int 0, .int 0, .ref ywa, .ref ybi, .ref ysi, .ref ynu, .ref ymo])), (ys, .inl (cI, 449, .inl (fun _ => 0))), (yt, .inl (cI, 7, .inl (fun _ => 0)))]) hF (c_X8_longer l D cI cJ cZ cS sa H.size h0 qh qk qd qa qm qs qp ql qt qz qf ae al au ao ar ak aw att ass (xs 1) (xs 2) ) kv_L_50 ⟨rfl, rfl, Nat.le_of_ble_eq_true rfl, Nat.le_of_ble_eq_true rfl⟩ ⟨Nat.le_of_ble_eq_true rfl, Nat.le_of_ble_eq_true rfl⟩ hK hN hP hD hS hA [0, 1, 2] [3, 4, 5] rfl rfl rfl rfl (by decide) 0 rfl rfl rfl rfl hl.1 rfl (Nat.le_of_ble_eq_true rfl) dL_law_525 (fun r_1 u_r_1 H locs hw_r_1 hP hD hS => ?_)
  have hP : va_P D vwCl [(g0, .inr (9, [.ref ys, .ref yk, .ref yo, .ref yt, .int 0, .ref yfa, .ref yfe, .int 0, .int 0, .int 0, .ref yro, .ref yhe, .ref ygr, .int 0, .int 0, .int 0, .ref yta, .int 0, .int 0, .int 0, .int 0, .int 0, .ref ywa, .ref ybi, .ref ysi, .ref ynu, .ref ymo])), (ys, .inl (cI, 449, .inl (fun _ => 0))), (yt, .inl (cI, 7, .inl (fun _ => 0)))] H := hP
  have hD : va_D A [(g0, .inr (9, [.ref ys, .ref yk, .ref yo, .ref yt, .int 0, .ref yfa, .ref yfe, .int 0, .int 0, .int 0, .ref yro, .ref yhe, .ref ygr, .int 0, .int 0, .int 0, .ref yta, .int 0, .int 0, .int 0, .int 0, .int 0, .ref ywa, .ref ybi, .ref ysi, .ref ynu, .ref ymo])), (ys, .inl (cI, 449, .inl (fun _ => 0))), (yt, .inl (cI, 7, .inl (fun _ => 0)))] := hD
  subst hw_r_1
  refine lv_aload_n hx hb dL_law_528 rfl (lv_at hl 1 rfl) ?_
  refine lv_aload_n hx hb dL_law_529 rfl (lv_at hl 3 rfl) ?_
  refine lv_iload_n hx hb dL_law_530 rfl (lv_at hl 0 rfl) ?_
  refine lv_iconst (v := 1) hx hb dL_law_531 (by decide) ?_
  refine lv_iadd hx hb dL_law_532 ?_
  refine xl_i (y := 1) (by decide) ?_
  refine va_sld hx hb hX hbl hbA hS (xin 1 6 (by decide) (by decide)) dL_law_533 ?_
  refine xl_i (y := xs 1) rfl ?_
  refine lv_aload_n hx hb dL_law_534 rfl (lv_at hl 3 rfl) ?_
  refine lv_iload_n hx hb dL_law_535 rfl (lv_at hl 0 rfl) ?_
  refine lv_iconst (v := 2) hx hb dL_law_536 (by decide) ?_
  refine lv_iadd hx hb dL_law_537 ?_
  refine xl_i (y := 2) (by decide) ?_
  refine va_sld hx hb hX hbl hbA hS (xin 2 6 (by decide) (by decide)) dL_law_538 ?_
  refine xl_i (y := xs 2) rfl ?_
  refine xc_Vi (wr := []) hF (c_X9_longer l D cI cJ cZ cS sa H.size g0 ys yk yo yt yfa yfe yro yhe ygr yta ywa ybi ysi ynu ymo (xs 1) (xs 2) ) kv_L_53 ⟨rfl, rfl, Nat.le_of_ble_eq_true rfl, Nat.le_of_ble_eq_true rfl⟩ ⟨Nat.le_of_ble_eq_true rfl, Nat.le_of_ble_eq_true rfl⟩ hK hN hP hD hS hA [0, 1, 2] [] rfl rfl rfl rfl (by decide) 0 rfl rfl rfl rfl hl.1 rfl (Nat.le_of_ble_eq_true rfl) dL_law_539 (fun r_2 u_r_2 H locs hw_r_2 hP hD hS => ?_)
  have hP : va_P D vwCl [] H := hP
  have hD : va_D A [] := hD
  subst hw_r_2
  refine lv_icmp_eq (tgt := 1483) hx hb dL_law_542 (by decide) (fun c_3 => ?_) (fun c_3 => absurd (by decide) c_3)
  exact law_end l hF hr hlk hX hbl hbA hAs hS hl
set_option maxHeartbeats 4000000 in
set_option maxRecDepth 100000 in
theorem law_9 {p : Program} {e : Env} {s : State} {m : MethodId} {below : List Frame} {meth : Method} {c : Code} (l : Launch) (D : va_G) (cI cJ cZ cS : ClassId) (sa : Nat → Nat) {b : Nat} {xs : Nat → Int32} (hF : CallFix p m c cL_law 4 s #[Value.ref b] (Cond.initialized RX8 :: wsU) RL) (hr : meth.sig.returnType = ret) (hlk : meth.locks = false) (hK : va_K D vwCl (xT cI cJ cZ cS) s) (hN : XN sa s) (hX : va_X b 6 xs s s.heap) (hbl : b < s.heap.size) {A : Nat → Prop} (hA : ∀ q : Nat, s.heap.size ≤ q → A q) (hbA : ¬ A b) (hAs : ∀ q, A q → s.heap.size ≤ q) (h0 qh qk qd qa qm qs qp ql qt qz qf ae al au ao ar ak aw att ass g0 ys yk yo yt yfa yfe yro yhe ygr yta ywa ybi ysi ynu ymo : Nat) {H : Heap} {locs : List Loc} {ls : Array Slot} (hP : va_P D vwCl [(h0, .inr (8, [.ref qh, .ref qk, .ref qd, .int 0, .ref qa, .ref qm, .ref qs, .ref qp, .ref ql, .ref qt, .ref qz, .ref qf])), (qh, .inr (1, [.int 0, .ref ae, .ref al, .ref au, .ref ao, .ref ar, .ref ak, .ref aw, .ref att, .ref ass])), (qf, .inl (cI, 7, .inl (fun _ => 0))), (g0, .inr (9, [.ref ys, .ref yk, .ref yo, .ref yt, .int 0, .ref yfa, .ref yfe, .int 0, .int 0, .int 0, .ref yro, .ref yhe, .ref ygr, .int 0, .int 0, .int 0, .ref yta, .int 0, .int 0, .int 0, .int 0, .int 0, .ref ywa, .ref ybi, .ref ysi, .ref ynu, .ref ymo])), (ys, .inl (cI, 449, .inl (fun _ => 0))), (yt, .inl (cI, 7, .inl (fun _ => 0)))] H) (hD : va_D A [(h0, .inr (8, [.ref qh, .ref qk, .ref qd, .int 0, .ref qa, .ref qm, .ref qs, .ref qp, .ref ql, .ref qt, .ref qz, .ref qf])), (qh, .inr (1, [.int 0, .ref ae, .ref al, .ref au, .ref ao, .ref ar, .ref ak, .ref aw, .ref att, .ref ass])), (qf, .inl (cI, 7, .inl (fun _ => 0))), (g0, .inr (9, [.ref ys, .ref yk, .ref yo, .ref yt, .int 0, .ref yfa, .ref yfe, .int 0, .int 0, .int 0, .ref yro, .ref yhe, .ref ygr, .int 0, .int 0, .int 0, .ref yta, .int 0, .int 0, .int 0, .int 0, .int 0, .ref ywa, .ref ybi, .ref ysi, .ref ynu, .ref ymo])), (ys, .inl (cI, 449, .inl (fun _ => 0))), (yt, .inl (cI, 7, .inl (fun _ => 0)))]) (hS : va_S A s.heap H locs) (hl : lv_has ls 4 [(3, .int 0), (2, .ref g0), (1, .ref h0), (0, .ref b)]) : W p l e room_1 s m #[Value.ref b] below meth c H locs 82 4273 (lw_Z below #[Value.ref b] s) (F0 m 547 ls []) := by
  have hx := hF.1
  have hb := hF.2.1
  have hml := hF.2.2.1
  have hown := hF.2.2.2.1
  have hu : ∀ w ∈ wsU, w.before _ s = true := fun w h => hF.2.2.2.2 w (List.mem_cons_of_mem _ h)
  refine lv_aload_n hx hb dL_law_547 rfl (lv_at hl 2 rfl) ?_
  refine lv_aload_n hx hb dL_law_548 rfl (lv_at hl 3 rfl) ?_
  refine lv_iload_n hx hb dL_law_549 rfl (lv_at hl 0 rfl) ?_
  refine lv_iconst (v := 1) hx hb dL_law_550 (by decide) ?_
  refine lv_iadd hx hb dL_law_551 ?_
  refine xl_i (y := 1) (by decide) ?_
  refine va_sld hx hb hX hbl hbA hS (xin 1 6 (by decide) (by decide)) dL_law_552 ?_
  refine xl_i (y := xs 1) rfl ?_
  refine lv_aload_n hx hb dL_law_553 rfl (lv_at hl 3 rfl) ?_
  refine lv_iload_n hx hb dL_law_554 rfl (lv_at hl 0 rfl) ?_
  refine lv_iconst (v := 2) hx hb dL_law_555 (by decide) ?_
  refine lv_iadd hx hb dL_law_556 ?_
  refine xl_i (y := 2) (by decide) ?_
  refine va_sld hx hb hX hbl hbA hS (xin 2 6 (by decide) (by decide)) dL_law_557 ?_
  refine xl_i (y := xs 2) rfl ?_
  refine xc_Vi (wr := [(g0, .inr (9, [.ref ys, .ref yk, .ref yo, .ref yt, .int 0, .ref yfa, .ref yfe, .int 0, .int 0, .int 0, .ref yro, .ref yhe, .ref ygr, .int 0, .int 0, .int 0, .ref yta, .int 0, .int 0, .int 0, .int 0, .int 0, .ref ywa, .ref ybi, .ref ysi, .ref ynu, .ref ymo])), (ys, .inl (cI, 449, .inl (fun _ => 0))), (yt, .inl (cI, 7, .inl (fun _ => 0)))]) hF (c_X8_round l D cI cJ cZ cS sa H.size h0 qh qk qd qa qm qs qp ql qt qz qf ae al au ao ar ak aw att ass (xs 1) (xs 2) ) kv_L_54 ⟨rfl, rfl, Nat.le_of_ble_eq_true rfl, Nat.le_of_ble_eq_true rfl⟩ ⟨Nat.le_of_ble_eq_true rfl, Nat.le_of_ble_eq_true rfl⟩ hK hN hP hD hS hA [0, 1, 2] [3, 4, 5] rfl rfl rfl rfl (by decide) 0 rfl rfl rfl rfl hl.1 rfl (Nat.le_of_ble_eq_true rfl) dL_law_558 (fun r_1 u_r_1 H locs hw_r_1 hP hD hS => ?_)
  have hP : va_P D vwCl [(g0, .inr (9, [.ref ys, .ref yk, .ref yo, .ref yt, .int 0, .ref yfa, .ref yfe, .int 0, .int 0, .int 0, .ref yro, .ref yhe, .ref ygr, .int 0, .int 0, .int 0, .ref yta, .int 0, .int 0, .int 0, .int 0, .int 0, .ref ywa, .ref ybi, .ref ysi, .ref ynu, .ref ymo])), (ys, .inl (cI, 449, .inl (fun _ => 0))), (yt, .inl (cI, 7, .inl (fun _ => 0)))] H := hP
  have hD : va_D A [(g0, .inr (9, [.ref ys, .ref yk, .ref yo, .ref yt, .int 0, .ref yfa, .ref yfe, .int 0, .int 0, .int 0, .ref yro, .ref yhe, .ref ygr, .int 0, .int 0, .int 0, .ref yta, .int 0, .int 0, .int 0, .int 0, .int 0, .ref ywa, .ref ybi, .ref ysi, .ref ynu, .ref ymo])), (ys, .inl (cI, 449, .inl (fun _ => 0))), (yt, .inl (cI, 7, .inl (fun _ => 0)))] := hD
  subst hw_r_1
  refine lv_aload_n hx hb dL_law_561 rfl (lv_at hl 1 rfl) ?_
  refine lv_aload_n hx hb dL_law_562 rfl (lv_at hl 3 rfl) ?_
  refine lv_iload_n hx hb dL_law_563 rfl (lv_at hl 0 rfl) ?_
  refine lv_iconst (v := 1) hx hb dL_law_564 (by decide) ?_
  refine lv_iadd hx hb dL_law_565 ?_
  refine xl_i (y := 1) (by decide) ?_
  refine va_sld hx hb hX hbl hbA hS (xin 1 6 (by decide) (by decide)) dL_law_566 ?_
  refine xl_i (y := xs 1) rfl ?_
  refine lv_aload_n hx hb dL_law_567 rfl (lv_at hl 3 rfl) ?_
  refine lv_iload_n hx hb dL_law_568 rfl (lv_at hl 0 rfl) ?_
  refine lv_iconst (v := 2) hx hb dL_law_569 (by decide) ?_
  refine lv_iadd hx hb dL_law_570 ?_
  refine xl_i (y := 2) (by decide) ?_
  refine va_sld hx hb hX hbl hbA hS (xin 2 6 (by decide) (by decide)) dL_law_571 ?_
  refine xl_i (y := xs 2) rfl ?_
  refine xc_Vi (wr := []) hF (c_X9_round l D cI cJ cZ cS sa H.size g0 ys yk yo yt yfa yfe yro yhe ygr yta ywa ybi ysi ynu ymo (xs 1) (xs 2) ) kv_L_57 ⟨rfl, rfl, Nat.le_of_ble_eq_true rfl, Nat.le_of_ble_eq_true rfl⟩ ⟨Nat.le_of_ble_eq_true rfl, Nat.le_of_ble_eq_true rfl⟩ hK hN hP hD hS hA [0, 1, 2] [] rfl rfl rfl rfl (by decide) 0 rfl rfl rfl rfl hl.1 rfl (Nat.le_of_ble_eq_true rfl) dL_law_572 (fun r_2 u_r_2 H locs hw_r_2 hP hD hS => ?_)
  have hP : va_P D vwCl [] H := hP
  have hD : va_D A [] := hD
  subst hw_r_2
  refine lv_icmp_eq (tgt := 1483) hx hb dL_law_575 (by decide) (fun c_3 => ?_) (fun c_3 => absurd (by decide) c_3)
  exact law_end l hF hr hlk hX hbl hbA hAs hS hl
set_option maxHeartbeats 4000000 in
set_option maxRecDepth 100000 in
theorem law_10 {p : Program} {e : Env} {s : State} {m : MethodId} {below : List Frame} {meth : Method} {c : Code} (l : Launch) (D : va_G) (cI cJ cZ cS : ClassId) (sa : Nat → Nat) {b : Nat} {xs : Nat → Int32} (hF : CallFix p m c cL_law 4 s #[Value.ref b] (Cond.initialized RX8 :: wsU) RL) (hr : meth.sig.returnType = ret) (hlk : meth.locks = false) (hK : va_K D vwCl (xT cI cJ cZ cS) s) (hN : XN sa s) (hX : va_X b 6 xs s s.heap) (hbl : b < s.heap.size) {A : Nat → Prop} (hA : ∀ q : Nat, s.heap.size ≤ q → A q) (hbA : ¬ A b) (hAs : ∀ q, A q → s.heap.size ≤ q) (h0 qh qk qd qa qm qs qp ql qt qz qf ae al au ao ar ak aw att ass aRn aRp g0 ys yk yo yt yfa yfe yro yhe ygr yta ywa ybi ysi ynu ymo : Nat) {H : Heap} {locs : List Loc} {ls : Array Slot} (hP : va_P D vwCl [(h0, .inr (8, [.ref qh, .ref qk, .ref qd, .int 0, .ref qa, .ref qm, .ref qs, .ref qp, .ref ql, .ref qt, .ref qz, .ref qf])), (qh, .inr (1, [.int 0, .ref ae, .ref al, .ref au, .ref ao, .ref ar, .ref ak, .ref aw, .ref att, .ref ass])), (ar, .inr (3, [.int 0, .ref aRn, .ref aRp])), (qf, .inl (cI, 7, .inl (fun _ => 0))), (g0, .inr (9, [.ref ys, .ref yk, .ref yo, .ref yt, .int 0, .ref yfa, .ref yfe, .int 0, .int 0, .int 0, .ref yro, .ref yhe, .ref ygr, .int 0, .int 0, .int 0, .ref yta, .int 0, .int 0, .int 0, .int 0, .int 0, .ref ywa, .ref ybi, .ref ysi, .ref ynu, .ref ymo])), (ys, .inl (cI, 449, .inl (fun _ => 0))), (yt, .inl (cI, 7, .inl (fun _ => 0)))] H) (hD : va_D A [(h0, .inr (8, [.ref qh, .ref qk, .ref qd, .int 0, .ref qa, .ref qm, .ref qs, .ref qp, .ref ql, .ref qt, .ref qz, .ref qf])), (qh, .inr (1, [.int 0, .ref ae, .ref al, .ref au, .ref ao, .ref ar, .ref ak, .ref aw, .ref att, .ref ass])), (ar, .inr (3, [.int 0, .ref aRn, .ref aRp])), (qf, .inl (cI, 7, .inl (fun _ => 0))), (g0, .inr (9, [.ref ys, .ref yk, .ref yo, .ref yt, .int 0, .ref yfa, .ref yfe, .int 0, .int 0, .int 0, .ref yro, .ref yhe, .ref ygr, .int 0, .int 0, .int 0, .ref yta, .int 0, .int 0, .int 0, .int 0, .int 0, .ref ywa, .ref ybi, .ref ysi, .ref ynu, .ref ymo])), (ys, .inl (cI, 449, .inl (fun _ => 0))), (yt, .inl (cI, 7, .inl (fun _ => 0)))]) (hS : va_S A s.heap H locs) (hl : lv_has ls 4 [(3, .int 0), (2, .ref g0), (1, .ref h0), (0, .ref b)]) : W p l e room_1 s m #[Value.ref b] below meth c H locs 82 4273 (lw_Z below #[Value.ref b] s) (F0 m 580 ls []) := by
  have hx := hF.1
  have hb := hF.2.1
  have hml := hF.2.2.1
  have hown := hF.2.2.2.1
  have hu : ∀ w ∈ wsU, w.before _ s = true := fun w h => hF.2.2.2.2 w (List.mem_cons_of_mem _ h)
  refine lv_aload_n hx hb dL_law_580 rfl (lv_at hl 2 rfl) ?_
  refine lv_aload_n hx hb dL_law_581 rfl (lv_at hl 3 rfl) ?_
  refine lv_iload_n hx hb dL_law_582 rfl (lv_at hl 0 rfl) ?_
  refine lv_iconst (v := 1) hx hb dL_law_583 (by decide) ?_
  refine lv_iadd hx hb dL_law_584 ?_
  refine xl_i (y := 1) (by decide) ?_
  refine va_sld hx hb hX hbl hbA hS (xin 1 6 (by decide) (by decide)) dL_law_585 ?_
  refine xl_i (y := xs 1) rfl ?_
  refine lv_aload_n hx hb dL_law_586 rfl (lv_at hl 3 rfl) ?_
  refine lv_iload_n hx hb dL_law_587 rfl (lv_at hl 0 rfl) ?_
  refine lv_iconst (v := 2) hx hb dL_law_588 (by decide) ?_
  refine lv_iadd hx hb dL_law_589 ?_
  refine xl_i (y := 2) (by decide) ?_
  refine va_sld hx hb hX hbl hbA hS (xin 2 6 (by decide) (by decide)) dL_law_590 ?_
  refine xl_i (y := xs 2) rfl ?_
  refine xc_Vi (wr := [(g0, .inr (9, [.ref ys, .ref yk, .ref yo, .ref yt, .int 0, .ref yfa, .ref yfe, .int 0, .int 0, .int 0, .ref yro, .ref yhe, .ref ygr, .int 0, .int 0, .int 0, .ref yta, .int 0, .int 0, .int 0, .int 0, .int 0, .ref ywa, .ref ybi, .ref ysi, .ref ynu, .ref ymo])), (ys, .inl (cI, 449, .inl (fun _ => 0))), (yt, .inl (cI, 7, .inl (fun _ => 0)))]) hF (c_X8_over l D cI cJ cZ cS sa H.size h0 qh qk qd qa qm qs qp ql qt qz qf ae al au ao ar ak aw att ass aRn aRp (xs 1) (xs 2) ) kv_L_58 ⟨rfl, rfl, Nat.le_of_ble_eq_true rfl, Nat.le_of_ble_eq_true rfl⟩ ⟨Nat.le_of_ble_eq_true rfl, Nat.le_of_ble_eq_true rfl⟩ hK hN hP hD hS hA [0, 1, 2, 3] [4, 5, 6] rfl rfl rfl rfl (by decide) 0 rfl rfl rfl rfl hl.1 rfl (Nat.le_of_ble_eq_true rfl) dL_law_591 (fun r_1 u_r_1 H locs hw_r_1 hP hD hS => ?_)
  have hP : va_P D vwCl [(g0, .inr (9, [.ref ys, .ref yk, .ref yo, .ref yt, .int 0, .ref yfa, .ref yfe, .int 0, .int 0, .int 0, .ref yro, .ref yhe, .ref ygr, .int 0, .int 0, .int 0, .ref yta, .int 0, .int 0, .int 0, .int 0, .int 0, .ref ywa, .ref ybi, .ref ysi, .ref ynu, .ref ymo])), (ys, .inl (cI, 449, .inl (fun _ => 0))), (yt, .inl (cI, 7, .inl (fun _ => 0)))] H := hP
  have hD : va_D A [(g0, .inr (9, [.ref ys, .ref yk, .ref yo, .ref yt, .int 0, .ref yfa, .ref yfe, .int 0, .int 0, .int 0, .ref yro, .ref yhe, .ref ygr, .int 0, .int 0, .int 0, .ref yta, .int 0, .int 0, .int 0, .int 0, .int 0, .ref ywa, .ref ybi, .ref ysi, .ref ynu, .ref ymo])), (ys, .inl (cI, 449, .inl (fun _ => 0))), (yt, .inl (cI, 7, .inl (fun _ => 0)))] := hD
  subst hw_r_1
  refine lv_aload_n hx hb dL_law_594 rfl (lv_at hl 1 rfl) ?_
  refine lv_aload_n hx hb dL_law_595 rfl (lv_at hl 3 rfl) ?_
  refine lv_iload_n hx hb dL_law_596 rfl (lv_at hl 0 rfl) ?_
  refine lv_iconst (v := 1) hx hb dL_law_597 (by decide) ?_
  refine lv_iadd hx hb dL_law_598 ?_
  refine xl_i (y := 1) (by decide) ?_
  refine va_sld hx hb hX hbl hbA hS (xin 1 6 (by decide) (by decide)) dL_law_599 ?_
  refine xl_i (y := xs 1) rfl ?_
  refine lv_aload_n hx hb dL_law_600 rfl (lv_at hl 3 rfl) ?_
  refine lv_iload_n hx hb dL_law_601 rfl (lv_at hl 0 rfl) ?_
  refine lv_iconst (v := 2) hx hb dL_law_602 (by decide) ?_
  refine lv_iadd hx hb dL_law_603 ?_
  refine xl_i (y := 2) (by decide) ?_
  refine va_sld hx hb hX hbl hbA hS (xin 2 6 (by decide) (by decide)) dL_law_604 ?_
  refine xl_i (y := xs 2) rfl ?_
  refine xc_Vi (wr := []) hF (c_X9_over l D cI cJ cZ cS sa H.size g0 ys yk yo yt yfa yfe yro yhe ygr yta ywa ybi ysi ynu ymo (xs 1) (xs 2) ) kv_L_61 ⟨rfl, rfl, Nat.le_of_ble_eq_true rfl, Nat.le_of_ble_eq_true rfl⟩ ⟨Nat.le_of_ble_eq_true rfl, Nat.le_of_ble_eq_true rfl⟩ hK hN hP hD hS hA [0, 1, 2] [] rfl rfl rfl rfl (by decide) 0 rfl rfl rfl rfl hl.1 rfl (Nat.le_of_ble_eq_true rfl) dL_law_605 (fun r_2 u_r_2 H locs hw_r_2 hP hD hS => ?_)
  have hP : va_P D vwCl [] H := hP
  have hD : va_D A [] := hD
  subst hw_r_2
  refine lv_icmp_eq (tgt := 1483) hx hb dL_law_608 (by decide) (fun c_3 => ?_) (fun c_3 => absurd (by decide) c_3)
  exact law_end l hF hr hlk hX hbl hbA hAs hS hl
