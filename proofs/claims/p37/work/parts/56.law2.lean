set_option maxHeartbeats 4000000 in
set_option maxRecDepth 100000 in
theorem law_30 {p : Program} {e : Env} {s : State} {m : MethodId} {below : List Frame} {meth : Method} {c : Code} (l : Launch) (D : va_G) (cI cJ cZ cS : ClassId) (ta : Nat) (sa sv : Nat → Nat) {b L : Nat} {xs : Nat → Int32} {A : Nat → Prop} (hL : L ≤ 3072) (hF : CallFix p m c cL_law 4 s #[Value.ref b] (Cond.initialized RX8 :: wsU) RL) (hr : meth.sig.returnType = ret) (hlk : meth.locks = false) (hK : va_K D vwCl (xT cI cJ cZ cS) s) (hN : XN sa s) (hX : va_X b L xs s s.heap) (hbl : b < s.heap.size) (hA : ∀ q : Nat, s.heap.size ≤ q → A q) (hbA : ¬ A b) (hAs : ∀ q, A q → s.heap.size ≤ q) (hZ : ST ta sa sv A s s.heap) (h0 g0 i : Nat) (hi : i + 6 ≤ L) (qh : Nat) (qk : Nat) (qd : Nat) (b0 : Int32) (qa : Nat) (qm : Nat) (qs : Nat) (qp : Nat) (ql : Nat) (qt : Nat) (qz : Nat) (qf : Nat) (Pa : Nat) (ae : Nat) (al : Nat) (au : Nat) (ao : Nat) (ar : Nat) (ak : Nat) (aw : Nat) (att : Nat) (ass : Nat) (fal : Nat → Int32) (fao : Nat → Int32) (m_ys : Nat) (m_yk : Nat) (m_yo : Nat) (m_yt : Nat) (m_yfa : Nat) (m_yfe : Nat) (m_mL : Int32) (m_mS : Int32) (m_mM : Int32) (m_yro : Nat) (m_yhe : Nat) (m_ygr : Nat) (m_mF : Int32) (m_mC : Int32) (m_mY : Int32) (m_yta : Nat) (z : Nat) (m_mf : Nat) (m_mt : Nat) (m_mv : Int32) (m_mw : Int32) (m_ywa : Nat) (m_ybi : Nat) (m_ysi : Nat) (m_ynu : Nat) (m_ymo : Nat) (m_ms : Nat → Int32) (m_P : Nat) (m_Rn : Nat) (m_Wn : Nat) {tl : va_W} {H : Heap} {locs : List Loc} {ls : Array Slot} (hP : va_P D vwCl ([(h0, .inr (8, [.ref qh, .ref qk, .ref qd, .int b0, .ref qa, .ref qm, .ref qs, .ref qp, .ref ql, .ref qt, .ref qz, .ref qf])), (qh, .inr (1, [.int (nI (Pa)), .ref ae, .ref al, .ref au, .ref ao, .ref ar, .ref ak, .ref aw, .ref att, .ref ass])), (al, .inl (cI, 100, .inl fal)), (ao, .inl (cI, 100, .inl fao)), (g0, .inr (9, [.ref m_ys, .ref m_yk, .ref m_yo, .ref m_yt, .int b0, .ref m_yfa, .ref m_yfe, .int m_mL, .int m_mS, .int m_mM, .ref m_yro, .ref m_yhe, .ref m_ygr, .int m_mF, .int m_mC, .int m_mY, .ref m_yta, .int (nI (z)), .int (nI (m_mf)), .int (nI (m_mt)), .int m_mv, .int m_mw, .ref m_ywa, .ref m_ybi, .ref m_ysi, .ref m_ynu, .ref m_ymo])), (m_ys, .inl (cI, 449, .inl m_ms))] ++ tl) H) (hD : va_D A ([(h0, .inr (8, [.ref qh, .ref qk, .ref qd, .int b0, .ref qa, .ref qm, .ref qs, .ref qp, .ref ql, .ref qt, .ref qz, .ref qf])), (qh, .inr (1, [.int (nI (Pa)), .ref ae, .ref al, .ref au, .ref ao, .ref ar, .ref ak, .ref aw, .ref att, .ref ass])), (al, .inl (cI, 100, .inl fal)), (ao, .inl (cI, 100, .inl fao)), (g0, .inr (9, [.ref m_ys, .ref m_yk, .ref m_yo, .ref m_yt, .int b0, .ref m_yfa, .ref m_yfe, .int m_mL, .int m_mS, .int m_mM, .ref m_yro, .ref m_yhe, .ref m_ygr, .int m_mF, .int m_mC, .int m_mY, .ref m_yta, .int (nI (z)), .int (nI (m_mf)), .int (nI (m_mt)), .int m_mv, .int m_mw, .ref m_ywa, .ref m_ybi, .ref m_ysi, .ref m_ynu, .ref m_ymo])), (m_ys, .inl (cI, 449, .inl m_ms))] ++ tl)) (hP0 : Pa ≤ 10) (hz : z ≤ 120) (m_hs0 : m_ms 0 = nI m_P) (m_hs1 : m_ms 1 = nI m_Rn) (m_hs2 : m_ms 2 = nI m_Wn) (m_hsS : SI m_ms) (m_hsM : MI m_ms) (m_hsp : m_P ≤ 10) (m_hsr : m_Rn ≤ 8) (m_hsw : m_Wn ≤ 8) (m_hsR : RI m_Rn m_ms) (hS : va_S A s.heap H locs) (hl : lv_has ls 4 [(3, .int (nI i)), (2, .ref g0), (1, .ref h0), (0, .ref b)]) (kkx : ∀ (H : Heap) (locs : List Loc) (ls : Array Slot), va_P D vwCl ([(h0, .inr (8, [.ref qh, .ref qk, .ref qd, .int b0, .ref qa, .ref qm, .ref qs, .ref qp, .ref ql, .ref qt, .ref qz, .ref qf])), (qh, .inr (1, [.int (nI (Pa)), .ref ae, .ref al, .ref au, .ref ao, .ref ar, .ref ak, .ref aw, .ref att, .ref ass])), (al, .inl (cI, 100, .inl fal)), (ao, .inl (cI, 100, .inl fao)), (g0, .inr (9, [.ref m_ys, .ref m_yk, .ref m_yo, .ref m_yt, .int b0, .ref m_yfa, .ref m_yfe, .int m_mL, .int m_mS, .int m_mM, .ref m_yro, .ref m_yhe, .ref m_ygr, .int m_mF, .int m_mC, .int m_mY, .ref m_yta, .int (nI (z)), .int (nI (m_mf)), .int (nI (m_mt)), .int m_mv, .int m_mw, .ref m_ywa, .ref m_ybi, .ref m_ysi, .ref m_ynu, .ref m_ymo])), (m_ys, .inl (cI, 449, .inl m_ms))] ++ tl) H → va_D A ([(h0, .inr (8, [.ref qh, .ref qk, .ref qd, .int b0, .ref qa, .ref qm, .ref qs, .ref qp, .ref ql, .ref qt, .ref qz, .ref qf])), (qh, .inr (1, [.int (nI (Pa)), .ref ae, .ref al, .ref au, .ref ao, .ref ar, .ref ak, .ref aw, .ref att, .ref ass])), (al, .inl (cI, 100, .inl fal)), (ao, .inl (cI, 100, .inl fao)), (g0, .inr (9, [.ref m_ys, .ref m_yk, .ref m_yo, .ref m_yt, .int b0, .ref m_yfa, .ref m_yfe, .int m_mL, .int m_mS, .int m_mM, .ref m_yro, .ref m_yhe, .ref m_ygr, .int m_mF, .int m_mC, .int m_mY, .ref m_yta, .int (nI (z)), .int (nI (m_mf)), .int (nI (m_mt)), .int m_mv, .int m_mw, .ref m_ywa, .ref m_ybi, .ref m_ysi, .ref m_ynu, .ref m_ymo])), (m_ys, .inl (cI, 449, .inl m_ms))] ++ tl) → va_S A s.heap H locs → lv_has ls 4 [(3, .int (nI i)), (2, .ref g0), (1, .ref h0), (0, .ref b)] → W p l e room_1 s m #[Value.ref b] below meth c H locs 82 4273 (lw_Z below #[Value.ref b] s) (F0 m 1483 ls [])) : W p l e room_1 s m #[Value.ref b] below meth c H locs 82 4273 (lw_Z below #[Value.ref b] s) (F0 m 1090 ls []) := by
  have hx := hF.1
  have hb := hF.2.1
  have hml := hF.2.2.1
  have hown := hF.2.2.2.1
  have hu : ∀ w ∈ wsU, w.before _ s = true := fun w h => hF.2.2.2.2 w (List.mem_cons_of_mem _ h)
  refine lv_aload_n hx hb dL_law_1090 rfl (lv_at hl 2 rfl) ?_
  refine xc_ViT (wr := [(g0, .inr (9, [.ref m_ys, .ref m_yk, .ref m_yo, .ref m_yt, .int b0, .ref m_yfa, .ref m_yfe, .int m_mL, .int m_mS, .int m_mM, .ref m_yro, .ref m_yhe, .ref m_ygr, .int m_mF, .int m_mC, .int m_mY, .ref m_yta, .int (nI (z)), .int (nI (m_mf)), .int (nI (m_mt)), .int m_mv, .int m_mw, .ref m_ywa, .ref m_ybi, .ref m_ysi, .ref m_ynu, .ref m_ymo])), (m_ys, .inl (cI, 449, .inl m_ms))]) hF (c_X8_hollow l D cI cJ cZ cS ta sa sv H.size h0 qh qk qd b0 qa qm qs qp ql qt qz qf Pa ae al au ao ar ak aw att ass fal fao hP0) kv_L_139 ⟨rfl, rfl, Nat.le_of_ble_eq_true rfl, Nat.le_of_ble_eq_true rfl⟩ ⟨Nat.le_of_ble_eq_true rfl, Nat.le_of_ble_eq_true rfl⟩ hK hN hZ hP hD hS hA [0, 1, 2, 3] [4, 5] rfl rfl rfl rfl (by decide) 0 rfl rfl rfl rfl hl.1 rfl (Nat.le_of_ble_eq_true rfl) dL_law_1091 (fun r_1 u_r_1 H locs hw_r_1 hP hD hS => ?_)
  have hP : va_P D vwCl ([(g0, .inr (9, [.ref m_ys, .ref m_yk, .ref m_yo, .ref m_yt, .int b0, .ref m_yfa, .ref m_yfe, .int m_mL, .int m_mS, .int m_mM, .ref m_yro, .ref m_yhe, .ref m_ygr, .int m_mF, .int m_mC, .int m_mY, .ref m_yta, .int (nI (z)), .int (nI (m_mf)), .int (nI (m_mt)), .int m_mv, .int m_mw, .ref m_ywa, .ref m_ybi, .ref m_ysi, .ref m_ynu, .ref m_ymo])), (m_ys, .inl (cI, 449, .inl m_ms)), (h0, .inr (8, [.ref qh, .ref qk, .ref qd, .int b0, .ref qa, .ref qm, .ref qs, .ref qp, .ref ql, .ref qt, .ref qz, .ref qf])), (qh, .inr (1, [.int (nI (Pa)), .ref ae, .ref al, .ref au, .ref ao, .ref ar, .ref ak, .ref aw, .ref att, .ref ass])), (al, .inl (cI, 100, .inl fal)), (ao, .inl (cI, 100, .inl fao))] ++ tl) H := hP
  have hD : va_D A ([(g0, .inr (9, [.ref m_ys, .ref m_yk, .ref m_yo, .ref m_yt, .int b0, .ref m_yfa, .ref m_yfe, .int m_mL, .int m_mS, .int m_mM, .ref m_yro, .ref m_yhe, .ref m_ygr, .int m_mF, .int m_mC, .int m_mY, .ref m_yta, .int (nI (z)), .int (nI (m_mf)), .int (nI (m_mt)), .int m_mv, .int m_mw, .ref m_ywa, .ref m_ybi, .ref m_ysi, .ref m_ynu, .ref m_ymo])), (m_ys, .inl (cI, 449, .inl m_ms)), (h0, .inr (8, [.ref qh, .ref qk, .ref qd, .int b0, .ref qa, .ref qm, .ref qs, .ref qp, .ref ql, .ref qt, .ref qz, .ref qf])), (qh, .inr (1, [.int (nI (Pa)), .ref ae, .ref al, .ref au, .ref ao, .ref ar, .ref ak, .ref aw, .ref att, .ref ass])), (al, .inl (cI, 100, .inl fal)), (ao, .inl (cI, 100, .inl fao))] ++ tl) := hD
  refine lv_pop hx hb dL_law_1094 rfl ?_
  refine lv_aload_n hx hb dL_law_1095 rfl (lv_at hl 1 rfl) ?_
  refine xc_VrT hF (c_X9_hollow l D cI cJ cZ cS ta sa sv H.size g0 m_ys m_yk m_yo m_yt b0 m_yfa m_yfe m_mL m_mS m_mM m_yro m_yhe m_ygr m_mF m_mC m_mY m_yta z m_mf m_mt m_mv m_mw m_ywa m_ybi m_ysi m_ynu m_ymo m_ms m_P m_Rn m_Wn m_hs0 m_hs1 m_hs2 m_hsS m_hsM m_hsp m_hsr m_hsw m_hsR) kv_L_142 ⟨rfl, rfl, Nat.le_of_ble_eq_true rfl, Nat.le_of_ble_eq_true rfl⟩ ⟨Nat.le_of_ble_eq_true rfl, Nat.le_of_ble_eq_true rfl⟩ hK hN hZ hP hD hS hA [0, 1] rfl rfl 0 rfl rfl rfl rfl hl.1 rfl (Nat.le_of_ble_eq_true rfl) dL_law_1096 (fun r_2 hw_r_2 => ?_)
  refine lv_pop hx hb dL_law_1099 rfl ?_
  refine lv_goto (tgt := 1483) hx hb dL_law_1100 (by decide) ?_
  exact kkx _ _ _  (xt_P hP [2, 3, 4, 5, 0, 1] rfl) (xt_D hD [2, 3, 4, 5, 0, 1] (by decide +kernel) rfl)  hS hl
set_option maxHeartbeats 4000000 in
set_option maxRecDepth 100000 in
theorem law_31 {p : Program} {e : Env} {s : State} {m : MethodId} {below : List Frame} {meth : Method} {c : Code} (l : Launch) (D : va_G) (cI cJ cZ cS : ClassId) (ta : Nat) (sa sv : Nat → Nat) {b L : Nat} {xs : Nat → Int32} {A : Nat → Prop} (hL : L ≤ 3072) (hF : CallFix p m c cL_law 4 s #[Value.ref b] (Cond.initialized RX8 :: wsU) RL) (hr : meth.sig.returnType = ret) (hlk : meth.locks = false) (hK : va_K D vwCl (xT cI cJ cZ cS) s) (hN : XN sa s) (hX : va_X b L xs s s.heap) (hbl : b < s.heap.size) (hA : ∀ q : Nat, s.heap.size ≤ q → A q) (hbA : ¬ A b) (hAs : ∀ q, A q → s.heap.size ≤ q) (hZ : ST ta sa sv A s s.heap) (h0 g0 i : Nat) (hi : i + 6 ≤ L) (qh : Nat) (qk : Nat) (qd : Nat) (b0 : Int32) (qa : Nat) (qm : Nat) (qs : Nat) (qp : Nat) (ql : Nat) (qt : Nat) (qz : Nat) (qf : Nat) (z : Nat) (tb : Nat) (tk : Int32) (s9 : Nat) (x9 : Nat) (v9 : Nat) (t9 : Int32) (by9 : Nat → Int32) (ff : Nat → Int32) (m_ys : Nat) (m_yk : Nat) (m_yo : Nat) (m_yt : Nat) (m_yfa : Nat) (m_yfe : Nat) (m_mL : Int32) (m_mS : Int32) (m_mM : Int32) (m_yro : Nat) (m_yhe : Nat) (m_ygr : Nat) (m_mF : Int32) (m_mC : Int32) (m_mY : Int32) (m_yta : Nat) (m_mf : Nat) (m_mt : Nat) (m_mv : Int32) (m_mw : Int32) (m_ywa : Nat) (m_ybi : Nat) (m_ysi : Nat) (m_ynu : Nat) (m_ymo : Nat) (m_mq : Nat → Int32) (m_tp : Nat → Int32) {tl : va_W} {H : Heap} {locs : List Loc} {ls : Array Slot} (hP : va_P D vwCl ([(h0, .inr (8, [.ref qh, .ref qk, .ref qd, .int b0, .ref qa, .ref qm, .ref qs, .ref qp, .ref ql, .ref qt, .ref qz, .ref qf])), (qt, .inr (7, [.int (nI (z)), .ref tb, .int tk, .int (nI (s9)), .int (nI (x9)), .int (nI (v9)), .int t9])), (tb, .inl (cI, 120, .inl by9)), (qf, .inl (cI, 7, .inl ff)), (g0, .inr (9, [.ref m_ys, .ref m_yk, .ref m_yo, .ref m_yt, .int b0, .ref m_yfa, .ref m_yfe, .int m_mL, .int m_mS, .int m_mM, .ref m_yro, .ref m_yhe, .ref m_ygr, .int m_mF, .int m_mC, .int m_mY, .ref m_yta, .int (nI (z)), .int (nI (m_mf)), .int (nI (m_mt)), .int m_mv, .int m_mw, .ref m_ywa, .ref m_ybi, .ref m_ysi, .ref m_ynu, .ref m_ymo])), (m_yt, .inl (cI, 7, .inl m_mq)), (m_yta, .inl (cI, 120, .inl m_tp))] ++ tl) H) (hD : va_D A ([(h0, .inr (8, [.ref qh, .ref qk, .ref qd, .int b0, .ref qa, .ref qm, .ref qs, .ref qp, .ref ql, .ref qt, .ref qz, .ref qf])), (qt, .inr (7, [.int (nI (z)), .ref tb, .int tk, .int (nI (s9)), .int (nI (x9)), .int (nI (v9)), .int t9])), (tb, .inl (cI, 120, .inl by9)), (qf, .inl (cI, 7, .inl ff)), (g0, .inr (9, [.ref m_ys, .ref m_yk, .ref m_yo, .ref m_yt, .int b0, .ref m_yfa, .ref m_yfe, .int m_mL, .int m_mS, .int m_mM, .ref m_yro, .ref m_yhe, .ref m_ygr, .int m_mF, .int m_mC, .int m_mY, .ref m_yta, .int (nI (z)), .int (nI (m_mf)), .int (nI (m_mt)), .int m_mv, .int m_mw, .ref m_ywa, .ref m_ybi, .ref m_ysi, .ref m_ynu, .ref m_ymo])), (m_yt, .inl (cI, 7, .inl m_mq)), (m_yta, .inl (cI, 120, .inl m_tp))] ++ tl)) (hz : z ≤ 120) (hs9 : s9 ≤ 120) (hx9 : x9 ≤ 120) (hv9 : v9 ≤ 10000) (hS : va_S A s.heap H locs) (hl : lv_has ls 4 [(3, .int (nI i)), (2, .ref g0), (1, .ref h0), (0, .ref b)]) (kkx : ∀ (H : Heap) (locs : List Loc) (ls : Array Slot) (z_n : Nat) (by9_n : Nat → Int32) (ff_n : Nat → Int32) (m_mq_n : Nat → Int32) (m_tp_n : Nat → Int32), va_P D vwCl ([(h0, .inr (8, [.ref qh, .ref qk, .ref qd, .int b0, .ref qa, .ref qm, .ref qs, .ref qp, .ref ql, .ref qt, .ref qz, .ref qf])), (qt, .inr (7, [.int (nI (z_n)), .ref tb, .int tk, .int (nI (s9)), .int (nI (x9)), .int (nI (v9)), .int t9])), (tb, .inl (cI, 120, .inl by9_n)), (qf, .inl (cI, 7, .inl ff_n)), (g0, .inr (9, [.ref m_ys, .ref m_yk, .ref m_yo, .ref m_yt, .int b0, .ref m_yfa, .ref m_yfe, .int m_mL, .int m_mS, .int m_mM, .ref m_yro, .ref m_yhe, .ref m_ygr, .int m_mF, .int m_mC, .int m_mY, .ref m_yta, .int (nI (z_n)), .int (nI (m_mf)), .int (nI (m_mt)), .int m_mv, .int m_mw, .ref m_ywa, .ref m_ybi, .ref m_ysi, .ref m_ynu, .ref m_ymo])), (m_yt, .inl (cI, 7, .inl m_mq_n)), (m_yta, .inl (cI, 120, .inl m_tp_n))] ++ tl) H → va_D A ([(h0, .inr (8, [.ref qh, .ref qk, .ref qd, .int b0, .ref qa, .ref qm, .ref qs, .ref qp, .ref ql, .ref qt, .ref qz, .ref qf])), (qt, .inr (7, [.int (nI (z_n)), .ref tb, .int tk, .int (nI (s9)), .int (nI (x9)), .int (nI (v9)), .int t9])), (tb, .inl (cI, 120, .inl by9_n)), (qf, .inl (cI, 7, .inl ff_n)), (g0, .inr (9, [.ref m_ys, .ref m_yk, .ref m_yo, .ref m_yt, .int b0, .ref m_yfa, .ref m_yfe, .int m_mL, .int m_mS, .int m_mM, .ref m_yro, .ref m_yhe, .ref m_ygr, .int m_mF, .int m_mC, .int m_mY, .ref m_yta, .int (nI (z_n)), .int (nI (m_mf)), .int (nI (m_mt)), .int m_mv, .int m_mw, .ref m_ywa, .ref m_ybi, .ref m_ysi, .ref m_ynu, .ref m_ymo])), (m_yt, .inl (cI, 7, .inl m_mq_n)), (m_yta, .inl (cI, 120, .inl m_tp_n))] ++ tl) → (z_n ≤ 120) → va_S A s.heap H locs → lv_has ls 4 [(3, .int (nI i)), (2, .ref g0), (1, .ref h0), (0, .ref b)] → W p l e room_1 s m #[Value.ref b] below meth c H locs 82 4273 (lw_Z below #[Value.ref b] s) (F0 m 1483 ls [])) : W p l e room_1 s m #[Value.ref b] below meth c H locs 82 4273 (lw_Z below #[Value.ref b] s) (F0 m 1103 ls []) := by
  have hx := hF.1
  have hb := hF.2.1
  have hml := hF.2.2.1
  have hown := hF.2.2.2.1
  have hu : ∀ w ∈ wsU, w.before _ s = true := fun w h => hF.2.2.2.2 w (List.mem_cons_of_mem _ h)
  refine lv_aload_n hx hb dL_law_1103 rfl (lv_at hl 2 rfl) ?_
  refine lv_aload_n hx hb dL_law_1104 rfl (lv_at hl 3 rfl) ?_
  refine lv_iload_n hx hb dL_law_1105 rfl (lv_at hl 0 rfl) ?_
  refine lv_iconst (v := 1) hx hb dL_law_1106 (by decide) ?_
  refine lv_iadd hx hb dL_law_1107 ?_
  refine xl_i (y := nI (i + 1)) (nI_add i 1) ?_
  refine va_sld hx hb hX hbl hbA hS (x_si (k := 1) (by decide) hi hL) dL_law_1108 ?_
  refine xl_i (y := xs (i + 1)) (congrArg xs (x_sc (k := 1) (by decide) hi hL)) ?_
  refine lv_aload_n hx hb dL_law_1109 rfl (lv_at hl 3 rfl) ?_
  refine lv_iload_n hx hb dL_law_1110 rfl (lv_at hl 0 rfl) ?_
  refine lv_iconst (v := 2) hx hb dL_law_1111 (by decide) ?_
  refine lv_iadd hx hb dL_law_1112 ?_
  refine xl_i (y := nI (i + 2)) (nI_add i 2) ?_
  refine va_sld hx hb hX hbl hbA hS (x_si (k := 2) (by decide) hi hL) dL_law_1113 ?_
  refine xl_i (y := xs (i + 2)) (congrArg xs (x_sc (k := 2) (by decide) hi hL)) ?_
  refine xc_ViT (wr := [(g0, .inr (9, [.ref m_ys, .ref m_yk, .ref m_yo, .ref m_yt, .int b0, .ref m_yfa, .ref m_yfe, .int m_mL, .int m_mS, .int m_mM, .ref m_yro, .ref m_yhe, .ref m_ygr, .int m_mF, .int m_mC, .int m_mY, .ref m_yta, .int (nI (z)), .int (nI (m_mf)), .int (nI (m_mt)), .int m_mv, .int m_mw, .ref m_ywa, .ref m_ybi, .ref m_ysi, .ref m_ynu, .ref m_ymo])), (m_yt, .inl (cI, 7, .inl m_mq)), (m_yta, .inl (cI, 120, .inl m_tp))]) hF (c_X8_feed l D cI cJ cZ cS ta sa sv H.size h0 qh qk qd b0 qa qm qs qp ql qt qz qf z tb tk s9 x9 v9 t9 by9 ff (xs (i + 1)) (xs (i + 2)) hz hs9 hx9 hv9) kv_L_143 ⟨rfl, rfl, Nat.le_of_ble_eq_true rfl, Nat.le_of_ble_eq_true rfl⟩ ⟨Nat.le_of_ble_eq_true rfl, Nat.le_of_ble_eq_true rfl⟩ hK hN hZ hP hD hS hA [0, 1, 2, 3] [4, 5, 6] rfl rfl rfl rfl (by decide) 0 rfl rfl rfl rfl hl.1 rfl (Nat.le_of_ble_eq_true rfl) dL_law_1114 (fun r_1 u_r_1 H locs hw_r_1 hP hD hS => ?_)
  obtain ⟨z2_2, y2_3, f2_4⟩ := u_r_1
  try dsimp only at hw_r_1
  obtain ⟨hw_r_1, i_5, i_6⟩ := hw_r_1
  subst i_5
  have hP : va_P D vwCl ([(g0, .inr (9, [.ref m_ys, .ref m_yk, .ref m_yo, .ref m_yt, .int b0, .ref m_yfa, .ref m_yfe, .int m_mL, .int m_mS, .int m_mM, .ref m_yro, .ref m_yhe, .ref m_ygr, .int m_mF, .int m_mC, .int m_mY, .ref m_yta, .int (nI (z)), .int (nI (m_mf)), .int (nI (m_mt)), .int m_mv, .int m_mw, .ref m_ywa, .ref m_ybi, .ref m_ysi, .ref m_ynu, .ref m_ymo])), (m_yt, .inl (cI, 7, .inl m_mq)), (m_yta, .inl (cI, 120, .inl m_tp)), (h0, .inr (8, [.ref qh, .ref qk, .ref qd, .int b0, .ref qa, .ref qm, .ref qs, .ref qp, .ref ql, .ref qt, .ref qz, .ref qf])), (qt, .inr (7, [.int (nI ((sp_fz z (xs (i + 2))))), .ref tb, .int tk, .int (nI (s9)), .int (nI (x9)), .int (nI (v9)), .int t9])), (tb, .inl (cI, 120, .inl y2_3)), (qf, .inl (cI, 7, .inl f2_4))] ++ tl) H := hP
  have hD : va_D A ([(g0, .inr (9, [.ref m_ys, .ref m_yk, .ref m_yo, .ref m_yt, .int b0, .ref m_yfa, .ref m_yfe, .int m_mL, .int m_mS, .int m_mM, .ref m_yro, .ref m_yhe, .ref m_ygr, .int m_mF, .int m_mC, .int m_mY, .ref m_yta, .int (nI (z)), .int (nI (m_mf)), .int (nI (m_mt)), .int m_mv, .int m_mw, .ref m_ywa, .ref m_ybi, .ref m_ysi, .ref m_ynu, .ref m_ymo])), (m_yt, .inl (cI, 7, .inl m_mq)), (m_yta, .inl (cI, 120, .inl m_tp)), (h0, .inr (8, [.ref qh, .ref qk, .ref qd, .int b0, .ref qa, .ref qm, .ref qs, .ref qp, .ref ql, .ref qt, .ref qz, .ref qf])), (qt, .inr (7, [.int (nI ((sp_fz z (xs (i + 2))))), .ref tb, .int tk, .int (nI (s9)), .int (nI (x9)), .int (nI (v9)), .int t9])), (tb, .inl (cI, 120, .inl y2_3)), (qf, .inl (cI, 7, .inl f2_4))] ++ tl) := hD
  subst hw_r_1
  refine lv_pop hx hb dL_law_1117 rfl ?_
  refine lv_aload_n hx hb dL_law_1118 rfl (lv_at hl 1 rfl) ?_
  refine lv_aload_n hx hb dL_law_1119 rfl (lv_at hl 3 rfl) ?_
  refine lv_iload_n hx hb dL_law_1120 rfl (lv_at hl 0 rfl) ?_
  refine lv_iconst (v := 1) hx hb dL_law_1121 (by decide) ?_
  refine lv_iadd hx hb dL_law_1122 ?_
  refine xl_i (y := nI (i + 1)) (nI_add i 1) ?_
  refine va_sld hx hb hX hbl hbA hS (x_si (k := 1) (by decide) hi hL) dL_law_1123 ?_
  refine xl_i (y := xs (i + 1)) (congrArg xs (x_sc (k := 1) (by decide) hi hL)) ?_
  refine lv_aload_n hx hb dL_law_1124 rfl (lv_at hl 3 rfl) ?_
  refine lv_iload_n hx hb dL_law_1125 rfl (lv_at hl 0 rfl) ?_
  refine lv_iconst (v := 2) hx hb dL_law_1126 (by decide) ?_
  refine lv_iadd hx hb dL_law_1127 ?_
  refine xl_i (y := nI (i + 2)) (nI_add i 2) ?_
  refine va_sld hx hb hX hbl hbA hS (x_si (k := 2) (by decide) hi hL) dL_law_1128 ?_
  refine xl_i (y := xs (i + 2)) (congrArg xs (x_sc (k := 2) (by decide) hi hL)) ?_
  refine xc_ViT (wr := [(h0, .inr (8, [.ref qh, .ref qk, .ref qd, .int b0, .ref qa, .ref qm, .ref qs, .ref qp, .ref ql, .ref qt, .ref qz, .ref qf])), (qt, .inr (7, [.int (nI ((sp_fz z (xs (i + 2))))), .ref tb, .int tk, .int (nI (s9)), .int (nI (x9)), .int (nI (v9)), .int t9])), (tb, .inl (cI, 120, .inl y2_3)), (qf, .inl (cI, 7, .inl f2_4))]) hF (c_X9_feed l D cI cJ cZ cS ta sa sv H.size g0 m_ys m_yk m_yo m_yt b0 m_yfa m_yfe m_mL m_mS m_mM m_yro m_yhe m_ygr m_mF m_mC m_mY m_yta z m_mf m_mt m_mv m_mw m_ywa m_ybi m_ysi m_ynu m_ymo m_tp m_mq (xs (i + 1)) (xs (i + 2)) hz) kv_L_146 ⟨rfl, rfl, Nat.le_of_ble_eq_true rfl, Nat.le_of_ble_eq_true rfl⟩ ⟨Nat.le_of_ble_eq_true rfl, Nat.le_of_ble_eq_true rfl⟩ hK hN hZ hP hD hS hA [0, 2, 1] [3, 4, 5, 6] rfl rfl rfl rfl (by decide) 0 rfl rfl rfl rfl hl.1 rfl (Nat.le_of_ble_eq_true rfl) dL_law_1129 (fun r_7 u_r_7 H locs hw_r_7 hP hD hS => ?_)
  obtain ⟨z2_8, tp2_9, mq2_10⟩ := u_r_7
  try dsimp only at hw_r_7
  obtain ⟨hw_r_7, i_11, i_12⟩ := hw_r_7
  subst i_11
  have hP : va_P D vwCl ([(h0, .inr (8, [.ref qh, .ref qk, .ref qd, .int b0, .ref qa, .ref qm, .ref qs, .ref qp, .ref ql, .ref qt, .ref qz, .ref qf])), (qt, .inr (7, [.int (nI ((sp_fz z (xs (i + 2))))), .ref tb, .int tk, .int (nI (s9)), .int (nI (x9)), .int (nI (v9)), .int t9])), (tb, .inl (cI, 120, .inl y2_3)), (qf, .inl (cI, 7, .inl f2_4)), (g0, .inr (9, [.ref m_ys, .ref m_yk, .ref m_yo, .ref m_yt, .int b0, .ref m_yfa, .ref m_yfe, .int m_mL, .int m_mS, .int m_mM, .ref m_yro, .ref m_yhe, .ref m_ygr, .int m_mF, .int m_mC, .int m_mY, .ref m_yta, .int (nI ((sp_fz z (xs (i + 2))))), .int (nI (m_mf)), .int (nI (m_mt)), .int m_mv, .int m_mw, .ref m_ywa, .ref m_ybi, .ref m_ysi, .ref m_ynu, .ref m_ymo])), (m_yta, .inl (cI, 120, .inl tp2_9)), (m_yt, .inl (cI, 7, .inl mq2_10))] ++ tl) H := hP
  have hD : va_D A ([(h0, .inr (8, [.ref qh, .ref qk, .ref qd, .int b0, .ref qa, .ref qm, .ref qs, .ref qp, .ref ql, .ref qt, .ref qz, .ref qf])), (qt, .inr (7, [.int (nI ((sp_fz z (xs (i + 2))))), .ref tb, .int tk, .int (nI (s9)), .int (nI (x9)), .int (nI (v9)), .int t9])), (tb, .inl (cI, 120, .inl y2_3)), (qf, .inl (cI, 7, .inl f2_4)), (g0, .inr (9, [.ref m_ys, .ref m_yk, .ref m_yo, .ref m_yt, .int b0, .ref m_yfa, .ref m_yfe, .int m_mL, .int m_mS, .int m_mM, .ref m_yro, .ref m_yhe, .ref m_ygr, .int m_mF, .int m_mC, .int m_mY, .ref m_yta, .int (nI ((sp_fz z (xs (i + 2))))), .int (nI (m_mf)), .int (nI (m_mt)), .int m_mv, .int m_mw, .ref m_ywa, .ref m_ybi, .ref m_ysi, .ref m_ynu, .ref m_ymo])), (m_yta, .inl (cI, 120, .inl tp2_9)), (m_yt, .inl (cI, 7, .inl mq2_10))] ++ tl) := hD
  subst hw_r_7
  refine lv_pop hx hb dL_law_1132 rfl ?_
  refine lv_goto (tgt := 1483) hx hb dL_law_1133 (by decide) ?_
  exact kkx _ _ _ (sp_fz z (xs (i + 2))) y2_3 f2_4 mq2_10 tp2_9 (xt_P hP [0, 1, 2, 3, 4, 6, 5] rfl) (xt_D hD [0, 1, 2, 3, 4, 6, 5] (by decide +kernel) rfl) i_12 hS hl
set_option maxHeartbeats 4000000 in
set_option maxRecDepth 100000 in
theorem law_32 {p : Program} {e : Env} {s : State} {m : MethodId} {below : List Frame} {meth : Method} {c : Code} (l : Launch) (D : va_G) (cI cJ cZ cS : ClassId) (ta : Nat) (sa sv : Nat → Nat) {b L : Nat} {xs : Nat → Int32} {A : Nat → Prop} (hL : L ≤ 3072) (hF : CallFix p m c cL_law 4 s #[Value.ref b] (Cond.initialized RX8 :: wsU) RL) (hr : meth.sig.returnType = ret) (hlk : meth.locks = false) (hK : va_K D vwCl (xT cI cJ cZ cS) s) (hN : XN sa s) (hX : va_X b L xs s s.heap) (hbl : b < s.heap.size) (hA : ∀ q : Nat, s.heap.size ≤ q → A q) (hbA : ¬ A b) (hAs : ∀ q, A q → s.heap.size ≤ q) (hZ : ST ta sa sv A s s.heap) (h0 g0 i : Nat) (hi : i + 6 ≤ L) (qh : Nat) (qk : Nat) (qd : Nat) (b0 : Int32) (qa : Nat) (qm : Nat) (qs : Nat) (qp : Nat) (ql : Nat) (qt : Nat) (qz : Nat) (qf : Nat) (z : Nat) (tb : Nat) (tk : Int32) (s9 : Nat) (x9 : Nat) (v9 : Nat) (t9 : Int32) (m_ys : Nat) (m_yk : Nat) (m_yo : Nat) (m_yt : Nat) (m_yfa : Nat) (m_yfe : Nat) (m_mL : Int32) (m_mS : Int32) (m_mM : Int32) (m_yro : Nat) (m_yhe : Nat) (m_ygr : Nat) (m_mF : Int32) (m_mC : Int32) (m_mY : Int32) (m_yta : Nat) (m_mf : Nat) (m_mt : Nat) (m_mv : Int32) (m_mw : Int32) (m_ywa : Nat) (m_ybi : Nat) (m_ysi : Nat) (m_ynu : Nat) (m_ymo : Nat) {tl : va_W} {H : Heap} {locs : List Loc} {ls : Array Slot} (hP : va_P D vwCl ([(h0, .inr (8, [.ref qh, .ref qk, .ref qd, .int b0, .ref qa, .ref qm, .ref qs, .ref qp, .ref ql, .ref qt, .ref qz, .ref qf])), (qt, .inr (7, [.int (nI (z)), .ref tb, .int tk, .int (nI (s9)), .int (nI (x9)), .int (nI (v9)), .int t9])), (g0, .inr (9, [.ref m_ys, .ref m_yk, .ref m_yo, .ref m_yt, .int b0, .ref m_yfa, .ref m_yfe, .int m_mL, .int m_mS, .int m_mM, .ref m_yro, .ref m_yhe, .ref m_ygr, .int m_mF, .int m_mC, .int m_mY, .ref m_yta, .int (nI (z)), .int (nI (m_mf)), .int (nI (m_mt)), .int m_mv, .int m_mw, .ref m_ywa, .ref m_ybi, .ref m_ysi, .ref m_ynu, .ref m_ymo]))] ++ tl) H) (hD : va_D A ([(h0, .inr (8, [.ref qh, .ref qk, .ref qd, .int b0, .ref qa, .ref qm, .ref qs, .ref qp, .ref ql, .ref qt, .ref qz, .ref qf])), (qt, .inr (7, [.int (nI (z)), .ref tb, .int tk, .int (nI (s9)), .int (nI (x9)), .int (nI (v9)), .int t9])), (g0, .inr (9, [.ref m_ys, .ref m_yk, .ref m_yo, .ref m_yt, .int b0, .ref m_yfa, .ref m_yfe, .int m_mL, .int m_mS, .int m_mM, .ref m_yro, .ref m_yhe, .ref m_ygr, .int m_mF, .int m_mC, .int m_mY, .ref m_yta, .int (nI (z)), .int (nI (m_mf)), .int (nI (m_mt)), .int m_mv, .int m_mw, .ref m_ywa, .ref m_ybi, .ref m_ysi, .ref m_ynu, .ref m_ymo]))] ++ tl)) (hz : z ≤ 120) (hs9 : s9 ≤ 120) (hx9 : x9 ≤ 120) (hv9 : v9 ≤ 10000) (hS : va_S A s.heap H locs) (hl : lv_has ls 4 [(3, .int (nI i)), (2, .ref g0), (1, .ref h0), (0, .ref b)]) (kkx : ∀ (H : Heap) (locs : List Loc) (ls : Array Slot) (z_n : Nat), va_P D vwCl ([(h0, .inr (8, [.ref qh, .ref qk, .ref qd, .int b0, .ref qa, .ref qm, .ref qs, .ref qp, .ref ql, .ref qt, .ref qz, .ref qf])), (qt, .inr (7, [.int (nI (z_n)), .ref tb, .int tk, .int (nI (s9)), .int (nI (x9)), .int (nI (v9)), .int t9])), (g0, .inr (9, [.ref m_ys, .ref m_yk, .ref m_yo, .ref m_yt, .int b0, .ref m_yfa, .ref m_yfe, .int m_mL, .int m_mS, .int m_mM, .ref m_yro, .ref m_yhe, .ref m_ygr, .int m_mF, .int m_mC, .int m_mY, .ref m_yta, .int (nI (z_n)), .int (nI (m_mf)), .int (nI (m_mt)), .int m_mv, .int m_mw, .ref m_ywa, .ref m_ybi, .ref m_ysi, .ref m_ynu, .ref m_ymo]))] ++ tl) H → va_D A ([(h0, .inr (8, [.ref qh, .ref qk, .ref qd, .int b0, .ref qa, .ref qm, .ref qs, .ref qp, .ref ql, .ref qt, .ref qz, .ref qf])), (qt, .inr (7, [.int (nI (z_n)), .ref tb, .int tk, .int (nI (s9)), .int (nI (x9)), .int (nI (v9)), .int t9])), (g0, .inr (9, [.ref m_ys, .ref m_yk, .ref m_yo, .ref m_yt, .int b0, .ref m_yfa, .ref m_yfe, .int m_mL, .int m_mS, .int m_mM, .ref m_yro, .ref m_yhe, .ref m_ygr, .int m_mF, .int m_mC, .int m_mY, .ref m_yta, .int (nI (z_n)), .int (nI (m_mf)), .int (nI (m_mt)), .int m_mv, .int m_mw, .ref m_ywa, .ref m_ybi, .ref m_ysi, .ref m_ynu, .ref m_ymo]))] ++ tl) → (z_n ≤ 120) → va_S A s.heap H locs → lv_has ls 4 [(3, .int (nI i)), (2, .ref g0), (1, .ref h0), (0, .ref b)] → W p l e room_1 s m #[Value.ref b] below meth c H locs 82 4273 (lw_Z below #[Value.ref b] s) (F0 m 1483 ls [])) : W p l e room_1 s m #[Value.ref b] below meth c H locs 82 4273 (lw_Z below #[Value.ref b] s) (F0 m 1136 ls []) := by
  have hx := hF.1
  have hb := hF.2.1
  have hml := hF.2.2.1
  have hown := hF.2.2.2.1
  have hu : ∀ w ∈ wsU, w.before _ s = true := fun w h => hF.2.2.2.2 w (List.mem_cons_of_mem _ h)
  refine lv_aload_n hx hb dL_law_1136 rfl (lv_at hl 2 rfl) ?_
  refine xc_ViT (wr := [(g0, .inr (9, [.ref m_ys, .ref m_yk, .ref m_yo, .ref m_yt, .int b0, .ref m_yfa, .ref m_yfe, .int m_mL, .int m_mS, .int m_mM, .ref m_yro, .ref m_yhe, .ref m_ygr, .int m_mF, .int m_mC, .int m_mY, .ref m_yta, .int (nI (z)), .int (nI (m_mf)), .int (nI (m_mt)), .int m_mv, .int m_mw, .ref m_ywa, .ref m_ybi, .ref m_ysi, .ref m_ynu, .ref m_ymo]))]) hF (c_X8_wipe l D cI cJ cZ cS ta sa sv H.size h0 qh qk qd b0 qa qm qs qp ql qt qz qf z tb tk s9 x9 v9 t9 hz hs9 hx9 hv9) kv_L_147 ⟨rfl, rfl, Nat.le_of_ble_eq_true rfl, Nat.le_of_ble_eq_true rfl⟩ ⟨Nat.le_of_ble_eq_true rfl, Nat.le_of_ble_eq_true rfl⟩ hK hN hZ hP hD hS hA [0, 1] [2] rfl rfl rfl rfl (by decide) 0 rfl rfl rfl rfl hl.1 rfl (Nat.le_of_ble_eq_true rfl) dL_law_1137 (fun r_1 u_r_1 H locs hw_r_1 hP hD hS => ?_)
  have hP : va_P D vwCl ([(g0, .inr (9, [.ref m_ys, .ref m_yk, .ref m_yo, .ref m_yt, .int b0, .ref m_yfa, .ref m_yfe, .int m_mL, .int m_mS, .int m_mM, .ref m_yro, .ref m_yhe, .ref m_ygr, .int m_mF, .int m_mC, .int m_mY, .ref m_yta, .int (nI (z)), .int (nI (m_mf)), .int (nI (m_mt)), .int m_mv, .int m_mw, .ref m_ywa, .ref m_ybi, .ref m_ysi, .ref m_ynu, .ref m_ymo])), (h0, .inr (8, [.ref qh, .ref qk, .ref qd, .int b0, .ref qa, .ref qm, .ref qs, .ref qp, .ref ql, .ref qt, .ref qz, .ref qf])), (qt, .inr (7, [.int 0, .ref tb, .int tk, .int (nI (s9)), .int (nI (x9)), .int (nI (v9)), .int t9]))] ++ tl) H := hP
  have hD : va_D A ([(g0, .inr (9, [.ref m_ys, .ref m_yk, .ref m_yo, .ref m_yt, .int b0, .ref m_yfa, .ref m_yfe, .int m_mL, .int m_mS, .int m_mM, .ref m_yro, .ref m_yhe, .ref m_ygr, .int m_mF, .int m_mC, .int m_mY, .ref m_yta, .int (nI (z)), .int (nI (m_mf)), .int (nI (m_mt)), .int m_mv, .int m_mw, .ref m_ywa, .ref m_ybi, .ref m_ysi, .ref m_ynu, .ref m_ymo])), (h0, .inr (8, [.ref qh, .ref qk, .ref qd, .int b0, .ref qa, .ref qm, .ref qs, .ref qp, .ref ql, .ref qt, .ref qz, .ref qf])), (qt, .inr (7, [.int 0, .ref tb, .int tk, .int (nI (s9)), .int (nI (x9)), .int (nI (v9)), .int t9]))] ++ tl) := hD
  subst hw_r_1
  refine lv_pop hx hb dL_law_1140 rfl ?_
  refine lv_aload_n hx hb dL_law_1141 rfl (lv_at hl 1 rfl) ?_
  refine xc_ViT (wr := [(h0, .inr (8, [.ref qh, .ref qk, .ref qd, .int b0, .ref qa, .ref qm, .ref qs, .ref qp, .ref ql, .ref qt, .ref qz, .ref qf])), (qt, .inr (7, [.int 0, .ref tb, .int tk, .int (nI (s9)), .int (nI (x9)), .int (nI (v9)), .int t9]))]) hF (c_X9_wipe l D cI cJ cZ cS ta sa sv H.size g0 m_ys m_yk m_yo m_yt b0 m_yfa m_yfe m_mL m_mS m_mM m_yro m_yhe m_ygr m_mF m_mC m_mY m_yta z m_mf m_mt m_mv m_mw m_ywa m_ybi m_ysi m_ynu m_ymo hz) kv_L_150 ⟨rfl, rfl, Nat.le_of_ble_eq_true rfl, Nat.le_of_ble_eq_true rfl⟩ ⟨Nat.le_of_ble_eq_true rfl, Nat.le_of_ble_eq_true rfl⟩ hK hN hZ hP hD hS hA [0] [1, 2] rfl rfl rfl rfl (by decide) 0 rfl rfl rfl rfl hl.1 rfl (Nat.le_of_ble_eq_true rfl) dL_law_1142 (fun r_2 u_r_2 H locs hw_r_2 hP hD hS => ?_)
  have hP : va_P D vwCl ([(h0, .inr (8, [.ref qh, .ref qk, .ref qd, .int b0, .ref qa, .ref qm, .ref qs, .ref qp, .ref ql, .ref qt, .ref qz, .ref qf])), (qt, .inr (7, [.int 0, .ref tb, .int tk, .int (nI (s9)), .int (nI (x9)), .int (nI (v9)), .int t9])), (g0, .inr (9, [.ref m_ys, .ref m_yk, .ref m_yo, .ref m_yt, .int b0, .ref m_yfa, .ref m_yfe, .int m_mL, .int m_mS, .int m_mM, .ref m_yro, .ref m_yhe, .ref m_ygr, .int m_mF, .int m_mC, .int m_mY, .ref m_yta, .int 0, .int (nI (m_mf)), .int (nI (m_mt)), .int m_mv, .int m_mw, .ref m_ywa, .ref m_ybi, .ref m_ysi, .ref m_ynu, .ref m_ymo]))] ++ tl) H := hP
  have hD : va_D A ([(h0, .inr (8, [.ref qh, .ref qk, .ref qd, .int b0, .ref qa, .ref qm, .ref qs, .ref qp, .ref ql, .ref qt, .ref qz, .ref qf])), (qt, .inr (7, [.int 0, .ref tb, .int tk, .int (nI (s9)), .int (nI (x9)), .int (nI (v9)), .int t9])), (g0, .inr (9, [.ref m_ys, .ref m_yk, .ref m_yo, .ref m_yt, .int b0, .ref m_yfa, .ref m_yfe, .int m_mL, .int m_mS, .int m_mM, .ref m_yro, .ref m_yhe, .ref m_ygr, .int m_mF, .int m_mC, .int m_mY, .ref m_yta, .int 0, .int (nI (m_mf)), .int (nI (m_mt)), .int m_mv, .int m_mw, .ref m_ywa, .ref m_ybi, .ref m_ysi, .ref m_ynu, .ref m_ymo]))] ++ tl) := hD
  subst hw_r_2
  refine lv_pop hx hb dL_law_1145 rfl ?_
  refine lv_goto (tgt := 1483) hx hb dL_law_1146 (by decide) ?_
  exact kkx _ _ _ 0 (xt_P hP [0, 1, 2] rfl) (xt_D hD [0, 1, 2] (by decide +kernel) rfl) (by omega) hS hl
set_option maxHeartbeats 4000000 in
set_option maxRecDepth 100000 in
theorem law_33 {p : Program} {e : Env} {s : State} {m : MethodId} {below : List Frame} {meth : Method} {c : Code} (l : Launch) (D : va_G) (cI cJ cZ cS : ClassId) (ta : Nat) (sa sv : Nat → Nat) {b L : Nat} {xs : Nat → Int32} {A : Nat → Prop} (hL : L ≤ 3072) (hF : CallFix p m c cL_law 4 s #[Value.ref b] (Cond.initialized RX8 :: wsU) RL) (hr : meth.sig.returnType = ret) (hlk : meth.locks = false) (hK : va_K D vwCl (xT cI cJ cZ cS) s) (hN : XN sa s) (hX : va_X b L xs s s.heap) (hbl : b < s.heap.size) (hA : ∀ q : Nat, s.heap.size ≤ q → A q) (hbA : ¬ A b) (hAs : ∀ q, A q → s.heap.size ≤ q) (hZ : ST ta sa sv A s s.heap) (h0 g0 i : Nat) (hi : i + 6 ≤ L) (qh : Nat) (qk : Nat) (qd : Nat) (b0 : Int32) (qa : Nat) (qm : Nat) (qs : Nat) (qp : Nat) (ql : Nat) (qt : Nat) (qz : Nat) (qf : Nat) (Pa : Nat) (ae : Nat) (al : Nat) (au : Nat) (ao : Nat) (ar : Nat) (ak : Nat) (aw : Nat) (att : Nat) (ass : Nat) (fae : Nat → Int32) (fal : Nat → Int32) (fau : Nat → Int32) (fao : Nat → Int32) (Ra : Nat) (aRn : Nat) (aRp : Nat) (farn : Nat → Int32) (farp : Nat → Int32) (fak : Nat → Int32) (Wa : Nat) (aWn : Nat) (aWp : Nat) (fawn : Nat → Int32) (fawp : Nat → Int32) (fat : Nat → Int32) (fas : Nat → Int32) (Pv : Nat) (ve : Nat) (vl : Nat) (vu : Nat) (vo : Nat) (vr : Nat) (vk : Nat) (vw : Nat) (vtt : Nat) (vss : Nat) (fve : Nat → Int32) (fvl : Nat → Int32) (fvu : Nat → Int32) (fvo : Nat → Int32) (Rv : Nat) (vRn : Nat) (vRp : Nat) (fvrn : Nat → Int32) (fvrp : Nat → Int32) (fvk : Nat → Int32) (Wv : Nat) (vWn : Nat) (vWp : Nat) (fvwn : Nat → Int32) (fvwp : Nat → Int32) (fvt : Nat → Int32) (fvs : Nat → Int32) (z : Nat) (tb : Nat) (tk : Int32) (s9 : Nat) (x9 : Nat) (v9 : Nat) (t9 : Int32) (by9 : Nat → Int32) (m_ys : Nat) (m_yk : Nat) (m_yo : Nat) (m_yt : Nat) (m_yfa : Nat) (m_yfe : Nat) (m_mL : Int32) (m_mS : Int32) (m_mM : Int32) (m_yro : Nat) (m_yhe : Nat) (m_ygr : Nat) (m_mF : Int32) (m_mC : Int32) (m_mY : Int32) (m_yta : Nat) (m_mf : Nat) (m_mt : Nat) (m_mv : Int32) (m_mw : Int32) (m_ywa : Nat) (m_ybi : Nat) (m_ysi : Nat) (m_ynu : Nat) (m_ymo : Nat) (m_ms : Nat → Int32) (m_oo : Nat → Int32) (m_tp : Nat → Int32) (m_wa : Nat → Int32) (m_P : Nat) (m_Rn : Nat) (m_Wn : Nat) {tl : va_W} {H : Heap} {locs : List Loc} {ls : Array Slot} (hP : va_P D vwCl ([(h0, .inr (8, [.ref qh, .ref qk, .ref qd, .int b0, .ref qa, .ref qm, .ref qs, .ref qp, .ref ql, .ref qt, .ref qz, .ref qf])), (qh, .inr (1, [.int (nI (Pa)), .ref ae, .ref al, .ref au, .ref ao, .ref ar, .ref ak, .ref aw, .ref att, .ref ass])), (ae, .inl (cI, 10, .inl fae)), (al, .inl (cI, 100, .inl fal)), (au, .inl (cI, 100, .inl fau)), (ao, .inl (cI, 100, .inl fao)), (ar, .inr (3, [.int (nI (Ra)), .ref aRn, .ref aRp])), (aRn, .inl (cI, 8, .inl farn)), (aRp, .inl (cI, 48, .inl farp)), (ak, .inl (cI, 8, .inl fak)), (aw, .inr (3, [.int (nI (Wa)), .ref aWn, .ref aWp])), (aWn, .inl (cI, 8, .inl fawn)), (aWp, .inl (cI, 48, .inl fawp)), (att, .inl (cI, 8, .inl fat)), (ass, .inl (cI, 8, .inl fas)), (qd, .inr (1, [.int (nI (Pv)), .ref ve, .ref vl, .ref vu, .ref vo, .ref vr, .ref vk, .ref vw, .ref vtt, .ref vss])), (ve, .inl (cI, 10, .inl fve)), (vl, .inl (cI, 100, .inl fvl)), (vu, .inl (cI, 100, .inl fvu)), (vo, .inl (cI, 100, .inl fvo)), (vr, .inr (3, [.int (nI (Rv)), .ref vRn, .ref vRp])), (vRn, .inl (cI, 8, .inl fvrn)), (vRp, .inl (cI, 48, .inl fvrp)), (vk, .inl (cI, 8, .inl fvk)), (vw, .inr (3, [.int (nI (Wv)), .ref vWn, .ref vWp])), (vWn, .inl (cI, 8, .inl fvwn)), (vWp, .inl (cI, 48, .inl fvwp)), (vtt, .inl (cI, 8, .inl fvt)), (vss, .inl (cI, 8, .inl fvs)), (qt, .inr (7, [.int (nI (z)), .ref tb, .int tk, .int (nI (s9)), .int (nI (x9)), .int (nI (v9)), .int t9])), (tb, .inl (cI, 120, .inl by9)), (g0, .inr (9, [.ref m_ys, .ref m_yk, .ref m_yo, .ref m_yt, .int b0, .ref m_yfa, .ref m_yfe, .int m_mL, .int m_mS, .int m_mM, .ref m_yro, .ref m_yhe, .ref m_ygr, .int m_mF, .int m_mC, .int m_mY, .ref m_yta, .int (nI (z)), .int (nI (m_mf)), .int (nI (m_mt)), .int m_mv, .int m_mw, .ref m_ywa, .ref m_ybi, .ref m_ysi, .ref m_ynu, .ref m_ymo])), (m_ys, .inl (cI, 449, .inl m_ms)), (m_yo, .inl (cI, 449, .inl m_oo)), (m_yta, .inl (cI, 120, .inl m_tp)), (m_ywa, .inl (cI, 6, .inl m_wa))] ++ tl) H) (hD : va_D A ([(h0, .inr (8, [.ref qh, .ref qk, .ref qd, .int b0, .ref qa, .ref qm, .ref qs, .ref qp, .ref ql, .ref qt, .ref qz, .ref qf])), (qh, .inr (1, [.int (nI (Pa)), .ref ae, .ref al, .ref au, .ref ao, .ref ar, .ref ak, .ref aw, .ref att, .ref ass])), (ae, .inl (cI, 10, .inl fae)), (al, .inl (cI, 100, .inl fal)), (au, .inl (cI, 100, .inl fau)), (ao, .inl (cI, 100, .inl fao)), (ar, .inr (3, [.int (nI (Ra)), .ref aRn, .ref aRp])), (aRn, .inl (cI, 8, .inl farn)), (aRp, .inl (cI, 48, .inl farp)), (ak, .inl (cI, 8, .inl fak)), (aw, .inr (3, [.int (nI (Wa)), .ref aWn, .ref aWp])), (aWn, .inl (cI, 8, .inl fawn)), (aWp, .inl (cI, 48, .inl fawp)), (att, .inl (cI, 8, .inl fat)), (ass, .inl (cI, 8, .inl fas)), (qd, .inr (1, [.int (nI (Pv)), .ref ve, .ref vl, .ref vu, .ref vo, .ref vr, .ref vk, .ref vw, .ref vtt, .ref vss])), (ve, .inl (cI, 10, .inl fve)), (vl, .inl (cI, 100, .inl fvl)), (vu, .inl (cI, 100, .inl fvu)), (vo, .inl (cI, 100, .inl fvo)), (vr, .inr (3, [.int (nI (Rv)), .ref vRn, .ref vRp])), (vRn, .inl (cI, 8, .inl fvrn)), (vRp, .inl (cI, 48, .inl fvrp)), (vk, .inl (cI, 8, .inl fvk)), (vw, .inr (3, [.int (nI (Wv)), .ref vWn, .ref vWp])), (vWn, .inl (cI, 8, .inl fvwn)), (vWp, .inl (cI, 48, .inl fvwp)), (vtt, .inl (cI, 8, .inl fvt)), (vss, .inl (cI, 8, .inl fvs)), (qt, .inr (7, [.int (nI (z)), .ref tb, .int tk, .int (nI (s9)), .int (nI (x9)), .int (nI (v9)), .int t9])), (tb, .inl (cI, 120, .inl by9)), (g0, .inr (9, [.ref m_ys, .ref m_yk, .ref m_yo, .ref m_yt, .int b0, .ref m_yfa, .ref m_yfe, .int m_mL, .int m_mS, .int m_mM, .ref m_yro, .ref m_yhe, .ref m_ygr, .int m_mF, .int m_mC, .int m_mY, .ref m_yta, .int (nI (z)), .int (nI (m_mf)), .int (nI (m_mt)), .int m_mv, .int m_mw, .ref m_ywa, .ref m_ybi, .ref m_ysi, .ref m_ynu, .ref m_ymo])), (m_ys, .inl (cI, 449, .inl m_ms)), (m_yo, .inl (cI, 449, .inl m_oo)), (m_yta, .inl (cI, 120, .inl m_tp)), (m_ywa, .inl (cI, 6, .inl m_wa))] ++ tl)) (hP0 : Pa ≤ 10) (hR : Ra ≤ 8) (hLLr : LL Ra farn) (hWa : Wa ≤ 8) (hLLw : LL Wa fawn) (hz : z ≤ 120) (hs9 : s9 ≤ 120) (hx9 : x9 ≤ 120) (hv9 : v9 ≤ 10000) (harn : BA 8 7 farn) (harp : BA 48 10 farp) (hawn : BA 8 7 fawn) (hawp : BA 48 10 fawp) (hvrn : BA 8 7 fvrn) (hvrp : BA 48 10 fvrp) (hvwn : BA 8 7 fvwn) (hvwp : BA 48 10 fvwp) (m_hs0 : m_ms 0 = nI m_P) (m_hs1 : m_ms 1 = nI m_Rn) (m_hs2 : m_ms 2 = nI m_Wn) (m_hsS : SI m_ms) (m_hsM : MI m_ms) (m_hsp : m_P ≤ 10) (m_hsr : m_Rn ≤ 8) (m_hsw : m_Wn ≤ 8) (m_hsR : RI m_Rn m_ms) (hS : va_S A s.heap H locs) (hl : lv_has ls 4 [(3, .int (nI i)), (2, .ref g0), (1, .ref h0), (0, .ref b)]) (kkx : ∀ (H : Heap) (locs : List Loc) (ls : Array Slot) (Pa_n : Nat) (fae_n : Nat → Int32) (fal_n : Nat → Int32) (fau_n : Nat → Int32) (fao_n : Nat → Int32) (Ra_n : Nat) (farn_n : Nat → Int32) (farp_n : Nat → Int32) (fak_n : Nat → Int32) (Wa_n : Nat) (fawn_n : Nat → Int32) (fawp_n : Nat → Int32) (fat_n : Nat → Int32) (fas_n : Nat → Int32) (Pv_n : Nat) (fve_n : Nat → Int32) (fvl_n : Nat → Int32) (fvu_n : Nat → Int32) (fvo_n : Nat → Int32) (Rv_n : Nat) (fvrn_n : Nat → Int32) (fvrp_n : Nat → Int32) (fvk_n : Nat → Int32) (Wv_n : Nat) (fvwn_n : Nat → Int32) (fvwp_n : Nat → Int32) (fvt_n : Nat → Int32) (fvs_n : Nat → Int32) (z_n : Nat) (tk_n : Int32) (s9_n : Nat) (x9_n : Nat) (v9_n : Nat) (t9_n : Int32) (m_mf_n : Nat) (m_mt_n : Nat) (m_mv_n : Int32) (m_mw_n : Int32) (m_ms_n : Nat → Int32) (m_oo_n : Nat → Int32) (m_wa_n : Nat → Int32) (m_P_n : Nat) (m_Rn_n : Nat) (m_Wn_n : Nat), va_P D vwCl ([(h0, .inr (8, [.ref qh, .ref qk, .ref qd, .int b0, .ref qa, .ref qm, .ref qs, .ref qp, .ref ql, .ref qt, .ref qz, .ref qf])), (qh, .inr (1, [.int (nI (Pa_n)), .ref ae, .ref al, .ref au, .ref ao, .ref ar, .ref ak, .ref aw, .ref att, .ref ass])), (ae, .inl (cI, 10, .inl fae_n)), (al, .inl (cI, 100, .inl fal_n)), (au, .inl (cI, 100, .inl fau_n)), (ao, .inl (cI, 100, .inl fao_n)), (ar, .inr (3, [.int (nI (Ra_n)), .ref aRn, .ref aRp])), (aRn, .inl (cI, 8, .inl farn_n)), (aRp, .inl (cI, 48, .inl farp_n)), (ak, .inl (cI, 8, .inl fak_n)), (aw, .inr (3, [.int (nI (Wa_n)), .ref aWn, .ref aWp])), (aWn, .inl (cI, 8, .inl fawn_n)), (aWp, .inl (cI, 48, .inl fawp_n)), (att, .inl (cI, 8, .inl fat_n)), (ass, .inl (cI, 8, .inl fas_n)), (qd, .inr (1, [.int (nI (Pv_n)), .ref ve, .ref vl, .ref vu, .ref vo, .ref vr, .ref vk, .ref vw, .ref vtt, .ref vss])), (ve, .inl (cI, 10, .inl fve_n)), (vl, .inl (cI, 100, .inl fvl_n)), (vu, .inl (cI, 100, .inl fvu_n)), (vo, .inl (cI, 100, .inl fvo_n)), (vr, .inr (3, [.int (nI (Rv_n)), .ref vRn, .ref vRp])), (vRn, .inl (cI, 8, .inl fvrn_n)), (vRp, .inl (cI, 48, .inl fvrp_n)), (vk, .inl (cI, 8, .inl fvk_n)), (vw, .inr (3, [.int (nI (Wv_n)), .ref vWn, .ref vWp])), (vWn, .inl (cI, 8, .inl fvwn_n)), (vWp, .inl (cI, 48, .inl fvwp_n)), (vtt, .inl (cI, 8, .inl fvt_n)), (vss, .inl (cI, 8, .inl fvs_n)), (qt, .inr (7, [.int (nI (z_n)), .ref tb, .int tk_n, .int (nI (s9_n)), .int (nI (x9_n)), .int (nI (v9_n)), .int t9_n])), (tb, .inl (cI, 120, .inl by9)), (g0, .inr (9, [.ref m_ys, .ref m_yk, .ref m_yo, .ref m_yt, .int b0, .ref m_yfa, .ref m_yfe, .int m_mL, .int m_mS, .int m_mM, .ref m_yro, .ref m_yhe, .ref m_ygr, .int m_mF, .int m_mC, .int m_mY, .ref m_yta, .int (nI (z_n)), .int (nI (m_mf_n)), .int (nI (m_mt_n)), .int m_mv_n, .int m_mw_n, .ref m_ywa, .ref m_ybi, .ref m_ysi, .ref m_ynu, .ref m_ymo])), (m_ys, .inl (cI, 449, .inl m_ms_n)), (m_yo, .inl (cI, 449, .inl m_oo_n)), (m_yta, .inl (cI, 120, .inl m_tp)), (m_ywa, .inl (cI, 6, .inl m_wa_n))] ++ tl) H → va_D A ([(h0, .inr (8, [.ref qh, .ref qk, .ref qd, .int b0, .ref qa, .ref qm, .ref qs, .ref qp, .ref ql, .ref qt, .ref qz, .ref qf])), (qh, .inr (1, [.int (nI (Pa_n)), .ref ae, .ref al, .ref au, .ref ao, .ref ar, .ref ak, .ref aw, .ref att, .ref ass])), (ae, .inl (cI, 10, .inl fae_n)), (al, .inl (cI, 100, .inl fal_n)), (au, .inl (cI, 100, .inl fau_n)), (ao, .inl (cI, 100, .inl fao_n)), (ar, .inr (3, [.int (nI (Ra_n)), .ref aRn, .ref aRp])), (aRn, .inl (cI, 8, .inl farn_n)), (aRp, .inl (cI, 48, .inl farp_n)), (ak, .inl (cI, 8, .inl fak_n)), (aw, .inr (3, [.int (nI (Wa_n)), .ref aWn, .ref aWp])), (aWn, .inl (cI, 8, .inl fawn_n)), (aWp, .inl (cI, 48, .inl fawp_n)), (att, .inl (cI, 8, .inl fat_n)), (ass, .inl (cI, 8, .inl fas_n)), (qd, .inr (1, [.int (nI (Pv_n)), .ref ve, .ref vl, .ref vu, .ref vo, .ref vr, .ref vk, .ref vw, .ref vtt, .ref vss])), (ve, .inl (cI, 10, .inl fve_n)), (vl, .inl (cI, 100, .inl fvl_n)), (vu, .inl (cI, 100, .inl fvu_n)), (vo, .inl (cI, 100, .inl fvo_n)), (vr, .inr (3, [.int (nI (Rv_n)), .ref vRn, .ref vRp])), (vRn, .inl (cI, 8, .inl fvrn_n)), (vRp, .inl (cI, 48, .inl fvrp_n)), (vk, .inl (cI, 8, .inl fvk_n)), (vw, .inr (3, [.int (nI (Wv_n)), .ref vWn, .ref vWp])), (vWn, .inl (cI, 8, .inl fvwn_n)), (vWp, .inl (cI, 48, .inl fvwp_n)), (vtt, .inl (cI, 8, .inl fvt_n)), (vss, .inl (cI, 8, .inl fvs_n)), (qt, .inr (7, [.int (nI (z_n)), .ref tb, .int tk_n, .int (nI (s9_n)), .int (nI (x9_n)), .int (nI (v9_n)), .int t9_n])), (tb, .inl (cI, 120, .inl by9)), (g0, .inr (9, [.ref m_ys, .ref m_yk, .ref m_yo, .ref m_yt, .int b0, .ref m_yfa, .ref m_yfe, .int m_mL, .int m_mS, .int m_mM, .ref m_yro, .ref m_yhe, .ref m_ygr, .int m_mF, .int m_mC, .int m_mY, .ref m_yta, .int (nI (z_n)), .int (nI (m_mf_n)), .int (nI (m_mt_n)), .int m_mv_n, .int m_mw_n, .ref m_ywa, .ref m_ybi, .ref m_ysi, .ref m_ynu, .ref m_ymo])), (m_ys, .inl (cI, 449, .inl m_ms_n)), (m_yo, .inl (cI, 449, .inl m_oo_n)), (m_yta, .inl (cI, 120, .inl m_tp)), (m_ywa, .inl (cI, 6, .inl m_wa_n))] ++ tl) → (Pa_n ≤ 10) → (Ra_n ≤ 8) → (LL Ra_n farn_n) → (Wa_n ≤ 8) → (LL Wa_n fawn_n) → (z_n ≤ 120) → (s9_n ≤ 120) → (x9_n ≤ 120) → (v9_n ≤ 10000) → (BA 8 7 farn_n) → (BA 48 10 farp_n) → (BA 8 7 fawn_n) → (BA 48 10 fawp_n) → (BA 8 7 fvrn_n) → (BA 48 10 fvrp_n) → (BA 8 7 fvwn_n) → (BA 48 10 fvwp_n) → (m_ms_n 0 = nI m_P_n) → (m_ms_n 1 = nI m_Rn_n) → (m_ms_n 2 = nI m_Wn_n) → (SI m_ms_n) → (MI m_ms_n) → (m_P_n ≤ 10) → (m_Rn_n ≤ 8) → (m_Wn_n ≤ 8) → (RI m_Rn_n m_ms_n) → va_S A s.heap H locs → lv_has ls 4 [(3, .int (nI i)), (2, .ref g0), (1, .ref h0), (0, .ref b)] → W p l e room_1 s m #[Value.ref b] below meth c H locs 82 4273 (lw_Z below #[Value.ref b] s) (F0 m 1483 ls [])) : W p l e room_1 s m #[Value.ref b] below meth c H locs 82 4273 (lw_Z below #[Value.ref b] s) (F0 m 1149 ls []) := by
  have hx := hF.1
  have hb := hF.2.1
  have hml := hF.2.2.1
  have hown := hF.2.2.2.1
  have hu : ∀ w ∈ wsU, w.before _ s = true := fun w h => hF.2.2.2.2 w (List.mem_cons_of_mem _ h)
  refine lv_aload_n hx hb dL_law_1149 rfl (lv_at hl 2 rfl) ?_
  refine xc_ViT (wr := [(g0, .inr (9, [.ref m_ys, .ref m_yk, .ref m_yo, .ref m_yt, .int b0, .ref m_yfa, .ref m_yfe, .int m_mL, .int m_mS, .int m_mM, .ref m_yro, .ref m_yhe, .ref m_ygr, .int m_mF, .int m_mC, .int m_mY, .ref m_yta, .int (nI (z)), .int (nI (m_mf)), .int (nI (m_mt)), .int m_mv, .int m_mw, .ref m_ywa, .ref m_ybi, .ref m_ysi, .ref m_ynu, .ref m_ymo])), (m_ys, .inl (cI, 449, .inl m_ms)), (m_yo, .inl (cI, 449, .inl m_oo)), (m_yta, .inl (cI, 120, .inl m_tp)), (m_ywa, .inl (cI, 6, .inl m_wa))]) hF (c_X8_land l D cI cJ cZ cS ta sa sv H.size h0 qh qk qd b0 qa qm qs qp ql qt qz qf Pa ae al au ao ar ak aw att ass fae fal fau fao Ra aRn aRp farn farp fak Wa aWn aWp fawn fawp fat fas Pv ve vl vu vo vr vk vw vtt vss fve fvl fvu fvo Rv vRn vRp fvrn fvrp fvk Wv vWn vWp fvwn fvwp fvt fvs z tb tk s9 x9 v9 t9 by9 hP0 hR hLLr hWa hLLw hz hs9 hx9 hv9 harn harp hawn hawp hvrn hvrp hvwn hvwp) kv_L_151 ⟨rfl, rfl, Nat.le_of_ble_eq_true rfl, Nat.le_of_ble_eq_true rfl⟩ ⟨Nat.le_of_ble_eq_true rfl, Nat.le_of_ble_eq_true rfl⟩ hK hN hZ hP hD hS hA [0, 1, 2, 3, 4, 5, 6, 7, 8, 9, 10, 11, 12, 13, 14, 15, 16, 17, 18, 19, 20, 21, 22, 23, 24, 25, 26, 27, 28, 29, 30] [31, 32, 33, 34, 35] rfl rfl rfl rfl (by decide) 0 rfl rfl rfl rfl hl.1 rfl (Nat.le_of_ble_eq_true rfl) dL_law_1150 (fun r_1 u_r_1 H locs hw_r_1 hP hD hS => ?_)
  obtain ⟨P2_2, xe_3, xl_4, xu_5, xo_6, R2_7, xrn_8, xrp_9, xk_10, W2_11, xwn_12, xwp_13, xt_14, xs_15, P3_16, ye_17, yl_18, yu_19, yo_20, R3_21, yrn_22, yrp_23, yk_24, W3_25, ywn_26, ywp_27, yt_28, ys_29, tk2_30, s2_31, x2_32, v2_33, t2_34⟩ := u_r_1
  try dsimp only at hw_r_1
  obtain ⟨hw_r_1, i_35, i_36, i_37, i_38, i_39, i_40, i_41, i_42, i_43, i_44, i_45, i_46, i_47, i_48, i_49, i_50, i_51, i_52, i_53⟩ := hw_r_1
  have hP : va_P D vwCl ([(g0, .inr (9, [.ref m_ys, .ref m_yk, .ref m_yo, .ref m_yt, .int b0, .ref m_yfa, .ref m_yfe, .int m_mL, .int m_mS, .int m_mM, .ref m_yro, .ref m_yhe, .ref m_ygr, .int m_mF, .int m_mC, .int m_mY, .ref m_yta, .int (nI (z)), .int (nI (m_mf)), .int (nI (m_mt)), .int m_mv, .int m_mw, .ref m_ywa, .ref m_ybi, .ref m_ysi, .ref m_ynu, .ref m_ymo])), (m_ys, .inl (cI, 449, .inl m_ms)), (m_yo, .inl (cI, 449, .inl m_oo)), (m_yta, .inl (cI, 120, .inl m_tp)), (m_ywa, .inl (cI, 6, .inl m_wa)), (h0, .inr (8, [.ref qh, .ref qk, .ref qd, .int b0, .ref qa, .ref qm, .ref qs, .ref qp, .ref ql, .ref qt, .ref qz, .ref qf])), (qh, .inr (1, [.int (nI (P2_2)), .ref ae, .ref al, .ref au, .ref ao, .ref ar, .ref ak, .ref aw, .ref att, .ref ass])), (ae, .inl (cI, 10, .inl xe_3)), (al, .inl (cI, 100, .inl xl_4)), (au, .inl (cI, 100, .inl xu_5)), (ao, .inl (cI, 100, .inl xo_6)), (ar, .inr (3, [.int (nI (R2_7)), .ref aRn, .ref aRp])), (aRn, .inl (cI, 8, .inl xrn_8)), (aRp, .inl (cI, 48, .inl xrp_9)), (ak, .inl (cI, 8, .inl xk_10)), (aw, .inr (3, [.int (nI (W2_11)), .ref aWn, .ref aWp])), (aWn, .inl (cI, 8, .inl xwn_12)), (aWp, .inl (cI, 48, .inl xwp_13)), (att, .inl (cI, 8, .inl xt_14)), (ass, .inl (cI, 8, .inl xs_15)), (qd, .inr (1, [.int (nI (P3_16)), .ref ve, .ref vl, .ref vu, .ref vo, .ref vr, .ref vk, .ref vw, .ref vtt, .ref vss])), (ve, .inl (cI, 10, .inl ye_17)), (vl, .inl (cI, 100, .inl yl_18)), (vu, .inl (cI, 100, .inl yu_19)), (vo, .inl (cI, 100, .inl yo_20)), (vr, .inr (3, [.int (nI (R3_21)), .ref vRn, .ref vRp])), (vRn, .inl (cI, 8, .inl yrn_22)), (vRp, .inl (cI, 48, .inl yrp_23)), (vk, .inl (cI, 8, .inl yk_24)), (vw, .inr (3, [.int (nI (W3_25)), .ref vWn, .ref vWp])), (vWn, .inl (cI, 8, .inl ywn_26)), (vWp, .inl (cI, 48, .inl ywp_27)), (vtt, .inl (cI, 8, .inl yt_28)), (vss, .inl (cI, 8, .inl ys_29)), (qt, .inr (7, [.int 0, .ref tb, .int tk2_30, .int (nI (s2_31)), .int (nI (x2_32)), .int (nI (v2_33)), .int t2_34])), (tb, .inl (cI, 120, .inl by9))] ++ tl) H := hP
  have hD : va_D A ([(g0, .inr (9, [.ref m_ys, .ref m_yk, .ref m_yo, .ref m_yt, .int b0, .ref m_yfa, .ref m_yfe, .int m_mL, .int m_mS, .int m_mM, .ref m_yro, .ref m_yhe, .ref m_ygr, .int m_mF, .int m_mC, .int m_mY, .ref m_yta, .int (nI (z)), .int (nI (m_mf)), .int (nI (m_mt)), .int m_mv, .int m_mw, .ref m_ywa, .ref m_ybi, .ref m_ysi, .ref m_ynu, .ref m_ymo])), (m_ys, .inl (cI, 449, .inl m_ms)), (m_yo, .inl (cI, 449, .inl m_oo)), (m_yta, .inl (cI, 120, .inl m_tp)), (m_ywa, .inl (cI, 6, .inl m_wa)), (h0, .inr (8, [.ref qh, .ref qk, .ref qd, .int b0, .ref qa, .ref qm, .ref qs, .ref qp, .ref ql, .ref qt, .ref qz, .ref qf])), (qh, .inr (1, [.int (nI (P2_2)), .ref ae, .ref al, .ref au, .ref ao, .ref ar, .ref ak, .ref aw, .ref att, .ref ass])), (ae, .inl (cI, 10, .inl xe_3)), (al, .inl (cI, 100, .inl xl_4)), (au, .inl (cI, 100, .inl xu_5)), (ao, .inl (cI, 100, .inl xo_6)), (ar, .inr (3, [.int (nI (R2_7)), .ref aRn, .ref aRp])), (aRn, .inl (cI, 8, .inl xrn_8)), (aRp, .inl (cI, 48, .inl xrp_9)), (ak, .inl (cI, 8, .inl xk_10)), (aw, .inr (3, [.int (nI (W2_11)), .ref aWn, .ref aWp])), (aWn, .inl (cI, 8, .inl xwn_12)), (aWp, .inl (cI, 48, .inl xwp_13)), (att, .inl (cI, 8, .inl xt_14)), (ass, .inl (cI, 8, .inl xs_15)), (qd, .inr (1, [.int (nI (P3_16)), .ref ve, .ref vl, .ref vu, .ref vo, .ref vr, .ref vk, .ref vw, .ref vtt, .ref vss])), (ve, .inl (cI, 10, .inl ye_17)), (vl, .inl (cI, 100, .inl yl_18)), (vu, .inl (cI, 100, .inl yu_19)), (vo, .inl (cI, 100, .inl yo_20)), (vr, .inr (3, [.int (nI (R3_21)), .ref vRn, .ref vRp])), (vRn, .inl (cI, 8, .inl yrn_22)), (vRp, .inl (cI, 48, .inl yrp_23)), (vk, .inl (cI, 8, .inl yk_24)), (vw, .inr (3, [.int (nI (W3_25)), .ref vWn, .ref vWp])), (vWn, .inl (cI, 8, .inl ywn_26)), (vWp, .inl (cI, 48, .inl ywp_27)), (vtt, .inl (cI, 8, .inl yt_28)), (vss, .inl (cI, 8, .inl ys_29)), (qt, .inr (7, [.int 0, .ref tb, .int tk2_30, .int (nI (s2_31)), .int (nI (x2_32)), .int (nI (v2_33)), .int t2_34])), (tb, .inl (cI, 120, .inl by9))] ++ tl) := hD
  refine lv_pop hx hb dL_law_1153 rfl ?_
  refine lv_aload_n hx hb dL_law_1154 rfl (lv_at hl 1 rfl) ?_
  refine xc_ViT (wr := [(h0, .inr (8, [.ref qh, .ref qk, .ref qd, .int b0, .ref qa, .ref qm, .ref qs, .ref qp, .ref ql, .ref qt, .ref qz, .ref qf])), (qh, .inr (1, [.int (nI (P2_2)), .ref ae, .ref al, .ref au, .ref ao, .ref ar, .ref ak, .ref aw, .ref att, .ref ass])), (ae, .inl (cI, 10, .inl xe_3)), (al, .inl (cI, 100, .inl xl_4)), (au, .inl (cI, 100, .inl xu_5)), (ao, .inl (cI, 100, .inl xo_6)), (ar, .inr (3, [.int (nI (R2_7)), .ref aRn, .ref aRp])), (aRn, .inl (cI, 8, .inl xrn_8)), (aRp, .inl (cI, 48, .inl xrp_9)), (ak, .inl (cI, 8, .inl xk_10)), (aw, .inr (3, [.int (nI (W2_11)), .ref aWn, .ref aWp])), (aWn, .inl (cI, 8, .inl xwn_12)), (aWp, .inl (cI, 48, .inl xwp_13)), (att, .inl (cI, 8, .inl xt_14)), (ass, .inl (cI, 8, .inl xs_15)), (qd, .inr (1, [.int (nI (P3_16)), .ref ve, .ref vl, .ref vu, .ref vo, .ref vr, .ref vk, .ref vw, .ref vtt, .ref vss])), (ve, .inl (cI, 10, .inl ye_17)), (vl, .inl (cI, 100, .inl yl_18)), (vu, .inl (cI, 100, .inl yu_19)), (vo, .inl (cI, 100, .inl yo_20)), (vr, .inr (3, [.int (nI (R3_21)), .ref vRn, .ref vRp])), (vRn, .inl (cI, 8, .inl yrn_22)), (vRp, .inl (cI, 48, .inl yrp_23)), (vk, .inl (cI, 8, .inl yk_24)), (vw, .inr (3, [.int (nI (W3_25)), .ref vWn, .ref vWp])), (vWn, .inl (cI, 8, .inl ywn_26)), (vWp, .inl (cI, 48, .inl ywp_27)), (vtt, .inl (cI, 8, .inl yt_28)), (vss, .inl (cI, 8, .inl ys_29)), (qt, .inr (7, [.int 0, .ref tb, .int tk2_30, .int (nI (s2_31)), .int (nI (x2_32)), .int (nI (v2_33)), .int t2_34])), (tb, .inl (cI, 120, .inl by9))]) hF (c_X9_land l D cI cJ cZ cS ta sa sv H.size g0 m_ys m_yk m_yo m_yt b0 m_yfa m_yfe m_mL m_mS m_mM m_yro m_yhe m_ygr m_mF m_mC m_mY m_yta z m_mf m_mt m_mv m_mw m_ywa m_ybi m_ysi m_ynu m_ymo m_ms m_oo m_tp m_wa m_P m_Rn m_Wn hz m_hs0 m_hs1 m_hs2 m_hsS m_hsM m_hsp m_hsr m_hsw m_hsR) kv_L_154 ⟨rfl, rfl, Nat.le_of_ble_eq_true rfl, Nat.le_of_ble_eq_true rfl⟩ ⟨Nat.le_of_ble_eq_true rfl, Nat.le_of_ble_eq_true rfl⟩ hK hN hZ hP hD hS hA [0, 1, 2, 3, 4] [5, 6, 7, 8, 9, 10, 11, 12, 13, 14, 15, 16, 17, 18, 19, 20, 21, 22, 23, 24, 25, 26, 27, 28, 29, 30, 31, 32, 33, 34, 35] rfl rfl rfl rfl (by decide) 0 rfl rfl rfl rfl hl.1 rfl (Nat.le_of_ble_eq_true rfl) dL_law_1155 (fun r_54 u_r_54 H locs hw_r_54 hP hD hS => ?_)
  obtain ⟨f2_55, t2_56, v2_57, w2_58, ms2_59, oo2_60, wa2_61, P2_62, R2_63, W2_64⟩ := u_r_54
  try dsimp only at hw_r_54
  obtain ⟨hw_r_54, i_65, i_66, i_67, i_68, i_69, i_70, i_71, i_72, i_73⟩ := hw_r_54
  have hP : va_P D vwCl ([(h0, .inr (8, [.ref qh, .ref qk, .ref qd, .int b0, .ref qa, .ref qm, .ref qs, .ref qp, .ref ql, .ref qt, .ref qz, .ref qf])), (qh, .inr (1, [.int (nI (P2_2)), .ref ae, .ref al, .ref au, .ref ao, .ref ar, .ref ak, .ref aw, .ref att, .ref ass])), (ae, .inl (cI, 10, .inl xe_3)), (al, .inl (cI, 100, .inl xl_4)), (au, .inl (cI, 100, .inl xu_5)), (ao, .inl (cI, 100, .inl xo_6)), (ar, .inr (3, [.int (nI (R2_7)), .ref aRn, .ref aRp])), (aRn, .inl (cI, 8, .inl xrn_8)), (aRp, .inl (cI, 48, .inl xrp_9)), (ak, .inl (cI, 8, .inl xk_10)), (aw, .inr (3, [.int (nI (W2_11)), .ref aWn, .ref aWp])), (aWn, .inl (cI, 8, .inl xwn_12)), (aWp, .inl (cI, 48, .inl xwp_13)), (att, .inl (cI, 8, .inl xt_14)), (ass, .inl (cI, 8, .inl xs_15)), (qd, .inr (1, [.int (nI (P3_16)), .ref ve, .ref vl, .ref vu, .ref vo, .ref vr, .ref vk, .ref vw, .ref vtt, .ref vss])), (ve, .inl (cI, 10, .inl ye_17)), (vl, .inl (cI, 100, .inl yl_18)), (vu, .inl (cI, 100, .inl yu_19)), (vo, .inl (cI, 100, .inl yo_20)), (vr, .inr (3, [.int (nI (R3_21)), .ref vRn, .ref vRp])), (vRn, .inl (cI, 8, .inl yrn_22)), (vRp, .inl (cI, 48, .inl yrp_23)), (vk, .inl (cI, 8, .inl yk_24)), (vw, .inr (3, [.int (nI (W3_25)), .ref vWn, .ref vWp])), (vWn, .inl (cI, 8, .inl ywn_26)), (vWp, .inl (cI, 48, .inl ywp_27)), (vtt, .inl (cI, 8, .inl yt_28)), (vss, .inl (cI, 8, .inl ys_29)), (qt, .inr (7, [.int 0, .ref tb, .int tk2_30, .int (nI (s2_31)), .int (nI (x2_32)), .int (nI (v2_33)), .int t2_34])), (tb, .inl (cI, 120, .inl by9)), (g0, .inr (9, [.ref m_ys, .ref m_yk, .ref m_yo, .ref m_yt, .int b0, .ref m_yfa, .ref m_yfe, .int m_mL, .int m_mS, .int m_mM, .ref m_yro, .ref m_yhe, .ref m_ygr, .int m_mF, .int m_mC, .int m_mY, .ref m_yta, .int 0, .int (nI (f2_55)), .int (nI (t2_56)), .int v2_57, .int w2_58, .ref m_ywa, .ref m_ybi, .ref m_ysi, .ref m_ynu, .ref m_ymo])), (m_ys, .inl (cI, 449, .inl ms2_59)), (m_yo, .inl (cI, 449, .inl oo2_60)), (m_yta, .inl (cI, 120, .inl m_tp)), (m_ywa, .inl (cI, 6, .inl wa2_61))] ++ tl) H := hP
  have hD : va_D A ([(h0, .inr (8, [.ref qh, .ref qk, .ref qd, .int b0, .ref qa, .ref qm, .ref qs, .ref qp, .ref ql, .ref qt, .ref qz, .ref qf])), (qh, .inr (1, [.int (nI (P2_2)), .ref ae, .ref al, .ref au, .ref ao, .ref ar, .ref ak, .ref aw, .ref att, .ref ass])), (ae, .inl (cI, 10, .inl xe_3)), (al, .inl (cI, 100, .inl xl_4)), (au, .inl (cI, 100, .inl xu_5)), (ao, .inl (cI, 100, .inl xo_6)), (ar, .inr (3, [.int (nI (R2_7)), .ref aRn, .ref aRp])), (aRn, .inl (cI, 8, .inl xrn_8)), (aRp, .inl (cI, 48, .inl xrp_9)), (ak, .inl (cI, 8, .inl xk_10)), (aw, .inr (3, [.int (nI (W2_11)), .ref aWn, .ref aWp])), (aWn, .inl (cI, 8, .inl xwn_12)), (aWp, .inl (cI, 48, .inl xwp_13)), (att, .inl (cI, 8, .inl xt_14)), (ass, .inl (cI, 8, .inl xs_15)), (qd, .inr (1, [.int (nI (P3_16)), .ref ve, .ref vl, .ref vu, .ref vo, .ref vr, .ref vk, .ref vw, .ref vtt, .ref vss])), (ve, .inl (cI, 10, .inl ye_17)), (vl, .inl (cI, 100, .inl yl_18)), (vu, .inl (cI, 100, .inl yu_19)), (vo, .inl (cI, 100, .inl yo_20)), (vr, .inr (3, [.int (nI (R3_21)), .ref vRn, .ref vRp])), (vRn, .inl (cI, 8, .inl yrn_22)), (vRp, .inl (cI, 48, .inl yrp_23)), (vk, .inl (cI, 8, .inl yk_24)), (vw, .inr (3, [.int (nI (W3_25)), .ref vWn, .ref vWp])), (vWn, .inl (cI, 8, .inl ywn_26)), (vWp, .inl (cI, 48, .inl ywp_27)), (vtt, .inl (cI, 8, .inl yt_28)), (vss, .inl (cI, 8, .inl ys_29)), (qt, .inr (7, [.int 0, .ref tb, .int tk2_30, .int (nI (s2_31)), .int (nI (x2_32)), .int (nI (v2_33)), .int t2_34])), (tb, .inl (cI, 120, .inl by9)), (g0, .inr (9, [.ref m_ys, .ref m_yk, .ref m_yo, .ref m_yt, .int b0, .ref m_yfa, .ref m_yfe, .int m_mL, .int m_mS, .int m_mM, .ref m_yro, .ref m_yhe, .ref m_ygr, .int m_mF, .int m_mC, .int m_mY, .ref m_yta, .int 0, .int (nI (f2_55)), .int (nI (t2_56)), .int v2_57, .int w2_58, .ref m_ywa, .ref m_ybi, .ref m_ysi, .ref m_ynu, .ref m_ymo])), (m_ys, .inl (cI, 449, .inl ms2_59)), (m_yo, .inl (cI, 449, .inl oo2_60)), (m_yta, .inl (cI, 120, .inl m_tp)), (m_ywa, .inl (cI, 6, .inl wa2_61))] ++ tl) := hD
  refine lv_pop hx hb dL_law_1158 rfl ?_
  refine lv_goto (tgt := 1483) hx hb dL_law_1159 (by decide) ?_
  exact kkx _ _ _ P2_2 xe_3 xl_4 xu_5 xo_6 R2_7 xrn_8 xrp_9 xk_10 W2_11 xwn_12 xwp_13 xt_14 xs_15 P3_16 ye_17 yl_18 yu_19 yo_20 R3_21 yrn_22 yrp_23 yk_24 W3_25 ywn_26 ywp_27 yt_28 ys_29 0 tk2_30 s2_31 x2_32 v2_33 t2_34 f2_55 t2_56 v2_57 w2_58 ms2_59 oo2_60 wa2_61 P2_62 R2_63 W2_64 (xt_P hP [0, 1, 2, 3, 4, 5, 6, 7, 8, 9, 10, 11, 12, 13, 14, 15, 16, 17, 18, 19, 20, 21, 22, 23, 24, 25, 26, 27, 28, 29, 30, 31, 32, 33, 34, 35] rfl) (xt_D hD [0, 1, 2, 3, 4, 5, 6, 7, 8, 9, 10, 11, 12, 13, 14, 15, 16, 17, 18, 19, 20, 21, 22, 23, 24, 25, 26, 27, 28, 29, 30, 31, 32, 33, 34, 35] (by decide +kernel) rfl) i_38 i_39 i_41 i_40 i_42 (by omega) i_35 i_36 i_37 i_46 i_47 i_48 i_49 i_50 i_51 i_52 i_53 i_65 i_66 i_67 i_68 i_69 i_70 i_71 i_72 i_73 hS hl
set_option maxHeartbeats 4000000 in
set_option maxRecDepth 100000 in
theorem law_34 {p : Program} {e : Env} {s : State} {m : MethodId} {below : List Frame} {meth : Method} {c : Code} (l : Launch) (D : va_G) (cI cJ cZ cS : ClassId) (ta : Nat) (sa sv : Nat → Nat) {b L : Nat} {xs : Nat → Int32} {A : Nat → Prop} (hL : L ≤ 3072) (hF : CallFix p m c cL_law 4 s #[Value.ref b] (Cond.initialized RX8 :: wsU) RL) (hr : meth.sig.returnType = ret) (hlk : meth.locks = false) (hK : va_K D vwCl (xT cI cJ cZ cS) s) (hN : XN sa s) (hX : va_X b L xs s s.heap) (hbl : b < s.heap.size) (hA : ∀ q : Nat, s.heap.size ≤ q → A q) (hbA : ¬ A b) (hAs : ∀ q, A q → s.heap.size ≤ q) (hZ : ST ta sa sv A s s.heap) (h0 g0 i : Nat) (hi : i + 6 ≤ L) (qh : Nat) (qk : Nat) (qd : Nat) (b0 : Int32) (qa : Nat) (qm : Nat) (qs : Nat) (qp : Nat) (ql : Nat) (qt : Nat) (qz : Nat) (qf : Nat) (s0 : Nat) (s1 : Nat) (s2 : Nat) (s3 : Nat) (bt0 : Int32) (sz0 : Nat) (sn0 : Nat) (bt1 : Int32) (sz1 : Nat) (sn1 : Nat) (bt2 : Int32) (sz2 : Nat) (sn2 : Nat) (bt3 : Int32) (sz3 : Nat) (sn3 : Nat) (nu0 : Nat → Int64) (nu1 : Nat → Int64) (nu2 : Nat → Int64) (nu3 : Nat → Int64) (ff : Nat → Int32) (m_ys : Nat) (m_yk : Nat) (m_yo : Nat) (m_yt : Nat) (m_yfa : Nat) (m_yfe : Nat) (m_mL : Int32) (m_mS : Int32) (m_mM : Int32) (m_yro : Nat) (m_yhe : Nat) (m_ygr : Nat) (m_mF : Int32) (m_mC : Int32) (m_mY : Int32) (m_yta : Nat) (z : Nat) (m_mf : Nat) (m_mt : Nat) (m_mv : Int32) (m_mw : Int32) (m_ywa : Nat) (m_ybi : Nat) (m_ysi : Nat) (m_ynu : Nat) (m_ymo : Nat) (m_mq : Nat → Int32) (m_bi : Nat → Int32) (m_sq : Nat → Int32) (m_nb : Nat → Int64) {tl : va_W} {H : Heap} {locs : List Loc} {ls : Array Slot} (hP : va_P D vwCl ([(h0, .inr (8, [.ref qh, .ref qk, .ref qd, .int b0, .ref qa, .ref qm, .ref qs, .ref qp, .ref ql, .ref qt, .ref qz, .ref qf])), (qz, .inl (cS, 4, .inr (.inr (.inr (.inr (xSh s0 s1 s2 s3)))))), (s0, .inr (4, [.int bt0, .int (nI (sz0)), .ref sn0])), (s1, .inr (4, [.int bt1, .int (nI (sz1)), .ref sn1])), (s2, .inr (4, [.int bt2, .int (nI (sz2)), .ref sn2])), (s3, .inr (4, [.int bt3, .int (nI (sz3)), .ref sn3])), (sn0, .inl (cJ, 40, .inr (.inl nu0))), (sn1, .inl (cJ, 40, .inr (.inl nu1))), (sn2, .inl (cJ, 40, .inr (.inl nu2))), (sn3, .inl (cJ, 40, .inr (.inl nu3))), (qf, .inl (cI, 7, .inl ff)), (g0, .inr (9, [.ref m_ys, .ref m_yk, .ref m_yo, .ref m_yt, .int b0, .ref m_yfa, .ref m_yfe, .int m_mL, .int m_mS, .int m_mM, .ref m_yro, .ref m_yhe, .ref m_ygr, .int m_mF, .int m_mC, .int m_mY, .ref m_yta, .int (nI (z)), .int (nI (m_mf)), .int (nI (m_mt)), .int m_mv, .int m_mw, .ref m_ywa, .ref m_ybi, .ref m_ysi, .ref m_ynu, .ref m_ymo])), (m_yt, .inl (cI, 7, .inl m_mq)), (m_ybi, .inl (cI, 4, .inl m_bi)), (m_ysi, .inl (cI, 4, .inl m_sq)), (m_ynu, .inl (cJ, 160, .inr (.inl m_nb)))] ++ tl) H) (hD : va_D A ([(h0, .inr (8, [.ref qh, .ref qk, .ref qd, .int b0, .ref qa, .ref qm, .ref qs, .ref qp, .ref ql, .ref qt, .ref qz, .ref qf])), (qz, .inl (cS, 4, .inr (.inr (.inr (.inr (xSh s0 s1 s2 s3)))))), (s0, .inr (4, [.int bt0, .int (nI (sz0)), .ref sn0])), (s1, .inr (4, [.int bt1, .int (nI (sz1)), .ref sn1])), (s2, .inr (4, [.int bt2, .int (nI (sz2)), .ref sn2])), (s3, .inr (4, [.int bt3, .int (nI (sz3)), .ref sn3])), (sn0, .inl (cJ, 40, .inr (.inl nu0))), (sn1, .inl (cJ, 40, .inr (.inl nu1))), (sn2, .inl (cJ, 40, .inr (.inl nu2))), (sn3, .inl (cJ, 40, .inr (.inl nu3))), (qf, .inl (cI, 7, .inl ff)), (g0, .inr (9, [.ref m_ys, .ref m_yk, .ref m_yo, .ref m_yt, .int b0, .ref m_yfa, .ref m_yfe, .int m_mL, .int m_mS, .int m_mM, .ref m_yro, .ref m_yhe, .ref m_ygr, .int m_mF, .int m_mC, .int m_mY, .ref m_yta, .int (nI (z)), .int (nI (m_mf)), .int (nI (m_mt)), .int m_mv, .int m_mw, .ref m_ywa, .ref m_ybi, .ref m_ysi, .ref m_ynu, .ref m_ymo])), (m_yt, .inl (cI, 7, .inl m_mq)), (m_ybi, .inl (cI, 4, .inl m_bi)), (m_ysi, .inl (cI, 4, .inl m_sq)), (m_ynu, .inl (cJ, 160, .inr (.inl m_nb)))] ++ tl)) (hz : z ≤ 120) (hsz0 : sz0 ≤ 40) (hsz1 : sz1 ≤ 40) (hsz2 : sz2 ≤ 40) (hsz3 : sz3 ≤ 40) (r_b0 : m_bi 0 = bt0) (r_z0 : m_sq 0 = nI sz0) (r_n0 : ∀ j, j < 40 → m_nb (0 + j) = nu0 j) (r_b1 : m_bi 1 = bt1) (r_z1 : m_sq 1 = nI sz1) (r_n1 : ∀ j, j < 40 → m_nb (40 + j) = nu1 j) (r_b2 : m_bi 2 = bt2) (r_z2 : m_sq 2 = nI sz2) (r_n2 : ∀ j, j < 40 → m_nb (80 + j) = nu2 j) (r_b3 : m_bi 3 = bt3) (r_z3 : m_sq 3 = nI sz3) (r_n3 : ∀ j, j < 40 → m_nb (120 + j) = nu3 j) (m_hsq : BA 4 41 m_sq) (hS : va_S A s.heap H locs) (hl : lv_has ls 4 [(3, .int (nI i)), (2, .ref g0), (1, .ref h0), (0, .ref b)]) (kkx : ∀ (H : Heap) (locs : List Loc) (ls : Array Slot) (bt0_n : Int32) (sz0_n : Nat) (bt1_n : Int32) (sz1_n : Nat) (bt2_n : Int32) (sz2_n : Nat) (bt3_n : Int32) (sz3_n : Nat) (nu0_n : Nat → Int64) (nu1_n : Nat → Int64) (nu2_n : Nat → Int64) (nu3_n : Nat → Int64) (ff_n : Nat → Int32) (m_mq_n : Nat → Int32) (m_bi_n : Nat → Int32) (m_sq_n : Nat → Int32) (m_nb_n : Nat → Int64), va_P D vwCl ([(h0, .inr (8, [.ref qh, .ref qk, .ref qd, .int b0, .ref qa, .ref qm, .ref qs, .ref qp, .ref ql, .ref qt, .ref qz, .ref qf])), (qz, .inl (cS, 4, .inr (.inr (.inr (.inr (xSh s0 s1 s2 s3)))))), (s0, .inr (4, [.int bt0_n, .int (nI (sz0_n)), .ref sn0])), (s1, .inr (4, [.int bt1_n, .int (nI (sz1_n)), .ref sn1])), (s2, .inr (4, [.int bt2_n, .int (nI (sz2_n)), .ref sn2])), (s3, .inr (4, [.int bt3_n, .int (nI (sz3_n)), .ref sn3])), (sn0, .inl (cJ, 40, .inr (.inl nu0_n))), (sn1, .inl (cJ, 40, .inr (.inl nu1_n))), (sn2, .inl (cJ, 40, .inr (.inl nu2_n))), (sn3, .inl (cJ, 40, .inr (.inl nu3_n))), (qf, .inl (cI, 7, .inl ff_n)), (g0, .inr (9, [.ref m_ys, .ref m_yk, .ref m_yo, .ref m_yt, .int b0, .ref m_yfa, .ref m_yfe, .int m_mL, .int m_mS, .int m_mM, .ref m_yro, .ref m_yhe, .ref m_ygr, .int m_mF, .int m_mC, .int m_mY, .ref m_yta, .int (nI (z)), .int (nI (m_mf)), .int (nI (m_mt)), .int m_mv, .int m_mw, .ref m_ywa, .ref m_ybi, .ref m_ysi, .ref m_ynu, .ref m_ymo])), (m_yt, .inl (cI, 7, .inl m_mq_n)), (m_ybi, .inl (cI, 4, .inl m_bi_n)), (m_ysi, .inl (cI, 4, .inl m_sq_n)), (m_ynu, .inl (cJ, 160, .inr (.inl m_nb_n)))] ++ tl) H → va_D A ([(h0, .inr (8, [.ref qh, .ref qk, .ref qd, .int b0, .ref qa, .ref qm, .ref qs, .ref qp, .ref ql, .ref qt, .ref qz, .ref qf])), (qz, .inl (cS, 4, .inr (.inr (.inr (.inr (xSh s0 s1 s2 s3)))))), (s0, .inr (4, [.int bt0_n, .int (nI (sz0_n)), .ref sn0])), (s1, .inr (4, [.int bt1_n, .int (nI (sz1_n)), .ref sn1])), (s2, .inr (4, [.int bt2_n, .int (nI (sz2_n)), .ref sn2])), (s3, .inr (4, [.int bt3_n, .int (nI (sz3_n)), .ref sn3])), (sn0, .inl (cJ, 40, .inr (.inl nu0_n))), (sn1, .inl (cJ, 40, .inr (.inl nu1_n))), (sn2, .inl (cJ, 40, .inr (.inl nu2_n))), (sn3, .inl (cJ, 40, .inr (.inl nu3_n))), (qf, .inl (cI, 7, .inl ff_n)), (g0, .inr (9, [.ref m_ys, .ref m_yk, .ref m_yo, .ref m_yt, .int b0, .ref m_yfa, .ref m_yfe, .int m_mL, .int m_mS, .int m_mM, .ref m_yro, .ref m_yhe, .ref m_ygr, .int m_mF, .int m_mC, .int m_mY, .ref m_yta, .int (nI (z)), .int (nI (m_mf)), .int (nI (m_mt)), .int m_mv, .int m_mw, .ref m_ywa, .ref m_ybi, .ref m_ysi, .ref m_ynu, .ref m_ymo])), (m_yt, .inl (cI, 7, .inl m_mq_n)), (m_ybi, .inl (cI, 4, .inl m_bi_n)), (m_ysi, .inl (cI, 4, .inl m_sq_n)), (m_ynu, .inl (cJ, 160, .inr (.inl m_nb_n)))] ++ tl) → (sz0_n ≤ 40) → (sz1_n ≤ 40) → (sz2_n ≤ 40) → (sz3_n ≤ 40) → (m_bi_n 0 = bt0_n) → (m_sq_n 0 = nI sz0_n) → (∀ j, j < 40 → m_nb_n (0 + j) = nu0_n j) → (m_bi_n 1 = bt1_n) → (m_sq_n 1 = nI sz1_n) → (∀ j, j < 40 → m_nb_n (40 + j) = nu1_n j) → (m_bi_n 2 = bt2_n) → (m_sq_n 2 = nI sz2_n) → (∀ j, j < 40 → m_nb_n (80 + j) = nu2_n j) → (m_bi_n 3 = bt3_n) → (m_sq_n 3 = nI sz3_n) → (∀ j, j < 40 → m_nb_n (120 + j) = nu3_n j) → (BA 4 41 m_sq_n) → va_S A s.heap H locs → lv_has ls 4 [(3, .int (nI i)), (2, .ref g0), (1, .ref h0), (0, .ref b)] → W p l e room_1 s m #[Value.ref b] below meth c H locs 82 4273 (lw_Z below #[Value.ref b] s) (F0 m 1483 ls [])) : W p l e room_1 s m #[Value.ref b] below meth c H locs 82 4273 (lw_Z below #[Value.ref b] s) (F0 m 1162 ls []) := by
  have hx := hF.1
  have hb := hF.2.1
  have hml := hF.2.2.1
  have hown := hF.2.2.2.1
  have hu : ∀ w ∈ wsU, w.before _ s = true := fun w h => hF.2.2.2.2 w (List.mem_cons_of_mem _ h)
  rcases x_sh4 (xs (i + 1)) with oq1 | eq1 | eq1 | eq1 | eq1
  · skip
    refine lv_aload_n hx hb dL_law_1162 rfl (lv_at hl 2 rfl) ?_
    refine lv_aload_n hx hb dL_law_1163 rfl (lv_at hl 3 rfl) ?_
    refine lv_iload_n hx hb dL_law_1164 rfl (lv_at hl 0 rfl) ?_
    refine lv_iconst (v := 1) hx hb dL_law_1165 (by decide) ?_
    refine lv_iadd hx hb dL_law_1166 ?_
    refine xl_i (y := nI (i + 1)) (nI_add i 1) ?_
    refine va_sld hx hb hX hbl hbA hS (x_si (k := 1) (by decide) hi hL) dL_law_1167 ?_
    refine xl_i (y := xs (i + 1)) (congrArg xs (x_sc (k := 1) (by decide) hi hL)) ?_
    refine lv_aload_n hx hb dL_law_1168 rfl (lv_at hl 3 rfl) ?_
    refine lv_iload_n hx hb dL_law_1169 rfl (lv_at hl 0 rfl) ?_
    refine lv_iconst (v := 2) hx hb dL_law_1170 (by decide) ?_
    refine lv_iadd hx hb dL_law_1171 ?_
    refine xl_i (y := nI (i + 2)) (nI_add i 2) ?_
    refine va_sld hx hb hX hbl hbA hS (x_si (k := 2) (by decide) hi hL) dL_law_1172 ?_
    refine xl_i (y := xs (i + 2)) (congrArg xs (x_sc (k := 2) (by decide) hi hL)) ?_
    refine lv_aload_n hx hb dL_law_1173 rfl (lv_at hl 3 rfl) ?_
    refine lv_iload_n hx hb dL_law_1174 rfl (lv_at hl 0 rfl) ?_
    refine lv_iconst (v := 3) hx hb dL_law_1175 (by decide) ?_
    refine lv_iadd hx hb dL_law_1176 ?_
    refine xl_i (y := nI (i + 3)) (nI_add i 3) ?_
    refine va_sld hx hb hX hbl hbA hS (x_si (k := 3) (by decide) hi hL) dL_law_1177 ?_
    refine xl_i (y := xs (i + 3)) (congrArg xs (x_sc (k := 3) (by decide) hi hL)) ?_
    refine xc_ViT (wr := [(qz, .inl (cS, 4, .inr (.inr (.inr (.inr (xSh s0 s1 s2 s3)))))), (s0, .inr (4, [.int bt0, .int (nI (sz0)), .ref sn0])), (s1, .inr (4, [.int bt1, .int (nI (sz1)), .ref sn1])), (s2, .inr (4, [.int bt2, .int (nI (sz2)), .ref sn2])), (s3, .inr (4, [.int bt3, .int (nI (sz3)), .ref sn3])), (sn0, .inl (cJ, 40, .inr (.inl nu0))), (sn1, .inl (cJ, 40, .inr (.inl nu1))), (sn2, .inl (cJ, 40, .inr (.inl nu2))), (sn3, .inl (cJ, 40, .inr (.inl nu3))), (g0, .inr (9, [.ref m_ys, .ref m_yk, .ref m_yo, .ref m_yt, .int b0, .ref m_yfa, .ref m_yfe, .int m_mL, .int m_mS, .int m_mM, .ref m_yro, .ref m_yhe, .ref m_ygr, .int m_mF, .int m_mC, .int m_mY, .ref m_yta, .int (nI (z)), .int (nI (m_mf)), .int (nI (m_mt)), .int m_mv, .int m_mw, .ref m_ywa, .ref m_ybi, .ref m_ysi, .ref m_ynu, .ref m_ymo])), (m_yt, .inl (cI, 7, .inl m_mq)), (m_ybi, .inl (cI, 4, .inl m_bi)), (m_ysi, .inl (cI, 4, .inl m_sq)), (m_ynu, .inl (cJ, 160, .inr (.inl m_nb)))]) hF (c_X8_sheet_o l D cI cJ cZ cS ta sa sv H.size h0 qh qk qd b0 qa qm qs qp ql qt qz qf ff (xs (i + 1)) (xs (i + 2)) (xs (i + 3)) oq1) kv_L_155 ⟨rfl, rfl, Nat.le_of_ble_eq_true rfl, Nat.le_of_ble_eq_true rfl⟩ ⟨Nat.le_of_ble_eq_true rfl, Nat.le_of_ble_eq_true rfl⟩ hK hN hZ hP hD hS hA [0, 10] [1, 2, 3, 4, 5, 6, 7, 8, 9, 11, 12, 13, 14, 15] rfl rfl rfl rfl (by decide) 0 rfl rfl rfl rfl hl.1 rfl (Nat.le_of_ble_eq_true rfl) dL_law_1178 (fun r_1 u_r_1 H locs hw_r_1 hP hD hS => ?_)
    obtain ⟨f2_2, rfl⟩ : ∃ z, z = u_r_1 := ⟨_, rfl⟩
    try dsimp only at hw_r_1
    have hP : va_P D vwCl ([(qz, .inl (cS, 4, .inr (.inr (.inr (.inr (xSh s0 s1 s2 s3)))))), (s0, .inr (4, [.int bt0, .int (nI (sz0)), .ref sn0])), (s1, .inr (4, [.int bt1, .int (nI (sz1)), .ref sn1])), (s2, .inr (4, [.int bt2, .int (nI (sz2)), .ref sn2])), (s3, .inr (4, [.int bt3, .int (nI (sz3)), .ref sn3])), (sn0, .inl (cJ, 40, .inr (.inl nu0))), (sn1, .inl (cJ, 40, .inr (.inl nu1))), (sn2, .inl (cJ, 40, .inr (.inl nu2))), (sn3, .inl (cJ, 40, .inr (.inl nu3))), (g0, .inr (9, [.ref m_ys, .ref m_yk, .ref m_yo, .ref m_yt, .int b0, .ref m_yfa, .ref m_yfe, .int m_mL, .int m_mS, .int m_mM, .ref m_yro, .ref m_yhe, .ref m_ygr, .int m_mF, .int m_mC, .int m_mY, .ref m_yta, .int (nI (z)), .int (nI (m_mf)), .int (nI (m_mt)), .int m_mv, .int m_mw, .ref m_ywa, .ref m_ybi, .ref m_ysi, .ref m_ynu, .ref m_ymo])), (m_yt, .inl (cI, 7, .inl m_mq)), (m_ybi, .inl (cI, 4, .inl m_bi)), (m_ysi, .inl (cI, 4, .inl m_sq)), (m_ynu, .inl (cJ, 160, .inr (.inl m_nb))), (h0, .inr (8, [.ref qh, .ref qk, .ref qd, .int b0, .ref qa, .ref qm, .ref qs, .ref qp, .ref ql, .ref qt, .ref qz, .ref qf])), (qf, .inl (cI, 7, .inl f2_2))] ++ tl) H := hP
    have hD : va_D A ([(qz, .inl (cS, 4, .inr (.inr (.inr (.inr (xSh s0 s1 s2 s3)))))), (s0, .inr (4, [.int bt0, .int (nI (sz0)), .ref sn0])), (s1, .inr (4, [.int bt1, .int (nI (sz1)), .ref sn1])), (s2, .inr (4, [.int bt2, .int (nI (sz2)), .ref sn2])), (s3, .inr (4, [.int bt3, .int (nI (sz3)), .ref sn3])), (sn0, .inl (cJ, 40, .inr (.inl nu0))), (sn1, .inl (cJ, 40, .inr (.inl nu1))), (sn2, .inl (cJ, 40, .inr (.inl nu2))), (sn3, .inl (cJ, 40, .inr (.inl nu3))), (g0, .inr (9, [.ref m_ys, .ref m_yk, .ref m_yo, .ref m_yt, .int b0, .ref m_yfa, .ref m_yfe, .int m_mL, .int m_mS, .int m_mM, .ref m_yro, .ref m_yhe, .ref m_ygr, .int m_mF, .int m_mC, .int m_mY, .ref m_yta, .int (nI (z)), .int (nI (m_mf)), .int (nI (m_mt)), .int m_mv, .int m_mw, .ref m_ywa, .ref m_ybi, .ref m_ysi, .ref m_ynu, .ref m_ymo])), (m_yt, .inl (cI, 7, .inl m_mq)), (m_ybi, .inl (cI, 4, .inl m_bi)), (m_ysi, .inl (cI, 4, .inl m_sq)), (m_ynu, .inl (cJ, 160, .inr (.inl m_nb))), (h0, .inr (8, [.ref qh, .ref qk, .ref qd, .int b0, .ref qa, .ref qm, .ref qs, .ref qp, .ref ql, .ref qt, .ref qz, .ref qf])), (qf, .inl (cI, 7, .inl f2_2))] ++ tl) := hD
    subst hw_r_1
    refine lv_pop hx hb dL_law_1181 rfl ?_
    refine lv_aload_n hx hb dL_law_1182 rfl (lv_at hl 1 rfl) ?_
    refine lv_aload_n hx hb dL_law_1183 rfl (lv_at hl 3 rfl) ?_
    refine lv_iload_n hx hb dL_law_1184 rfl (lv_at hl 0 rfl) ?_
    refine lv_iconst (v := 1) hx hb dL_law_1185 (by decide) ?_
    refine lv_iadd hx hb dL_law_1186 ?_
    refine xl_i (y := nI (i + 1)) (nI_add i 1) ?_
    refine va_sld hx hb hX hbl hbA hS (x_si (k := 1) (by decide) hi hL) dL_law_1187 ?_
    refine xl_i (y := xs (i + 1)) (congrArg xs (x_sc (k := 1) (by decide) hi hL)) ?_
    refine lv_aload_n hx hb dL_law_1188 rfl (lv_at hl 3 rfl) ?_
    refine lv_iload_n hx hb dL_law_1189 rfl (lv_at hl 0 rfl) ?_
    refine lv_iconst (v := 2) hx hb dL_law_1190 (by decide) ?_
    refine lv_iadd hx hb dL_law_1191 ?_
    refine xl_i (y := nI (i + 2)) (nI_add i 2) ?_
    refine va_sld hx hb hX hbl hbA hS (x_si (k := 2) (by decide) hi hL) dL_law_1192 ?_
    refine xl_i (y := xs (i + 2)) (congrArg xs (x_sc (k := 2) (by decide) hi hL)) ?_
    refine lv_aload_n hx hb dL_law_1193 rfl (lv_at hl 3 rfl) ?_
    refine lv_iload_n hx hb dL_law_1194 rfl (lv_at hl 0 rfl) ?_
    refine lv_iconst (v := 3) hx hb dL_law_1195 (by decide) ?_
    refine lv_iadd hx hb dL_law_1196 ?_
    refine xl_i (y := nI (i + 3)) (nI_add i 3) ?_
    refine va_sld hx hb hX hbl hbA hS (x_si (k := 3) (by decide) hi hL) dL_law_1197 ?_
    refine xl_i (y := xs (i + 3)) (congrArg xs (x_sc (k := 3) (by decide) hi hL)) ?_
    refine xc_ViT (wr := [(qz, .inl (cS, 4, .inr (.inr (.inr (.inr (xSh s0 s1 s2 s3)))))), (s0, .inr (4, [.int bt0, .int (nI (sz0)), .ref sn0])), (s1, .inr (4, [.int bt1, .int (nI (sz1)), .ref sn1])), (s2, .inr (4, [.int bt2, .int (nI (sz2)), .ref sn2])), (s3, .inr (4, [.int bt3, .int (nI (sz3)), .ref sn3])), (sn0, .inl (cJ, 40, .inr (.inl nu0))), (sn1, .inl (cJ, 40, .inr (.inl nu1))), (sn2, .inl (cJ, 40, .inr (.inl nu2))), (sn3, .inl (cJ, 40, .inr (.inl nu3))), (m_ybi, .inl (cI, 4, .inl m_bi)), (m_ysi, .inl (cI, 4, .inl m_sq)), (m_ynu, .inl (cJ, 160, .inr (.inl m_nb))), (h0, .inr (8, [.ref qh, .ref qk, .ref qd, .int b0, .ref qa, .ref qm, .ref qs, .ref qp, .ref ql, .ref qt, .ref qz, .ref qf])), (qf, .inl (cI, 7, .inl f2_2))]) hF (c_X9_sheet_o l D cI cJ cZ cS ta sa sv H.size g0 m_ys m_yk m_yo m_yt b0 m_yfa m_yfe m_mL m_mS m_mM m_yro m_yhe m_ygr m_mF m_mC m_mY m_yta z m_mf m_mt m_mv m_mw m_ywa m_ybi m_ysi m_ynu m_ymo m_mq (xs (i + 1)) (xs (i + 2)) (xs (i + 3)) oq1) kv_L_158 ⟨rfl, rfl, Nat.le_of_ble_eq_true rfl, Nat.le_of_ble_eq_true rfl⟩ ⟨Nat.le_of_ble_eq_true rfl, Nat.le_of_ble_eq_true rfl⟩ hK hN hZ hP hD hS hA [9, 10] [0, 1, 2, 3, 4, 5, 6, 7, 8, 11, 12, 13, 14, 15] rfl rfl rfl rfl (by decide) 0 rfl rfl rfl rfl hl.1 rfl (Nat.le_of_ble_eq_true rfl) dL_law_1198 (fun r_3 u_r_3 H locs hw_r_3 hP hD hS => ?_)
    obtain ⟨mq2_4, rfl⟩ : ∃ z, z = u_r_3 := ⟨_, rfl⟩
    try dsimp only at hw_r_3
    have hP : va_P D vwCl ([(qz, .inl (cS, 4, .inr (.inr (.inr (.inr (xSh s0 s1 s2 s3)))))), (s0, .inr (4, [.int bt0, .int (nI (sz0)), .ref sn0])), (s1, .inr (4, [.int bt1, .int (nI (sz1)), .ref sn1])), (s2, .inr (4, [.int bt2, .int (nI (sz2)), .ref sn2])), (s3, .inr (4, [.int bt3, .int (nI (sz3)), .ref sn3])), (sn0, .inl (cJ, 40, .inr (.inl nu0))), (sn1, .inl (cJ, 40, .inr (.inl nu1))), (sn2, .inl (cJ, 40, .inr (.inl nu2))), (sn3, .inl (cJ, 40, .inr (.inl nu3))), (m_ybi, .inl (cI, 4, .inl m_bi)), (m_ysi, .inl (cI, 4, .inl m_sq)), (m_ynu, .inl (cJ, 160, .inr (.inl m_nb))), (h0, .inr (8, [.ref qh, .ref qk, .ref qd, .int b0, .ref qa, .ref qm, .ref qs, .ref qp, .ref ql, .ref qt, .ref qz, .ref qf])), (qf, .inl (cI, 7, .inl f2_2)), (g0, .inr (9, [.ref m_ys, .ref m_yk, .ref m_yo, .ref m_yt, .int b0, .ref m_yfa, .ref m_yfe, .int m_mL, .int m_mS, .int m_mM, .ref m_yro, .ref m_yhe, .ref m_ygr, .int m_mF, .int m_mC, .int m_mY, .ref m_yta, .int (nI (z)), .int (nI (m_mf)), .int (nI (m_mt)), .int m_mv, .int m_mw, .ref m_ywa, .ref m_ybi, .ref m_ysi, .ref m_ynu, .ref m_ymo])), (m_yt, .inl (cI, 7, .inl mq2_4))] ++ tl) H := hP
    have hD : va_D A ([(qz, .inl (cS, 4, .inr (.inr (.inr (.inr (xSh s0 s1 s2 s3)))))), (s0, .inr (4, [.int bt0, .int (nI (sz0)), .ref sn0])), (s1, .inr (4, [.int bt1, .int (nI (sz1)), .ref sn1])), (s2, .inr (4, [.int bt2, .int (nI (sz2)), .ref sn2])), (s3, .inr (4, [.int bt3, .int (nI (sz3)), .ref sn3])), (sn0, .inl (cJ, 40, .inr (.inl nu0))), (sn1, .inl (cJ, 40, .inr (.inl nu1))), (sn2, .inl (cJ, 40, .inr (.inl nu2))), (sn3, .inl (cJ, 40, .inr (.inl nu3))), (m_ybi, .inl (cI, 4, .inl m_bi)), (m_ysi, .inl (cI, 4, .inl m_sq)), (m_ynu, .inl (cJ, 160, .inr (.inl m_nb))), (h0, .inr (8, [.ref qh, .ref qk, .ref qd, .int b0, .ref qa, .ref qm, .ref qs, .ref qp, .ref ql, .ref qt, .ref qz, .ref qf])), (qf, .inl (cI, 7, .inl f2_2)), (g0, .inr (9, [.ref m_ys, .ref m_yk, .ref m_yo, .ref m_yt, .int b0, .ref m_yfa, .ref m_yfe, .int m_mL, .int m_mS, .int m_mM, .ref m_yro, .ref m_yhe, .ref m_ygr, .int m_mF, .int m_mC, .int m_mY, .ref m_yta, .int (nI (z)), .int (nI (m_mf)), .int (nI (m_mt)), .int m_mv, .int m_mw, .ref m_ywa, .ref m_ybi, .ref m_ysi, .ref m_ynu, .ref m_ymo])), (m_yt, .inl (cI, 7, .inl mq2_4))] ++ tl) := hD
    subst hw_r_3
    refine lv_pop hx hb dL_law_1201 rfl ?_
    refine lv_goto (tgt := 1483) hx hb dL_law_1202 (by decide) ?_
    exact kkx _ _ _ bt0 sz0 bt1 sz1 bt2 sz2 bt3 sz3 nu0 nu1 nu2 nu3 f2_2 mq2_4 m_bi m_sq m_nb (xt_P hP [12, 0, 1, 2, 3, 4, 5, 6, 7, 8, 13, 14, 15, 9, 10, 11] rfl) (xt_D hD [12, 0, 1, 2, 3, 4, 5, 6, 7, 8, 13, 14, 15, 9, 10, 11] (by decide +kernel) rfl) hsz0 hsz1 hsz2 hsz3 r_b0 r_z0 r_n0 r_b1 r_z1 r_n1 r_b2 r_z2 r_n2 r_b3 r_z3 r_n3 m_hsq hS hl
  · skip
    refine lv_aload_n hx hb dL_law_1162 rfl (lv_at hl 2 rfl) ?_
    refine lv_aload_n hx hb dL_law_1163 rfl (lv_at hl 3 rfl) ?_
    refine lv_iload_n hx hb dL_law_1164 rfl (lv_at hl 0 rfl) ?_
    refine lv_iconst (v := 1) hx hb dL_law_1165 (by decide) ?_
    refine lv_iadd hx hb dL_law_1166 ?_
    refine xl_i (y := nI (i + 1)) (nI_add i 1) ?_
    refine va_sld hx hb hX hbl hbA hS (x_si (k := 1) (by decide) hi hL) dL_law_1167 ?_
    refine xl_i (y := xs (i + 1)) (congrArg xs (x_sc (k := 1) (by decide) hi hL)) ?_
    refine xl_i (y := 0) eq1 ?_
    refine lv_aload_n hx hb dL_law_1168 rfl (lv_at hl 3 rfl) ?_
    refine lv_iload_n hx hb dL_law_1169 rfl (lv_at hl 0 rfl) ?_
    refine lv_iconst (v := 2) hx hb dL_law_1170 (by decide) ?_
    refine lv_iadd hx hb dL_law_1171 ?_
    refine xl_i (y := nI (i + 2)) (nI_add i 2) ?_
    refine va_sld hx hb hX hbl hbA hS (x_si (k := 2) (by decide) hi hL) dL_law_1172 ?_
    refine xl_i (y := xs (i + 2)) (congrArg xs (x_sc (k := 2) (by decide) hi hL)) ?_
    refine lv_aload_n hx hb dL_law_1173 rfl (lv_at hl 3 rfl) ?_
    refine lv_iload_n hx hb dL_law_1174 rfl (lv_at hl 0 rfl) ?_
    refine lv_iconst (v := 3) hx hb dL_law_1175 (by decide) ?_
    refine lv_iadd hx hb dL_law_1176 ?_
    refine xl_i (y := nI (i + 3)) (nI_add i 3) ?_
    refine va_sld hx hb hX hbl hbA hS (x_si (k := 3) (by decide) hi hL) dL_law_1177 ?_
    refine xl_i (y := xs (i + 3)) (congrArg xs (x_sc (k := 3) (by decide) hi hL)) ?_
    refine xc_ViT (wr := [(g0, .inr (9, [.ref m_ys, .ref m_yk, .ref m_yo, .ref m_yt, .int b0, .ref m_yfa, .ref m_yfe, .int m_mL, .int m_mS, .int m_mM, .ref m_yro, .ref m_yhe, .ref m_ygr, .int m_mF, .int m_mC, .int m_mY, .ref m_yta, .int (nI (z)), .int (nI (m_mf)), .int (nI (m_mt)), .int m_mv, .int m_mw, .ref m_ywa, .ref m_ybi, .ref m_ysi, .ref m_ynu, .ref m_ymo])), (m_yt, .inl (cI, 7, .inl m_mq)), (m_ybi, .inl (cI, 4, .inl m_bi)), (m_ysi, .inl (cI, 4, .inl m_sq)), (m_ynu, .inl (cJ, 160, .inr (.inl m_nb)))]) hF (c_X8_sheet_0 l D cI cJ cZ cS ta sa sv H.size h0 qh qk qd b0 qa qm qs qp ql qt qz qf s0 s1 s2 s3 bt0 sz0 sn0 bt1 sz1 sn1 bt2 sz2 sn2 bt3 sz3 sn3 nu0 nu1 nu2 nu3 ff (xs (i + 2)) (xs (i + 3)) hsz0 hsz1 hsz2 hsz3) kv_L_155 ⟨rfl, rfl, Nat.le_of_ble_eq_true rfl, Nat.le_of_ble_eq_true rfl⟩ ⟨Nat.le_of_ble_eq_true rfl, Nat.le_of_ble_eq_true rfl⟩ hK hN hZ hP hD hS hA [0, 1, 2, 3, 4, 5, 6, 7, 8, 9, 10] [11, 12, 13, 14, 15] rfl rfl rfl rfl (by decide) 0 rfl rfl rfl rfl hl.1 rfl (Nat.le_of_ble_eq_true rfl) dL_law_1178 (fun r_5 u_r_5 H locs hw_r_5 hP hD hS => ?_)
    obtain ⟨bu_6, sy_7, nv_8, f2_9⟩ := u_r_5
    try dsimp only at hw_r_5
    obtain ⟨hw_r_5, i_10, i_11, i_12, i_13⟩ := hw_r_5
    subst i_10
    subst i_11
    have hP : va_P D vwCl ([(g0, .inr (9, [.ref m_ys, .ref m_yk, .ref m_yo, .ref m_yt, .int b0, .ref m_yfa, .ref m_yfe, .int m_mL, .int m_mS, .int m_mM, .ref m_yro, .ref m_yhe, .ref m_ygr, .int m_mF, .int m_mC, .int m_mY, .ref m_yta, .int (nI (z)), .int (nI (m_mf)), .int (nI (m_mt)), .int m_mv, .int m_mw, .ref m_ywa, .ref m_ybi, .ref m_ysi, .ref m_ynu, .ref m_ymo])), (m_yt, .inl (cI, 7, .inl m_mq)), (m_ybi, .inl (cI, 4, .inl m_bi)), (m_ysi, .inl (cI, 4, .inl m_sq)), (m_ynu, .inl (cJ, 160, .inr (.inl m_nb))), (h0, .inr (8, [.ref qh, .ref qk, .ref qd, .int b0, .ref qa, .ref qm, .ref qs, .ref qp, .ref ql, .ref qt, .ref qz, .ref qf])), (qz, .inl (cS, 4, .inr (.inr (.inr (.inr (xSh s0 s1 s2 s3)))))), (s0, .inr (4, [.int (sp_sb (xs (i + 2)) (xs (i + 3)) bt0), .int (nI ((sp_sz (xs (i + 2)) (xs (i + 3)) sz0))), .ref sn0])), (s1, .inr (4, [.int bt1, .int (nI (sz1)), .ref sn1])), (s2, .inr (4, [.int bt2, .int (nI (sz2)), .ref sn2])), (s3, .inr (4, [.int bt3, .int (nI (sz3)), .ref sn3])), (sn0, .inl (cJ, 40, .inr (.inl nv_8))), (sn1, .inl (cJ, 40, .inr (.inl nu1))), (sn2, .inl (cJ, 40, .inr (.inl nu2))), (sn3, .inl (cJ, 40, .inr (.inl nu3))), (qf, .inl (cI, 7, .inl f2_9))] ++ tl) H := hP
    have hD : va_D A ([(g0, .inr (9, [.ref m_ys, .ref m_yk, .ref m_yo, .ref m_yt, .int b0, .ref m_yfa, .ref m_yfe, .int m_mL, .int m_mS, .int m_mM, .ref m_yro, .ref m_yhe, .ref m_ygr, .int m_mF, .int m_mC, .int m_mY, .ref m_yta, .int (nI (z)), .int (nI (m_mf)), .int (nI (m_mt)), .int m_mv, .int m_mw, .ref m_ywa, .ref m_ybi, .ref m_ysi, .ref m_ynu, .ref m_ymo])), (m_yt, .inl (cI, 7, .inl m_mq)), (m_ybi, .inl (cI, 4, .inl m_bi)), (m_ysi, .inl (cI, 4, .inl m_sq)), (m_ynu, .inl (cJ, 160, .inr (.inl m_nb))), (h0, .inr (8, [.ref qh, .ref qk, .ref qd, .int b0, .ref qa, .ref qm, .ref qs, .ref qp, .ref ql, .ref qt, .ref qz, .ref qf])), (qz, .inl (cS, 4, .inr (.inr (.inr (.inr (xSh s0 s1 s2 s3)))))), (s0, .inr (4, [.int (sp_sb (xs (i + 2)) (xs (i + 3)) bt0), .int (nI ((sp_sz (xs (i + 2)) (xs (i + 3)) sz0))), .ref sn0])), (s1, .inr (4, [.int bt1, .int (nI (sz1)), .ref sn1])), (s2, .inr (4, [.int bt2, .int (nI (sz2)), .ref sn2])), (s3, .inr (4, [.int bt3, .int (nI (sz3)), .ref sn3])), (sn0, .inl (cJ, 40, .inr (.inl nv_8))), (sn1, .inl (cJ, 40, .inr (.inl nu1))), (sn2, .inl (cJ, 40, .inr (.inl nu2))), (sn3, .inl (cJ, 40, .inr (.inl nu3))), (qf, .inl (cI, 7, .inl f2_9))] ++ tl) := hD
    subst hw_r_5
    refine lv_pop hx hb dL_law_1181 rfl ?_
    refine lv_aload_n hx hb dL_law_1182 rfl (lv_at hl 1 rfl) ?_
    refine lv_aload_n hx hb dL_law_1183 rfl (lv_at hl 3 rfl) ?_
    refine lv_iload_n hx hb dL_law_1184 rfl (lv_at hl 0 rfl) ?_
    refine lv_iconst (v := 1) hx hb dL_law_1185 (by decide) ?_
    refine lv_iadd hx hb dL_law_1186 ?_
    refine xl_i (y := nI (i + 1)) (nI_add i 1) ?_
    refine va_sld hx hb hX hbl hbA hS (x_si (k := 1) (by decide) hi hL) dL_law_1187 ?_
    refine xl_i (y := xs (i + 1)) (congrArg xs (x_sc (k := 1) (by decide) hi hL)) ?_
    refine xl_i (y := 0) eq1 ?_
    refine lv_aload_n hx hb dL_law_1188 rfl (lv_at hl 3 rfl) ?_
    refine lv_iload_n hx hb dL_law_1189 rfl (lv_at hl 0 rfl) ?_
    refine lv_iconst (v := 2) hx hb dL_law_1190 (by decide) ?_
    refine lv_iadd hx hb dL_law_1191 ?_
    refine xl_i (y := nI (i + 2)) (nI_add i 2) ?_
    refine va_sld hx hb hX hbl hbA hS (x_si (k := 2) (by decide) hi hL) dL_law_1192 ?_
    refine xl_i (y := xs (i + 2)) (congrArg xs (x_sc (k := 2) (by decide) hi hL)) ?_
    refine lv_aload_n hx hb dL_law_1193 rfl (lv_at hl 3 rfl) ?_
    refine lv_iload_n hx hb dL_law_1194 rfl (lv_at hl 0 rfl) ?_
    refine lv_iconst (v := 3) hx hb dL_law_1195 (by decide) ?_
    refine lv_iadd hx hb dL_law_1196 ?_
    refine xl_i (y := nI (i + 3)) (nI_add i 3) ?_
    refine va_sld hx hb hX hbl hbA hS (x_si (k := 3) (by decide) hi hL) dL_law_1197 ?_
    refine xl_i (y := xs (i + 3)) (congrArg xs (x_sc (k := 3) (by decide) hi hL)) ?_
    refine xc_ViT (wr := [(h0, .inr (8, [.ref qh, .ref qk, .ref qd, .int b0, .ref qa, .ref qm, .ref qs, .ref qp, .ref ql, .ref qt, .ref qz, .ref qf])), (qz, .inl (cS, 4, .inr (.inr (.inr (.inr (xSh s0 s1 s2 s3)))))), (s0, .inr (4, [.int (sp_sb (xs (i + 2)) (xs (i + 3)) bt0), .int (nI ((sp_sz (xs (i + 2)) (xs (i + 3)) sz0))), .ref sn0])), (s1, .inr (4, [.int bt1, .int (nI (sz1)), .ref sn1])), (s2, .inr (4, [.int bt2, .int (nI (sz2)), .ref sn2])), (s3, .inr (4, [.int bt3, .int (nI (sz3)), .ref sn3])), (sn0, .inl (cJ, 40, .inr (.inl nv_8))), (sn1, .inl (cJ, 40, .inr (.inl nu1))), (sn2, .inl (cJ, 40, .inr (.inl nu2))), (sn3, .inl (cJ, 40, .inr (.inl nu3))), (qf, .inl (cI, 7, .inl f2_9))]) hF (c_X9_sheet_0 l D cI cJ cZ cS ta sa sv H.size g0 m_ys m_yk m_yo m_yt b0 m_yfa m_yfe m_mL m_mS m_mM m_yro m_yhe m_ygr m_mF m_mC m_mY m_yta z m_mf m_mt m_mv m_mw m_ywa m_ybi m_ysi m_ynu m_ymo m_bi m_sq m_nb m_mq (xs (i + 2)) (xs (i + 3)) sz0 r_z0 hsz0 m_hsq) kv_L_158 ⟨rfl, rfl, Nat.le_of_ble_eq_true rfl, Nat.le_of_ble_eq_true rfl⟩ ⟨Nat.le_of_ble_eq_true rfl, Nat.le_of_ble_eq_true rfl⟩ hK hN hZ hP hD hS hA [0, 2, 3, 4, 1] [5, 6, 7, 8, 9, 10, 11, 12, 13, 14, 15] rfl rfl rfl rfl (by decide) 0 rfl rfl rfl rfl hl.1 rfl (Nat.le_of_ble_eq_true rfl) dL_law_1198 (fun r_14 u_r_14 H locs hw_r_14 hP hD hS => ?_)
    obtain ⟨bi2_15, sq2_16, nb2_17, mq2_18⟩ := u_r_14
    try dsimp only at hw_r_14
    obtain ⟨hw_r_14, i_19, i_20, i_21, i_22, i_23, i_24, i_25⟩ := hw_r_14
    have hP : va_P D vwCl ([(h0, .inr (8, [.ref qh, .ref qk, .ref qd, .int b0, .ref qa, .ref qm, .ref qs, .ref qp, .ref ql, .ref qt, .ref qz, .ref qf])), (qz, .inl (cS, 4, .inr (.inr (.inr (.inr (xSh s0 s1 s2 s3)))))), (s0, .inr (4, [.int (sp_sb (xs (i + 2)) (xs (i + 3)) bt0), .int (nI ((sp_sz (xs (i + 2)) (xs (i + 3)) sz0))), .ref sn0])), (s1, .inr (4, [.int bt1, .int (nI (sz1)), .ref sn1])), (s2, .inr (4, [.int bt2, .int (nI (sz2)), .ref sn2])), (s3, .inr (4, [.int bt3, .int (nI (sz3)), .ref sn3])), (sn0, .inl (cJ, 40, .inr (.inl nv_8))), (sn1, .inl (cJ, 40, .inr (.inl nu1))), (sn2, .inl (cJ, 40, .inr (.inl nu2))), (sn3, .inl (cJ, 40, .inr (.inl nu3))), (qf, .inl (cI, 7, .inl f2_9)), (g0, .inr (9, [.ref m_ys, .ref m_yk, .ref m_yo, .ref m_yt, .int b0, .ref m_yfa, .ref m_yfe, .int m_mL, .int m_mS, .int m_mM, .ref m_yro, .ref m_yhe, .ref m_ygr, .int m_mF, .int m_mC, .int m_mY, .ref m_yta, .int (nI (z)), .int (nI (m_mf)), .int (nI (m_mt)), .int m_mv, .int m_mw, .ref m_ywa, .ref m_ybi, .ref m_ysi, .ref m_ynu, .ref m_ymo])), (m_ybi, .inl (cI, 4, .inl bi2_15)), (m_ysi, .inl (cI, 4, .inl sq2_16)), (m_ynu, .inl (cJ, 160, .inr (.inl nb2_17))), (m_yt, .inl (cI, 7, .inl mq2_18))] ++ tl) H := hP
    have hD : va_D A ([(h0, .inr (8, [.ref qh, .ref qk, .ref qd, .int b0, .ref qa, .ref qm, .ref qs, .ref qp, .ref ql, .ref qt, .ref qz, .ref qf])), (qz, .inl (cS, 4, .inr (.inr (.inr (.inr (xSh s0 s1 s2 s3)))))), (s0, .inr (4, [.int (sp_sb (xs (i + 2)) (xs (i + 3)) bt0), .int (nI ((sp_sz (xs (i + 2)) (xs (i + 3)) sz0))), .ref sn0])), (s1, .inr (4, [.int bt1, .int (nI (sz1)), .ref sn1])), (s2, .inr (4, [.int bt2, .int (nI (sz2)), .ref sn2])), (s3, .inr (4, [.int bt3, .int (nI (sz3)), .ref sn3])), (sn0, .inl (cJ, 40, .inr (.inl nv_8))), (sn1, .inl (cJ, 40, .inr (.inl nu1))), (sn2, .inl (cJ, 40, .inr (.inl nu2))), (sn3, .inl (cJ, 40, .inr (.inl nu3))), (qf, .inl (cI, 7, .inl f2_9)), (g0, .inr (9, [.ref m_ys, .ref m_yk, .ref m_yo, .ref m_yt, .int b0, .ref m_yfa, .ref m_yfe, .int m_mL, .int m_mS, .int m_mM, .ref m_yro, .ref m_yhe, .ref m_ygr, .int m_mF, .int m_mC, .int m_mY, .ref m_yta, .int (nI (z)), .int (nI (m_mf)), .int (nI (m_mt)), .int m_mv, .int m_mw, .ref m_ywa, .ref m_ybi, .ref m_ysi, .ref m_ynu, .ref m_ymo])), (m_ybi, .inl (cI, 4, .inl bi2_15)), (m_ysi, .inl (cI, 4, .inl sq2_16)), (m_ynu, .inl (cJ, 160, .inr (.inl nb2_17))), (m_yt, .inl (cI, 7, .inl mq2_18))] ++ tl) := hD
    subst hw_r_14
    refine lv_pop hx hb dL_law_1201 rfl ?_
    refine lv_goto (tgt := 1483) hx hb dL_law_1202 (by decide) ?_
    exact kkx _ _ _ (sp_sb (xs (i + 2)) (xs (i + 3)) bt0) (sp_sz (xs (i + 2)) (xs (i + 3)) sz0) bt1 sz1 bt2 sz2 bt3 sz3 nv_8 nu1 nu2 nu3 f2_9 mq2_18 bi2_15 sq2_16 nb2_17 (xt_P hP [0, 1, 2, 3, 4, 5, 6, 7, 8, 9, 10, 11, 15, 12, 13, 14] rfl) (xt_D hD [0, 1, 2, 3, 4, 5, 6, 7, 8, 9, 10, 11, 15, 12, 13, 14] (by decide +kernel) rfl) i_13 hsz1 hsz2 hsz3 (i_19.trans (congrArg (sp_sb _ _) r_b0)) i_21 (fun j hj => by rw [i_23 j hj, r_n0 j hj, i_12 j hj]) ((i_20 1 (by decide)).trans r_b1) ((i_22 1 (by decide)).trans r_z1) (fun j hj => (i_24 (40 + j) (by omega)).trans (r_n1 j hj)) ((i_20 2 (by decide)).trans r_b2) ((i_22 2 (by decide)).trans r_z2) (fun j hj => (i_24 (80 + j) (by omega)).trans (r_n2 j hj)) ((i_20 3 (by decide)).trans r_b3) ((i_22 3 (by decide)).trans r_z3) (fun j hj => (i_24 (120 + j) (by omega)).trans (r_n3 j hj)) i_25 hS hl
  · skip
    refine lv_aload_n hx hb dL_law_1162 rfl (lv_at hl 2 rfl) ?_
    refine lv_aload_n hx hb dL_law_1163 rfl (lv_at hl 3 rfl) ?_
    refine lv_iload_n hx hb dL_law_1164 rfl (lv_at hl 0 rfl) ?_
    refine lv_iconst (v := 1) hx hb dL_law_1165 (by decide) ?_
    refine lv_iadd hx hb dL_law_1166 ?_
    refine xl_i (y := nI (i + 1)) (nI_add i 1) ?_
    refine va_sld hx hb hX hbl hbA hS (x_si (k := 1) (by decide) hi hL) dL_law_1167 ?_
    refine xl_i (y := xs (i + 1)) (congrArg xs (x_sc (k := 1) (by decide) hi hL)) ?_
    refine xl_i (y := 1) eq1 ?_
    refine lv_aload_n hx hb dL_law_1168 rfl (lv_at hl 3 rfl) ?_
    refine lv_iload_n hx hb dL_law_1169 rfl (lv_at hl 0 rfl) ?_
    refine lv_iconst (v := 2) hx hb dL_law_1170 (by decide) ?_
    refine lv_iadd hx hb dL_law_1171 ?_
    refine xl_i (y := nI (i + 2)) (nI_add i 2) ?_
    refine va_sld hx hb hX hbl hbA hS (x_si (k := 2) (by decide) hi hL) dL_law_1172 ?_
    refine xl_i (y := xs (i + 2)) (congrArg xs (x_sc (k := 2) (by decide) hi hL)) ?_
    refine lv_aload_n hx hb dL_law_1173 rfl (lv_at hl 3 rfl) ?_
    refine lv_iload_n hx hb dL_law_1174 rfl (lv_at hl 0 rfl) ?_
    refine lv_iconst (v := 3) hx hb dL_law_1175 (by decide) ?_
    refine lv_iadd hx hb dL_law_1176 ?_
    refine xl_i (y := nI (i + 3)) (nI_add i 3) ?_
    refine va_sld hx hb hX hbl hbA hS (x_si (k := 3) (by decide) hi hL) dL_law_1177 ?_
    refine xl_i (y := xs (i + 3)) (congrArg xs (x_sc (k := 3) (by decide) hi hL)) ?_
    refine xc_ViT (wr := [(g0, .inr (9, [.ref m_ys, .ref m_yk, .ref m_yo, .ref m_yt, .int b0, .ref m_yfa, .ref m_yfe, .int m_mL, .int m_mS, .int m_mM, .ref m_yro, .ref m_yhe, .ref m_ygr, .int m_mF, .int m_mC, .int m_mY, .ref m_yta, .int (nI (z)), .int (nI (m_mf)), .int (nI (m_mt)), .int m_mv, .int m_mw, .ref m_ywa, .ref m_ybi, .ref m_ysi, .ref m_ynu, .ref m_ymo])), (m_yt, .inl (cI, 7, .inl m_mq)), (m_ybi, .inl (cI, 4, .inl m_bi)), (m_ysi, .inl (cI, 4, .inl m_sq)), (m_ynu, .inl (cJ, 160, .inr (.inl m_nb)))]) hF (c_X8_sheet_1 l D cI cJ cZ cS ta sa sv H.size h0 qh qk qd b0 qa qm qs qp ql qt qz qf s0 s1 s2 s3 bt0 sz0 sn0 bt1 sz1 sn1 bt2 sz2 sn2 bt3 sz3 sn3 nu0 nu1 nu2 nu3 ff (xs (i + 2)) (xs (i + 3)) hsz0 hsz1 hsz2 hsz3) kv_L_155 ⟨rfl, rfl, Nat.le_of_ble_eq_true rfl, Nat.le_of_ble_eq_true rfl⟩ ⟨Nat.le_of_ble_eq_true rfl, Nat.le_of_ble_eq_true rfl⟩ hK hN hZ hP hD hS hA [0, 1, 2, 3, 4, 5, 6, 7, 8, 9, 10] [11, 12, 13, 14, 15] rfl rfl rfl rfl (by decide) 0 rfl rfl rfl rfl hl.1 rfl (Nat.le_of_ble_eq_true rfl) dL_law_1178 (fun r_26 u_r_26 H locs hw_r_26 hP hD hS => ?_)
    obtain ⟨bu_27, sy_28, nv_29, f2_30⟩ := u_r_26
    try dsimp only at hw_r_26
    obtain ⟨hw_r_26, i_31, i_32, i_33, i_34⟩ := hw_r_26
    subst i_31
    subst i_32
    have hP : va_P D vwCl ([(g0, .inr (9, [.ref m_ys, .ref m_yk, .ref m_yo, .ref m_yt, .int b0, .ref m_yfa, .ref m_yfe, .int m_mL, .int m_mS, .int m_mM, .ref m_yro, .ref m_yhe, .ref m_ygr, .int m_mF, .int m_mC, .int m_mY, .ref m_yta, .int (nI (z)), .int (nI (m_mf)), .int (nI (m_mt)), .int m_mv, .int m_mw, .ref m_ywa, .ref m_ybi, .ref m_ysi, .ref m_ynu, .ref m_ymo])), (m_yt, .inl (cI, 7, .inl m_mq)), (m_ybi, .inl (cI, 4, .inl m_bi)), (m_ysi, .inl (cI, 4, .inl m_sq)), (m_ynu, .inl (cJ, 160, .inr (.inl m_nb))), (h0, .inr (8, [.ref qh, .ref qk, .ref qd, .int b0, .ref qa, .ref qm, .ref qs, .ref qp, .ref ql, .ref qt, .ref qz, .ref qf])), (qz, .inl (cS, 4, .inr (.inr (.inr (.inr (xSh s0 s1 s2 s3)))))), (s0, .inr (4, [.int bt0, .int (nI (sz0)), .ref sn0])), (s1, .inr (4, [.int (sp_sb (xs (i + 2)) (xs (i + 3)) bt1), .int (nI ((sp_sz (xs (i + 2)) (xs (i + 3)) sz1))), .ref sn1])), (s2, .inr (4, [.int bt2, .int (nI (sz2)), .ref sn2])), (s3, .inr (4, [.int bt3, .int (nI (sz3)), .ref sn3])), (sn0, .inl (cJ, 40, .inr (.inl nu0))), (sn1, .inl (cJ, 40, .inr (.inl nv_29))), (sn2, .inl (cJ, 40, .inr (.inl nu2))), (sn3, .inl (cJ, 40, .inr (.inl nu3))), (qf, .inl (cI, 7, .inl f2_30))] ++ tl) H := hP
    have hD : va_D A ([(g0, .inr (9, [.ref m_ys, .ref m_yk, .ref m_yo, .ref m_yt, .int b0, .ref m_yfa, .ref m_yfe, .int m_mL, .int m_mS, .int m_mM, .ref m_yro, .ref m_yhe, .ref m_ygr, .int m_mF, .int m_mC, .int m_mY, .ref m_yta, .int (nI (z)), .int (nI (m_mf)), .int (nI (m_mt)), .int m_mv, .int m_mw, .ref m_ywa, .ref m_ybi, .ref m_ysi, .ref m_ynu, .ref m_ymo])), (m_yt, .inl (cI, 7, .inl m_mq)), (m_ybi, .inl (cI, 4, .inl m_bi)), (m_ysi, .inl (cI, 4, .inl m_sq)), (m_ynu, .inl (cJ, 160, .inr (.inl m_nb))), (h0, .inr (8, [.ref qh, .ref qk, .ref qd, .int b0, .ref qa, .ref qm, .ref qs, .ref qp, .ref ql, .ref qt, .ref qz, .ref qf])), (qz, .inl (cS, 4, .inr (.inr (.inr (.inr (xSh s0 s1 s2 s3)))))), (s0, .inr (4, [.int bt0, .int (nI (sz0)), .ref sn0])), (s1, .inr (4, [.int (sp_sb (xs (i + 2)) (xs (i + 3)) bt1), .int (nI ((sp_sz (xs (i + 2)) (xs (i + 3)) sz1))), .ref sn1])), (s2, .inr (4, [.int bt2, .int (nI (sz2)), .ref sn2])), (s3, .inr (4, [.int bt3, .int (nI (sz3)), .ref sn3])), (sn0, .inl (cJ, 40, .inr (.inl nu0))), (sn1, .inl (cJ, 40, .inr (.inl nv_29))), (sn2, .inl (cJ, 40, .inr (.inl nu2))), (sn3, .inl (cJ, 40, .inr (.inl nu3))), (qf, .inl (cI, 7, .inl f2_30))] ++ tl) := hD
    subst hw_r_26
    refine lv_pop hx hb dL_law_1181 rfl ?_
    refine lv_aload_n hx hb dL_law_1182 rfl (lv_at hl 1 rfl) ?_
    refine lv_aload_n hx hb dL_law_1183 rfl (lv_at hl 3 rfl) ?_
    refine lv_iload_n hx hb dL_law_1184 rfl (lv_at hl 0 rfl) ?_
    refine lv_iconst (v := 1) hx hb dL_law_1185 (by decide) ?_
    refine lv_iadd hx hb dL_law_1186 ?_
    refine xl_i (y := nI (i + 1)) (nI_add i 1) ?_
    refine va_sld hx hb hX hbl hbA hS (x_si (k := 1) (by decide) hi hL) dL_law_1187 ?_
    refine xl_i (y := xs (i + 1)) (congrArg xs (x_sc (k := 1) (by decide) hi hL)) ?_
    refine xl_i (y := 1) eq1 ?_
    refine lv_aload_n hx hb dL_law_1188 rfl (lv_at hl 3 rfl) ?_
    refine lv_iload_n hx hb dL_law_1189 rfl (lv_at hl 0 rfl) ?_
    refine lv_iconst (v := 2) hx hb dL_law_1190 (by decide) ?_
    refine lv_iadd hx hb dL_law_1191 ?_
    refine xl_i (y := nI (i + 2)) (nI_add i 2) ?_
    refine va_sld hx hb hX hbl hbA hS (x_si (k := 2) (by decide) hi hL) dL_law_1192 ?_
    refine xl_i (y := xs (i + 2)) (congrArg xs (x_sc (k := 2) (by decide) hi hL)) ?_
    refine lv_aload_n hx hb dL_law_1193 rfl (lv_at hl 3 rfl) ?_
    refine lv_iload_n hx hb dL_law_1194 rfl (lv_at hl 0 rfl) ?_
    refine lv_iconst (v := 3) hx hb dL_law_1195 (by decide) ?_
    refine lv_iadd hx hb dL_law_1196 ?_
    refine xl_i (y := nI (i + 3)) (nI_add i 3) ?_
    refine va_sld hx hb hX hbl hbA hS (x_si (k := 3) (by decide) hi hL) dL_law_1197 ?_
    refine xl_i (y := xs (i + 3)) (congrArg xs (x_sc (k := 3) (by decide) hi hL)) ?_
    refine xc_ViT (wr := [(h0, .inr (8, [.ref qh, .ref qk, .ref qd, .int b0, .ref qa, .ref qm, .ref qs, .ref qp, .ref ql, .ref qt, .ref qz, .ref qf])), (qz, .inl (cS, 4, .inr (.inr (.inr (.inr (xSh s0 s1 s2 s3)))))), (s0, .inr (4, [.int bt0, .int (nI (sz0)), .ref sn0])), (s1, .inr (4, [.int (sp_sb (xs (i + 2)) (xs (i + 3)) bt1), .int (nI ((sp_sz (xs (i + 2)) (xs (i + 3)) sz1))), .ref sn1])), (s2, .inr (4, [.int bt2, .int (nI (sz2)), .ref sn2])), (s3, .inr (4, [.int bt3, .int (nI (sz3)), .ref sn3])), (sn0, .inl (cJ, 40, .inr (.inl nu0))), (sn1, .inl (cJ, 40, .inr (.inl nv_29))), (sn2, .inl (cJ, 40, .inr (.inl nu2))), (sn3, .inl (cJ, 40, .inr (.inl nu3))), (qf, .inl (cI, 7, .inl f2_30))]) hF (c_X9_sheet_1 l D cI cJ cZ cS ta sa sv H.size g0 m_ys m_yk m_yo m_yt b0 m_yfa m_yfe m_mL m_mS m_mM m_yro m_yhe m_ygr m_mF m_mC m_mY m_yta z m_mf m_mt m_mv m_mw m_ywa m_ybi m_ysi m_ynu m_ymo m_bi m_sq m_nb m_mq (xs (i + 2)) (xs (i + 3)) sz1 r_z1 hsz1 m_hsq) kv_L_158 ⟨rfl, rfl, Nat.le_of_ble_eq_true rfl, Nat.le_of_ble_eq_true rfl⟩ ⟨Nat.le_of_ble_eq_true rfl, Nat.le_of_ble_eq_true rfl⟩ hK hN hZ hP hD hS hA [0, 2, 3, 4, 1] [5, 6, 7, 8, 9, 10, 11, 12, 13, 14, 15] rfl rfl rfl rfl (by decide) 0 rfl rfl rfl rfl hl.1 rfl (Nat.le_of_ble_eq_true rfl) dL_law_1198 (fun r_35 u_r_35 H locs hw_r_35 hP hD hS => ?_)
    obtain ⟨bi2_36, sq2_37, nb2_38, mq2_39⟩ := u_r_35
    try dsimp only at hw_r_35
    obtain ⟨hw_r_35, i_40, i_41, i_42, i_43, i_44, i_45, i_46⟩ := hw_r_35
    have hP : va_P D vwCl ([(h0, .inr (8, [.ref qh, .ref qk, .ref qd, .int b0, .ref qa, .ref qm, .ref qs, .ref qp, .ref ql, .ref qt, .ref qz, .ref qf])), (qz, .inl (cS, 4, .inr (.inr (.inr (.inr (xSh s0 s1 s2 s3)))))), (s0, .inr (4, [.int bt0, .int (nI (sz0)), .ref sn0])), (s1, .inr (4, [.int (sp_sb (xs (i + 2)) (xs (i + 3)) bt1), .int (nI ((sp_sz (xs (i + 2)) (xs (i + 3)) sz1))), .ref sn1])), (s2, .inr (4, [.int bt2, .int (nI (sz2)), .ref sn2])), (s3, .inr (4, [.int bt3, .int (nI (sz3)), .ref sn3])), (sn0, .inl (cJ, 40, .inr (.inl nu0))), (sn1, .inl (cJ, 40, .inr (.inl nv_29))), (sn2, .inl (cJ, 40, .inr (.inl nu2))), (sn3, .inl (cJ, 40, .inr (.inl nu3))), (qf, .inl (cI, 7, .inl f2_30)), (g0, .inr (9, [.ref m_ys, .ref m_yk, .ref m_yo, .ref m_yt, .int b0, .ref m_yfa, .ref m_yfe, .int m_mL, .int m_mS, .int m_mM, .ref m_yro, .ref m_yhe, .ref m_ygr, .int m_mF, .int m_mC, .int m_mY, .ref m_yta, .int (nI (z)), .int (nI (m_mf)), .int (nI (m_mt)), .int m_mv, .int m_mw, .ref m_ywa, .ref m_ybi, .ref m_ysi, .ref m_ynu, .ref m_ymo])), (m_ybi, .inl (cI, 4, .inl bi2_36)), (m_ysi, .inl (cI, 4, .inl sq2_37)), (m_ynu, .inl (cJ, 160, .inr (.inl nb2_38))), (m_yt, .inl (cI, 7, .inl mq2_39))] ++ tl) H := hP
    have hD : va_D A ([(h0, .inr (8, [.ref qh, .ref qk, .ref qd, .int b0, .ref qa, .ref qm, .ref qs, .ref qp, .ref ql, .ref qt, .ref qz, .ref qf])), (qz, .inl (cS, 4, .inr (.inr (.inr (.inr (xSh s0 s1 s2 s3)))))), (s0, .inr (4, [.int bt0, .int (nI (sz0)), .ref sn0])), (s1, .inr (4, [.int (sp_sb (xs (i + 2)) (xs (i + 3)) bt1), .int (nI ((sp_sz (xs (i + 2)) (xs (i + 3)) sz1))), .ref sn1])), (s2, .inr (4, [.int bt2, .int (nI (sz2)), .ref sn2])), (s3, .inr (4, [.int bt3, .int (nI (sz3)), .ref sn3])), (sn0, .inl (cJ, 40, .inr (.inl nu0))), (sn1, .inl (cJ, 40, .inr (.inl nv_29))), (sn2, .inl (cJ, 40, .inr (.inl nu2))), (sn3, .inl (cJ, 40, .inr (.inl nu3))), (qf, .inl (cI, 7, .inl f2_30)), (g0, .inr (9, [.ref m_ys, .ref m_yk, .ref m_yo, .ref m_yt, .int b0, .ref m_yfa, .ref m_yfe, .int m_mL, .int m_mS, .int m_mM, .ref m_yro, .ref m_yhe, .ref m_ygr, .int m_mF, .int m_mC, .int m_mY, .ref m_yta, .int (nI (z)), .int (nI (m_mf)), .int (nI (m_mt)), .int m_mv, .int m_mw, .ref m_ywa, .ref m_ybi, .ref m_ysi, .ref m_ynu, .ref m_ymo])), (m_ybi, .inl (cI, 4, .inl bi2_36)), (m_ysi, .inl (cI, 4, .inl sq2_37)), (m_ynu, .inl (cJ, 160, .inr (.inl nb2_38))), (m_yt, .inl (cI, 7, .inl mq2_39))] ++ tl) := hD
    subst hw_r_35
    refine lv_pop hx hb dL_law_1201 rfl ?_
    refine lv_goto (tgt := 1483) hx hb dL_law_1202 (by decide) ?_
    exact kkx _ _ _ bt0 sz0 (sp_sb (xs (i + 2)) (xs (i + 3)) bt1) (sp_sz (xs (i + 2)) (xs (i + 3)) sz1) bt2 sz2 bt3 sz3 nu0 nv_29 nu2 nu3 f2_30 mq2_39 bi2_36 sq2_37 nb2_38 (xt_P hP [0, 1, 2, 3, 4, 5, 6, 7, 8, 9, 10, 11, 15, 12, 13, 14] rfl) (xt_D hD [0, 1, 2, 3, 4, 5, 6, 7, 8, 9, 10, 11, 15, 12, 13, 14] (by decide +kernel) rfl) hsz0 i_34 hsz2 hsz3 ((i_41 0 (by decide)).trans r_b0) ((i_43 0 (by decide)).trans r_z0) (fun j hj => (i_45 (0 + j) (by omega)).trans (r_n0 j hj)) (i_40.trans (congrArg (sp_sb _ _) r_b1)) i_42 (fun j hj => by rw [i_44 j hj, r_n1 j hj, i_33 j hj]) ((i_41 2 (by decide)).trans r_b2) ((i_43 2 (by decide)).trans r_z2) (fun j hj => (i_45 (80 + j) (by omega)).trans (r_n2 j hj)) ((i_41 3 (by decide)).trans r_b3) ((i_43 3 (by decide)).trans r_z3) (fun j hj => (i_45 (120 + j) (by omega)).trans (r_n3 j hj)) i_46 hS hl
  · skip
    refine lv_aload_n hx hb dL_law_1162 rfl (lv_at hl 2 rfl) ?_
    refine lv_aload_n hx hb dL_law_1163 rfl (lv_at hl 3 rfl) ?_
    refine lv_iload_n hx hb dL_law_1164 rfl (lv_at hl 0 rfl) ?_
    refine lv_iconst (v := 1) hx hb dL_law_1165 (by decide) ?_
    refine lv_iadd hx hb dL_law_1166 ?_
    refine xl_i (y := nI (i + 1)) (nI_add i 1) ?_
    refine va_sld hx hb hX hbl hbA hS (x_si (k := 1) (by decide) hi hL) dL_law_1167 ?_
    refine xl_i (y := xs (i + 1)) (congrArg xs (x_sc (k := 1) (by decide) hi hL)) ?_
    refine xl_i (y := 2) eq1 ?_
    refine lv_aload_n hx hb dL_law_1168 rfl (lv_at hl 3 rfl) ?_
    refine lv_iload_n hx hb dL_law_1169 rfl (lv_at hl 0 rfl) ?_
    refine lv_iconst (v := 2) hx hb dL_law_1170 (by decide) ?_
    refine lv_iadd hx hb dL_law_1171 ?_
    refine xl_i (y := nI (i + 2)) (nI_add i 2) ?_
    refine va_sld hx hb hX hbl hbA hS (x_si (k := 2) (by decide) hi hL) dL_law_1172 ?_
    refine xl_i (y := xs (i + 2)) (congrArg xs (x_sc (k := 2) (by decide) hi hL)) ?_
    refine lv_aload_n hx hb dL_law_1173 rfl (lv_at hl 3 rfl) ?_
    refine lv_iload_n hx hb dL_law_1174 rfl (lv_at hl 0 rfl) ?_
    refine lv_iconst (v := 3) hx hb dL_law_1175 (by decide) ?_
    refine lv_iadd hx hb dL_law_1176 ?_
    refine xl_i (y := nI (i + 3)) (nI_add i 3) ?_
    refine va_sld hx hb hX hbl hbA hS (x_si (k := 3) (by decide) hi hL) dL_law_1177 ?_
    refine xl_i (y := xs (i + 3)) (congrArg xs (x_sc (k := 3) (by decide) hi hL)) ?_
    refine xc_ViT (wr := [(g0, .inr (9, [.ref m_ys, .ref m_yk, .ref m_yo, .ref m_yt, .int b0, .ref m_yfa, .ref m_yfe, .int m_mL, .int m_mS, .int m_mM, .ref m_yro, .ref m_yhe, .ref m_ygr, .int m_mF, .int m_mC, .int m_mY, .ref m_yta, .int (nI (z)), .int (nI (m_mf)), .int (nI (m_mt)), .int m_mv, .int m_mw, .ref m_ywa, .ref m_ybi, .ref m_ysi, .ref m_ynu, .ref m_ymo])), (m_yt, .inl (cI, 7, .inl m_mq)), (m_ybi, .inl (cI, 4, .inl m_bi)), (m_ysi, .inl (cI, 4, .inl m_sq)), (m_ynu, .inl (cJ, 160, .inr (.inl m_nb)))]) hF (c_X8_sheet_2 l D cI cJ cZ cS ta sa sv H.size h0 qh qk qd b0 qa qm qs qp ql qt qz qf s0 s1 s2 s3 bt0 sz0 sn0 bt1 sz1 sn1 bt2 sz2 sn2 bt3 sz3 sn3 nu0 nu1 nu2 nu3 ff (xs (i + 2)) (xs (i + 3)) hsz0 hsz1 hsz2 hsz3) kv_L_155 ⟨rfl, rfl, Nat.le_of_ble_eq_true rfl, Nat.le_of_ble_eq_true rfl⟩ ⟨Nat.le_of_ble_eq_true rfl, Nat.le_of_ble_eq_true rfl⟩ hK hN hZ hP hD hS hA [0, 1, 2, 3, 4, 5, 6, 7, 8, 9, 10] [11, 12, 13, 14, 15] rfl rfl rfl rfl (by decide) 0 rfl rfl rfl rfl hl.1 rfl (Nat.le_of_ble_eq_true rfl) dL_law_1178 (fun r_47 u_r_47 H locs hw_r_47 hP hD hS => ?_)
    obtain ⟨bu_48, sy_49, nv_50, f2_51⟩ := u_r_47
    try dsimp only at hw_r_47
    obtain ⟨hw_r_47, i_52, i_53, i_54, i_55⟩ := hw_r_47
    subst i_52
    subst i_53
    have hP : va_P D vwCl ([(g0, .inr (9, [.ref m_ys, .ref m_yk, .ref m_yo, .ref m_yt, .int b0, .ref m_yfa, .ref m_yfe, .int m_mL, .int m_mS, .int m_mM, .ref m_yro, .ref m_yhe, .ref m_ygr, .int m_mF, .int m_mC, .int m_mY, .ref m_yta, .int (nI (z)), .int (nI (m_mf)), .int (nI (m_mt)), .int m_mv, .int m_mw, .ref m_ywa, .ref m_ybi, .ref m_ysi, .ref m_ynu, .ref m_ymo])), (m_yt, .inl (cI, 7, .inl m_mq)), (m_ybi, .inl (cI, 4, .inl m_bi)), (m_ysi, .inl (cI, 4, .inl m_sq)), (m_ynu, .inl (cJ, 160, .inr (.inl m_nb))), (h0, .inr (8, [.ref qh, .ref qk, .ref qd, .int b0, .ref qa, .ref qm, .ref qs, .ref qp, .ref ql, .ref qt, .ref qz, .ref qf])), (qz, .inl (cS, 4, .inr (.inr (.inr (.inr (xSh s0 s1 s2 s3)))))), (s0, .inr (4, [.int bt0, .int (nI (sz0)), .ref sn0])), (s1, .inr (4, [.int bt1, .int (nI (sz1)), .ref sn1])), (s2, .inr (4, [.int (sp_sb (xs (i + 2)) (xs (i + 3)) bt2), .int (nI ((sp_sz (xs (i + 2)) (xs (i + 3)) sz2))), .ref sn2])), (s3, .inr (4, [.int bt3, .int (nI (sz3)), .ref sn3])), (sn0, .inl (cJ, 40, .inr (.inl nu0))), (sn1, .inl (cJ, 40, .inr (.inl nu1))), (sn2, .inl (cJ, 40, .inr (.inl nv_50))), (sn3, .inl (cJ, 40, .inr (.inl nu3))), (qf, .inl (cI, 7, .inl f2_51))] ++ tl) H := hP
    have hD : va_D A ([(g0, .inr (9, [.ref m_ys, .ref m_yk, .ref m_yo, .ref m_yt, .int b0, .ref m_yfa, .ref m_yfe, .int m_mL, .int m_mS, .int m_mM, .ref m_yro, .ref m_yhe, .ref m_ygr, .int m_mF, .int m_mC, .int m_mY, .ref m_yta, .int (nI (z)), .int (nI (m_mf)), .int (nI (m_mt)), .int m_mv, .int m_mw, .ref m_ywa, .ref m_ybi, .ref m_ysi, .ref m_ynu, .ref m_ymo])), (m_yt, .inl (cI, 7, .inl m_mq)), (m_ybi, .inl (cI, 4, .inl m_bi)), (m_ysi, .inl (cI, 4, .inl m_sq)), (m_ynu, .inl (cJ, 160, .inr (.inl m_nb))), (h0, .inr (8, [.ref qh, .ref qk, .ref qd, .int b0, .ref qa, .ref qm, .ref qs, .ref qp, .ref ql, .ref qt, .ref qz, .ref qf])), (qz, .inl (cS, 4, .inr (.inr (.inr (.inr (xSh s0 s1 s2 s3)))))), (s0, .inr (4, [.int bt0, .int (nI (sz0)), .ref sn0])), (s1, .inr (4, [.int bt1, .int (nI (sz1)), .ref sn1])), (s2, .inr (4, [.int (sp_sb (xs (i + 2)) (xs (i + 3)) bt2), .int (nI ((sp_sz (xs (i + 2)) (xs (i + 3)) sz2))), .ref sn2])), (s3, .inr (4, [.int bt3, .int (nI (sz3)), .ref sn3])), (sn0, .inl (cJ, 40, .inr (.inl nu0))), (sn1, .inl (cJ, 40, .inr (.inl nu1))), (sn2, .inl (cJ, 40, .inr (.inl nv_50))), (sn3, .inl (cJ, 40, .inr (.inl nu3))), (qf, .inl (cI, 7, .inl f2_51))] ++ tl) := hD
    subst hw_r_47
    refine lv_pop hx hb dL_law_1181 rfl ?_
    refine lv_aload_n hx hb dL_law_1182 rfl (lv_at hl 1 rfl) ?_
    refine lv_aload_n hx hb dL_law_1183 rfl (lv_at hl 3 rfl) ?_
    refine lv_iload_n hx hb dL_law_1184 rfl (lv_at hl 0 rfl) ?_
    refine lv_iconst (v := 1) hx hb dL_law_1185 (by decide) ?_
    refine lv_iadd hx hb dL_law_1186 ?_
    refine xl_i (y := nI (i + 1)) (nI_add i 1) ?_
    refine va_sld hx hb hX hbl hbA hS (x_si (k := 1) (by decide) hi hL) dL_law_1187 ?_
    refine xl_i (y := xs (i + 1)) (congrArg xs (x_sc (k := 1) (by decide) hi hL)) ?_
    refine xl_i (y := 2) eq1 ?_
    refine lv_aload_n hx hb dL_law_1188 rfl (lv_at hl 3 rfl) ?_
    refine lv_iload_n hx hb dL_law_1189 rfl (lv_at hl 0 rfl) ?_
    refine lv_iconst (v := 2) hx hb dL_law_1190 (by decide) ?_
    refine lv_iadd hx hb dL_law_1191 ?_
    refine xl_i (y := nI (i + 2)) (nI_add i 2) ?_
    refine va_sld hx hb hX hbl hbA hS (x_si (k := 2) (by decide) hi hL) dL_law_1192 ?_
    refine xl_i (y := xs (i + 2)) (congrArg xs (x_sc (k := 2) (by decide) hi hL)) ?_
    refine lv_aload_n hx hb dL_law_1193 rfl (lv_at hl 3 rfl) ?_
    refine lv_iload_n hx hb dL_law_1194 rfl (lv_at hl 0 rfl) ?_
    refine lv_iconst (v := 3) hx hb dL_law_1195 (by decide) ?_
    refine lv_iadd hx hb dL_law_1196 ?_
    refine xl_i (y := nI (i + 3)) (nI_add i 3) ?_
    refine va_sld hx hb hX hbl hbA hS (x_si (k := 3) (by decide) hi hL) dL_law_1197 ?_
    refine xl_i (y := xs (i + 3)) (congrArg xs (x_sc (k := 3) (by decide) hi hL)) ?_
    refine xc_ViT (wr := [(h0, .inr (8, [.ref qh, .ref qk, .ref qd, .int b0, .ref qa, .ref qm, .ref qs, .ref qp, .ref ql, .ref qt, .ref qz, .ref qf])), (qz, .inl (cS, 4, .inr (.inr (.inr (.inr (xSh s0 s1 s2 s3)))))), (s0, .inr (4, [.int bt0, .int (nI (sz0)), .ref sn0])), (s1, .inr (4, [.int bt1, .int (nI (sz1)), .ref sn1])), (s2, .inr (4, [.int (sp_sb (xs (i + 2)) (xs (i + 3)) bt2), .int (nI ((sp_sz (xs (i + 2)) (xs (i + 3)) sz2))), .ref sn2])), (s3, .inr (4, [.int bt3, .int (nI (sz3)), .ref sn3])), (sn0, .inl (cJ, 40, .inr (.inl nu0))), (sn1, .inl (cJ, 40, .inr (.inl nu1))), (sn2, .inl (cJ, 40, .inr (.inl nv_50))), (sn3, .inl (cJ, 40, .inr (.inl nu3))), (qf, .inl (cI, 7, .inl f2_51))]) hF (c_X9_sheet_2 l D cI cJ cZ cS ta sa sv H.size g0 m_ys m_yk m_yo m_yt b0 m_yfa m_yfe m_mL m_mS m_mM m_yro m_yhe m_ygr m_mF m_mC m_mY m_yta z m_mf m_mt m_mv m_mw m_ywa m_ybi m_ysi m_ynu m_ymo m_bi m_sq m_nb m_mq (xs (i + 2)) (xs (i + 3)) sz2 r_z2 hsz2 m_hsq) kv_L_158 ⟨rfl, rfl, Nat.le_of_ble_eq_true rfl, Nat.le_of_ble_eq_true rfl⟩ ⟨Nat.le_of_ble_eq_true rfl, Nat.le_of_ble_eq_true rfl⟩ hK hN hZ hP hD hS hA [0, 2, 3, 4, 1] [5, 6, 7, 8, 9, 10, 11, 12, 13, 14, 15] rfl rfl rfl rfl (by decide) 0 rfl rfl rfl rfl hl.1 rfl (Nat.le_of_ble_eq_true rfl) dL_law_1198 (fun r_56 u_r_56 H locs hw_r_56 hP hD hS => ?_)
    obtain ⟨bi2_57, sq2_58, nb2_59, mq2_60⟩ := u_r_56
    try dsimp only at hw_r_56
    obtain ⟨hw_r_56, i_61, i_62, i_63, i_64, i_65, i_66, i_67⟩ := hw_r_56
    have hP : va_P D vwCl ([(h0, .inr (8, [.ref qh, .ref qk, .ref qd, .int b0, .ref qa, .ref qm, .ref qs, .ref qp, .ref ql, .ref qt, .ref qz, .ref qf])), (qz, .inl (cS, 4, .inr (.inr (.inr (.inr (xSh s0 s1 s2 s3)))))), (s0, .inr (4, [.int bt0, .int (nI (sz0)), .ref sn0])), (s1, .inr (4, [.int bt1, .int (nI (sz1)), .ref sn1])), (s2, .inr (4, [.int (sp_sb (xs (i + 2)) (xs (i + 3)) bt2), .int (nI ((sp_sz (xs (i + 2)) (xs (i + 3)) sz2))), .ref sn2])), (s3, .inr (4, [.int bt3, .int (nI (sz3)), .ref sn3])), (sn0, .inl (cJ, 40, .inr (.inl nu0))), (sn1, .inl (cJ, 40, .inr (.inl nu1))), (sn2, .inl (cJ, 40, .inr (.inl nv_50))), (sn3, .inl (cJ, 40, .inr (.inl nu3))), (qf, .inl (cI, 7, .inl f2_51)), (g0, .inr (9, [.ref m_ys, .ref m_yk, .ref m_yo, .ref m_yt, .int b0, .ref m_yfa, .ref m_yfe, .int m_mL, .int m_mS, .int m_mM, .ref m_yro, .ref m_yhe, .ref m_ygr, .int m_mF, .int m_mC, .int m_mY, .ref m_yta, .int (nI (z)), .int (nI (m_mf)), .int (nI (m_mt)), .int m_mv, .int m_mw, .ref m_ywa, .ref m_ybi, .ref m_ysi, .ref m_ynu, .ref m_ymo])), (m_ybi, .inl (cI, 4, .inl bi2_57)), (m_ysi, .inl (cI, 4, .inl sq2_58)), (m_ynu, .inl (cJ, 160, .inr (.inl nb2_59))), (m_yt, .inl (cI, 7, .inl mq2_60))] ++ tl) H := hP
    have hD : va_D A ([(h0, .inr (8, [.ref qh, .ref qk, .ref qd, .int b0, .ref qa, .ref qm, .ref qs, .ref qp, .ref ql, .ref qt, .ref qz, .ref qf])), (qz, .inl (cS, 4, .inr (.inr (.inr (.inr (xSh s0 s1 s2 s3)))))), (s0, .inr (4, [.int bt0, .int (nI (sz0)), .ref sn0])), (s1, .inr (4, [.int bt1, .int (nI (sz1)), .ref sn1])), (s2, .inr (4, [.int (sp_sb (xs (i + 2)) (xs (i + 3)) bt2), .int (nI ((sp_sz (xs (i + 2)) (xs (i + 3)) sz2))), .ref sn2])), (s3, .inr (4, [.int bt3, .int (nI (sz3)), .ref sn3])), (sn0, .inl (cJ, 40, .inr (.inl nu0))), (sn1, .inl (cJ, 40, .inr (.inl nu1))), (sn2, .inl (cJ, 40, .inr (.inl nv_50))), (sn3, .inl (cJ, 40, .inr (.inl nu3))), (qf, .inl (cI, 7, .inl f2_51)), (g0, .inr (9, [.ref m_ys, .ref m_yk, .ref m_yo, .ref m_yt, .int b0, .ref m_yfa, .ref m_yfe, .int m_mL, .int m_mS, .int m_mM, .ref m_yro, .ref m_yhe, .ref m_ygr, .int m_mF, .int m_mC, .int m_mY, .ref m_yta, .int (nI (z)), .int (nI (m_mf)), .int (nI (m_mt)), .int m_mv, .int m_mw, .ref m_ywa, .ref m_ybi, .ref m_ysi, .ref m_ynu, .ref m_ymo])), (m_ybi, .inl (cI, 4, .inl bi2_57)), (m_ysi, .inl (cI, 4, .inl sq2_58)), (m_ynu, .inl (cJ, 160, .inr (.inl nb2_59))), (m_yt, .inl (cI, 7, .inl mq2_60))] ++ tl) := hD
    subst hw_r_56
    refine lv_pop hx hb dL_law_1201 rfl ?_
    refine lv_goto (tgt := 1483) hx hb dL_law_1202 (by decide) ?_
    exact kkx _ _ _ bt0 sz0 bt1 sz1 (sp_sb (xs (i + 2)) (xs (i + 3)) bt2) (sp_sz (xs (i + 2)) (xs (i + 3)) sz2) bt3 sz3 nu0 nu1 nv_50 nu3 f2_51 mq2_60 bi2_57 sq2_58 nb2_59 (xt_P hP [0, 1, 2, 3, 4, 5, 6, 7, 8, 9, 10, 11, 15, 12, 13, 14] rfl) (xt_D hD [0, 1, 2, 3, 4, 5, 6, 7, 8, 9, 10, 11, 15, 12, 13, 14] (by decide +kernel) rfl) hsz0 hsz1 i_55 hsz3 ((i_62 0 (by decide)).trans r_b0) ((i_64 0 (by decide)).trans r_z0) (fun j hj => (i_66 (0 + j) (by omega)).trans (r_n0 j hj)) ((i_62 1 (by decide)).trans r_b1) ((i_64 1 (by decide)).trans r_z1) (fun j hj => (i_66 (40 + j) (by omega)).trans (r_n1 j hj)) (i_61.trans (congrArg (sp_sb _ _) r_b2)) i_63 (fun j hj => by rw [i_65 j hj, r_n2 j hj, i_54 j hj]) ((i_62 3 (by decide)).trans r_b3) ((i_64 3 (by decide)).trans r_z3) (fun j hj => (i_66 (120 + j) (by omega)).trans (r_n3 j hj)) i_67 hS hl
  · skip
    refine lv_aload_n hx hb dL_law_1162 rfl (lv_at hl 2 rfl) ?_
    refine lv_aload_n hx hb dL_law_1163 rfl (lv_at hl 3 rfl) ?_
    refine lv_iload_n hx hb dL_law_1164 rfl (lv_at hl 0 rfl) ?_
    refine lv_iconst (v := 1) hx hb dL_law_1165 (by decide) ?_
    refine lv_iadd hx hb dL_law_1166 ?_
    refine xl_i (y := nI (i + 1)) (nI_add i 1) ?_
    refine va_sld hx hb hX hbl hbA hS (x_si (k := 1) (by decide) hi hL) dL_law_1167 ?_
    refine xl_i (y := xs (i + 1)) (congrArg xs (x_sc (k := 1) (by decide) hi hL)) ?_
    refine xl_i (y := 3) eq1 ?_
    refine lv_aload_n hx hb dL_law_1168 rfl (lv_at hl 3 rfl) ?_
    refine lv_iload_n hx hb dL_law_1169 rfl (lv_at hl 0 rfl) ?_
    refine lv_iconst (v := 2) hx hb dL_law_1170 (by decide) ?_
    refine lv_iadd hx hb dL_law_1171 ?_
    refine xl_i (y := nI (i + 2)) (nI_add i 2) ?_
    refine va_sld hx hb hX hbl hbA hS (x_si (k := 2) (by decide) hi hL) dL_law_1172 ?_
    refine xl_i (y := xs (i + 2)) (congrArg xs (x_sc (k := 2) (by decide) hi hL)) ?_
    refine lv_aload_n hx hb dL_law_1173 rfl (lv_at hl 3 rfl) ?_
    refine lv_iload_n hx hb dL_law_1174 rfl (lv_at hl 0 rfl) ?_
    refine lv_iconst (v := 3) hx hb dL_law_1175 (by decide) ?_
    refine lv_iadd hx hb dL_law_1176 ?_
    refine xl_i (y := nI (i + 3)) (nI_add i 3) ?_
    refine va_sld hx hb hX hbl hbA hS (x_si (k := 3) (by decide) hi hL) dL_law_1177 ?_
    refine xl_i (y := xs (i + 3)) (congrArg xs (x_sc (k := 3) (by decide) hi hL)) ?_
    refine xc_ViT (wr := [(g0, .inr (9, [.ref m_ys, .ref m_yk, .ref m_yo, .ref m_yt, .int b0, .ref m_yfa, .ref m_yfe, .int m_mL, .int m_mS, .int m_mM, .ref m_yro, .ref m_yhe, .ref m_ygr, .int m_mF, .int m_mC, .int m_mY, .ref m_yta, .int (nI (z)), .int (nI (m_mf)), .int (nI (m_mt)), .int m_mv, .int m_mw, .ref m_ywa, .ref m_ybi, .ref m_ysi, .ref m_ynu, .ref m_ymo])), (m_yt, .inl (cI, 7, .inl m_mq)), (m_ybi, .inl (cI, 4, .inl m_bi)), (m_ysi, .inl (cI, 4, .inl m_sq)), (m_ynu, .inl (cJ, 160, .inr (.inl m_nb)))]) hF (c_X8_sheet_3 l D cI cJ cZ cS ta sa sv H.size h0 qh qk qd b0 qa qm qs qp ql qt qz qf s0 s1 s2 s3 bt0 sz0 sn0 bt1 sz1 sn1 bt2 sz2 sn2 bt3 sz3 sn3 nu0 nu1 nu2 nu3 ff (xs (i + 2)) (xs (i + 3)) hsz0 hsz1 hsz2 hsz3) kv_L_155 ⟨rfl, rfl, Nat.le_of_ble_eq_true rfl, Nat.le_of_ble_eq_true rfl⟩ ⟨Nat.le_of_ble_eq_true rfl, Nat.le_of_ble_eq_true rfl⟩ hK hN hZ hP hD hS hA [0, 1, 2, 3, 4, 5, 6, 7, 8, 9, 10] [11, 12, 13, 14, 15] rfl rfl rfl rfl (by decide) 0 rfl rfl rfl rfl hl.1 rfl (Nat.le_of_ble_eq_true rfl) dL_law_1178 (fun r_68 u_r_68 H locs hw_r_68 hP hD hS => ?_)
    obtain ⟨bu_69, sy_70, nv_71, f2_72⟩ := u_r_68
    try dsimp only at hw_r_68
    obtain ⟨hw_r_68, i_73, i_74, i_75, i_76⟩ := hw_r_68
    subst i_73
    subst i_74
    have hP : va_P D vwCl ([(g0, .inr (9, [.ref m_ys, .ref m_yk, .ref m_yo, .ref m_yt, .int b0, .ref m_yfa, .ref m_yfe, .int m_mL, .int m_mS, .int m_mM, .ref m_yro, .ref m_yhe, .ref m_ygr, .int m_mF, .int m_mC, .int m_mY, .ref m_yta, .int (nI (z)), .int (nI (m_mf)), .int (nI (m_mt)), .int m_mv, .int m_mw, .ref m_ywa, .ref m_ybi, .ref m_ysi, .ref m_ynu, .ref m_ymo])), (m_yt, .inl (cI, 7, .inl m_mq)), (m_ybi, .inl (cI, 4, .inl m_bi)), (m_ysi, .inl (cI, 4, .inl m_sq)), (m_ynu, .inl (cJ, 160, .inr (.inl m_nb))), (h0, .inr (8, [.ref qh, .ref qk, .ref qd, .int b0, .ref qa, .ref qm, .ref qs, .ref qp, .ref ql, .ref qt, .ref qz, .ref qf])), (qz, .inl (cS, 4, .inr (.inr (.inr (.inr (xSh s0 s1 s2 s3)))))), (s0, .inr (4, [.int bt0, .int (nI (sz0)), .ref sn0])), (s1, .inr (4, [.int bt1, .int (nI (sz1)), .ref sn1])), (s2, .inr (4, [.int bt2, .int (nI (sz2)), .ref sn2])), (s3, .inr (4, [.int (sp_sb (xs (i + 2)) (xs (i + 3)) bt3), .int (nI ((sp_sz (xs (i + 2)) (xs (i + 3)) sz3))), .ref sn3])), (sn0, .inl (cJ, 40, .inr (.inl nu0))), (sn1, .inl (cJ, 40, .inr (.inl nu1))), (sn2, .inl (cJ, 40, .inr (.inl nu2))), (sn3, .inl (cJ, 40, .inr (.inl nv_71))), (qf, .inl (cI, 7, .inl f2_72))] ++ tl) H := hP
    have hD : va_D A ([(g0, .inr (9, [.ref m_ys, .ref m_yk, .ref m_yo, .ref m_yt, .int b0, .ref m_yfa, .ref m_yfe, .int m_mL, .int m_mS, .int m_mM, .ref m_yro, .ref m_yhe, .ref m_ygr, .int m_mF, .int m_mC, .int m_mY, .ref m_yta, .int (nI (z)), .int (nI (m_mf)), .int (nI (m_mt)), .int m_mv, .int m_mw, .ref m_ywa, .ref m_ybi, .ref m_ysi, .ref m_ynu, .ref m_ymo])), (m_yt, .inl (cI, 7, .inl m_mq)), (m_ybi, .inl (cI, 4, .inl m_bi)), (m_ysi, .inl (cI, 4, .inl m_sq)), (m_ynu, .inl (cJ, 160, .inr (.inl m_nb))), (h0, .inr (8, [.ref qh, .ref qk, .ref qd, .int b0, .ref qa, .ref qm, .ref qs, .ref qp, .ref ql, .ref qt, .ref qz, .ref qf])), (qz, .inl (cS, 4, .inr (.inr (.inr (.inr (xSh s0 s1 s2 s3)))))), (s0, .inr (4, [.int bt0, .int (nI (sz0)), .ref sn0])), (s1, .inr (4, [.int bt1, .int (nI (sz1)), .ref sn1])), (s2, .inr (4, [.int bt2, .int (nI (sz2)), .ref sn2])), (s3, .inr (4, [.int (sp_sb (xs (i + 2)) (xs (i + 3)) bt3), .int (nI ((sp_sz (xs (i + 2)) (xs (i + 3)) sz3))), .ref sn3])), (sn0, .inl (cJ, 40, .inr (.inl nu0))), (sn1, .inl (cJ, 40, .inr (.inl nu1))), (sn2, .inl (cJ, 40, .inr (.inl nu2))), (sn3, .inl (cJ, 40, .inr (.inl nv_71))), (qf, .inl (cI, 7, .inl f2_72))] ++ tl) := hD
    subst hw_r_68
    refine lv_pop hx hb dL_law_1181 rfl ?_
    refine lv_aload_n hx hb dL_law_1182 rfl (lv_at hl 1 rfl) ?_
    refine lv_aload_n hx hb dL_law_1183 rfl (lv_at hl 3 rfl) ?_
    refine lv_iload_n hx hb dL_law_1184 rfl (lv_at hl 0 rfl) ?_
    refine lv_iconst (v := 1) hx hb dL_law_1185 (by decide) ?_
    refine lv_iadd hx hb dL_law_1186 ?_
    refine xl_i (y := nI (i + 1)) (nI_add i 1) ?_
    refine va_sld hx hb hX hbl hbA hS (x_si (k := 1) (by decide) hi hL) dL_law_1187 ?_
    refine xl_i (y := xs (i + 1)) (congrArg xs (x_sc (k := 1) (by decide) hi hL)) ?_
    refine xl_i (y := 3) eq1 ?_
    refine lv_aload_n hx hb dL_law_1188 rfl (lv_at hl 3 rfl) ?_
    refine lv_iload_n hx hb dL_law_1189 rfl (lv_at hl 0 rfl) ?_
    refine lv_iconst (v := 2) hx hb dL_law_1190 (by decide) ?_
    refine lv_iadd hx hb dL_law_1191 ?_
    refine xl_i (y := nI (i + 2)) (nI_add i 2) ?_
    refine va_sld hx hb hX hbl hbA hS (x_si (k := 2) (by decide) hi hL) dL_law_1192 ?_
    refine xl_i (y := xs (i + 2)) (congrArg xs (x_sc (k := 2) (by decide) hi hL)) ?_
    refine lv_aload_n hx hb dL_law_1193 rfl (lv_at hl 3 rfl) ?_
    refine lv_iload_n hx hb dL_law_1194 rfl (lv_at hl 0 rfl) ?_
    refine lv_iconst (v := 3) hx hb dL_law_1195 (by decide) ?_
    refine lv_iadd hx hb dL_law_1196 ?_
    refine xl_i (y := nI (i + 3)) (nI_add i 3) ?_
    refine va_sld hx hb hX hbl hbA hS (x_si (k := 3) (by decide) hi hL) dL_law_1197 ?_
    refine xl_i (y := xs (i + 3)) (congrArg xs (x_sc (k := 3) (by decide) hi hL)) ?_
    refine xc_ViT (wr := [(h0, .inr (8, [.ref qh, .ref qk, .ref qd, .int b0, .ref qa, .ref qm, .ref qs, .ref qp, .ref ql, .ref qt, .ref qz, .ref qf])), (qz, .inl (cS, 4, .inr (.inr (.inr (.inr (xSh s0 s1 s2 s3)))))), (s0, .inr (4, [.int bt0, .int (nI (sz0)), .ref sn0])), (s1, .inr (4, [.int bt1, .int (nI (sz1)), .ref sn1])), (s2, .inr (4, [.int bt2, .int (nI (sz2)), .ref sn2])), (s3, .inr (4, [.int (sp_sb (xs (i + 2)) (xs (i + 3)) bt3), .int (nI ((sp_sz (xs (i + 2)) (xs (i + 3)) sz3))), .ref sn3])), (sn0, .inl (cJ, 40, .inr (.inl nu0))), (sn1, .inl (cJ, 40, .inr (.inl nu1))), (sn2, .inl (cJ, 40, .inr (.inl nu2))), (sn3, .inl (cJ, 40, .inr (.inl nv_71))), (qf, .inl (cI, 7, .inl f2_72))]) hF (c_X9_sheet_3 l D cI cJ cZ cS ta sa sv H.size g0 m_ys m_yk m_yo m_yt b0 m_yfa m_yfe m_mL m_mS m_mM m_yro m_yhe m_ygr m_mF m_mC m_mY m_yta z m_mf m_mt m_mv m_mw m_ywa m_ybi m_ysi m_ynu m_ymo m_bi m_sq m_nb m_mq (xs (i + 2)) (xs (i + 3)) sz3 r_z3 hsz3 m_hsq) kv_L_158 ⟨rfl, rfl, Nat.le_of_ble_eq_true rfl, Nat.le_of_ble_eq_true rfl⟩ ⟨Nat.le_of_ble_eq_true rfl, Nat.le_of_ble_eq_true rfl⟩ hK hN hZ hP hD hS hA [0, 2, 3, 4, 1] [5, 6, 7, 8, 9, 10, 11, 12, 13, 14, 15] rfl rfl rfl rfl (by decide) 0 rfl rfl rfl rfl hl.1 rfl (Nat.le_of_ble_eq_true rfl) dL_law_1198 (fun r_77 u_r_77 H locs hw_r_77 hP hD hS => ?_)
    obtain ⟨bi2_78, sq2_79, nb2_80, mq2_81⟩ := u_r_77
    try dsimp only at hw_r_77
    obtain ⟨hw_r_77, i_82, i_83, i_84, i_85, i_86, i_87, i_88⟩ := hw_r_77
    have hP : va_P D vwCl ([(h0, .inr (8, [.ref qh, .ref qk, .ref qd, .int b0, .ref qa, .ref qm, .ref qs, .ref qp, .ref ql, .ref qt, .ref qz, .ref qf])), (qz, .inl (cS, 4, .inr (.inr (.inr (.inr (xSh s0 s1 s2 s3)))))), (s0, .inr (4, [.int bt0, .int (nI (sz0)), .ref sn0])), (s1, .inr (4, [.int bt1, .int (nI (sz1)), .ref sn1])), (s2, .inr (4, [.int bt2, .int (nI (sz2)), .ref sn2])), (s3, .inr (4, [.int (sp_sb (xs (i + 2)) (xs (i + 3)) bt3), .int (nI ((sp_sz (xs (i + 2)) (xs (i + 3)) sz3))), .ref sn3])), (sn0, .inl (cJ, 40, .inr (.inl nu0))), (sn1, .inl (cJ, 40, .inr (.inl nu1))), (sn2, .inl (cJ, 40, .inr (.inl nu2))), (sn3, .inl (cJ, 40, .inr (.inl nv_71))), (qf, .inl (cI, 7, .inl f2_72)), (g0, .inr (9, [.ref m_ys, .ref m_yk, .ref m_yo, .ref m_yt, .int b0, .ref m_yfa, .ref m_yfe, .int m_mL, .int m_mS, .int m_mM, .ref m_yro, .ref m_yhe, .ref m_ygr, .int m_mF, .int m_mC, .int m_mY, .ref m_yta, .int (nI (z)), .int (nI (m_mf)), .int (nI (m_mt)), .int m_mv, .int m_mw, .ref m_ywa, .ref m_ybi, .ref m_ysi, .ref m_ynu, .ref m_ymo])), (m_ybi, .inl (cI, 4, .inl bi2_78)), (m_ysi, .inl (cI, 4, .inl sq2_79)), (m_ynu, .inl (cJ, 160, .inr (.inl nb2_80))), (m_yt, .inl (cI, 7, .inl mq2_81))] ++ tl) H := hP
    have hD : va_D A ([(h0, .inr (8, [.ref qh, .ref qk, .ref qd, .int b0, .ref qa, .ref qm, .ref qs, .ref qp, .ref ql, .ref qt, .ref qz, .ref qf])), (qz, .inl (cS, 4, .inr (.inr (.inr (.inr (xSh s0 s1 s2 s3)))))), (s0, .inr (4, [.int bt0, .int (nI (sz0)), .ref sn0])), (s1, .inr (4, [.int bt1, .int (nI (sz1)), .ref sn1])), (s2, .inr (4, [.int bt2, .int (nI (sz2)), .ref sn2])), (s3, .inr (4, [.int (sp_sb (xs (i + 2)) (xs (i + 3)) bt3), .int (nI ((sp_sz (xs (i + 2)) (xs (i + 3)) sz3))), .ref sn3])), (sn0, .inl (cJ, 40, .inr (.inl nu0))), (sn1, .inl (cJ, 40, .inr (.inl nu1))), (sn2, .inl (cJ, 40, .inr (.inl nu2))), (sn3, .inl (cJ, 40, .inr (.inl nv_71))), (qf, .inl (cI, 7, .inl f2_72)), (g0, .inr (9, [.ref m_ys, .ref m_yk, .ref m_yo, .ref m_yt, .int b0, .ref m_yfa, .ref m_yfe, .int m_mL, .int m_mS, .int m_mM, .ref m_yro, .ref m_yhe, .ref m_ygr, .int m_mF, .int m_mC, .int m_mY, .ref m_yta, .int (nI (z)), .int (nI (m_mf)), .int (nI (m_mt)), .int m_mv, .int m_mw, .ref m_ywa, .ref m_ybi, .ref m_ysi, .ref m_ynu, .ref m_ymo])), (m_ybi, .inl (cI, 4, .inl bi2_78)), (m_ysi, .inl (cI, 4, .inl sq2_79)), (m_ynu, .inl (cJ, 160, .inr (.inl nb2_80))), (m_yt, .inl (cI, 7, .inl mq2_81))] ++ tl) := hD
    subst hw_r_77
    refine lv_pop hx hb dL_law_1201 rfl ?_
    refine lv_goto (tgt := 1483) hx hb dL_law_1202 (by decide) ?_
    exact kkx _ _ _ bt0 sz0 bt1 sz1 bt2 sz2 (sp_sb (xs (i + 2)) (xs (i + 3)) bt3) (sp_sz (xs (i + 2)) (xs (i + 3)) sz3) nu0 nu1 nu2 nv_71 f2_72 mq2_81 bi2_78 sq2_79 nb2_80 (xt_P hP [0, 1, 2, 3, 4, 5, 6, 7, 8, 9, 10, 11, 15, 12, 13, 14] rfl) (xt_D hD [0, 1, 2, 3, 4, 5, 6, 7, 8, 9, 10, 11, 15, 12, 13, 14] (by decide +kernel) rfl) hsz0 hsz1 hsz2 i_76 ((i_83 0 (by decide)).trans r_b0) ((i_85 0 (by decide)).trans r_z0) (fun j hj => (i_87 (0 + j) (by omega)).trans (r_n0 j hj)) ((i_83 1 (by decide)).trans r_b1) ((i_85 1 (by decide)).trans r_z1) (fun j hj => (i_87 (40 + j) (by omega)).trans (r_n1 j hj)) ((i_83 2 (by decide)).trans r_b2) ((i_85 2 (by decide)).trans r_z2) (fun j hj => (i_87 (80 + j) (by omega)).trans (r_n2 j hj)) (i_82.trans (congrArg (sp_sb _ _) r_b3)) i_84 (fun j hj => by rw [i_86 j hj, r_n3 j hj, i_75 j hj]) i_88 hS hl
set_option maxHeartbeats 4000000 in
set_option maxRecDepth 100000 in
theorem law_35 {p : Program} {e : Env} {s : State} {m : MethodId} {below : List Frame} {meth : Method} {c : Code} (l : Launch) (D : va_G) (cI cJ cZ cS : ClassId) (ta : Nat) (sa sv : Nat → Nat) {b L : Nat} {xs : Nat → Int32} {A : Nat → Prop} (hL : L ≤ 3072) (hF : CallFix p m c cL_law 4 s #[Value.ref b] (Cond.initialized RX8 :: wsU) RL) (hr : meth.sig.returnType = ret) (hlk : meth.locks = false) (hK : va_K D vwCl (xT cI cJ cZ cS) s) (hN : XN sa s) (hX : va_X b L xs s s.heap) (hbl : b < s.heap.size) (hA : ∀ q : Nat, s.heap.size ≤ q → A q) (hbA : ¬ A b) (hAs : ∀ q, A q → s.heap.size ≤ q) (hZ : ST ta sa sv A s s.heap) (h0 g0 i : Nat) (hi : i + 6 ≤ L) (qh : Nat) (qk : Nat) (qd : Nat) (b0 : Int32) (qa : Nat) (qm : Nat) (qs : Nat) (qp : Nat) (ql : Nat) (qt : Nat) (qz : Nat) (qf : Nat) (s0 : Nat) (s1 : Nat) (s2 : Nat) (s3 : Nat) (bt0 : Int32) (sz0 : Nat) (sn0 : Nat) (bt1 : Int32) (sz1 : Nat) (sn1 : Nat) (bt2 : Int32) (sz2 : Nat) (sn2 : Nat) (bt3 : Int32) (sz3 : Nat) (sn3 : Nat) (nu0 : Nat → Int64) (nu1 : Nat → Int64) (nu2 : Nat → Int64) (nu3 : Nat → Int64) (ff : Nat → Int32) (m_ys : Nat) (m_yk : Nat) (m_yo : Nat) (m_yt : Nat) (m_yfa : Nat) (m_yfe : Nat) (m_mL : Int32) (m_mS : Int32) (m_mM : Int32) (m_yro : Nat) (m_yhe : Nat) (m_ygr : Nat) (m_mF : Int32) (m_mC : Int32) (m_mY : Int32) (m_yta : Nat) (z : Nat) (m_mf : Nat) (m_mt : Nat) (m_mv : Int32) (m_mw : Int32) (m_ywa : Nat) (m_ybi : Nat) (m_ysi : Nat) (m_ynu : Nat) (m_ymo : Nat) (m_mq : Nat → Int32) (m_bi : Nat → Int32) (m_sq : Nat → Int32) (m_nb : Nat → Int64) {tl : va_W} {H : Heap} {locs : List Loc} {ls : Array Slot} (hP : va_P D vwCl ([(h0, .inr (8, [.ref qh, .ref qk, .ref qd, .int b0, .ref qa, .ref qm, .ref qs, .ref qp, .ref ql, .ref qt, .ref qz, .ref qf])), (qz, .inl (cS, 4, .inr (.inr (.inr (.inr (xSh s0 s1 s2 s3)))))), (s0, .inr (4, [.int bt0, .int (nI (sz0)), .ref sn0])), (s1, .inr (4, [.int bt1, .int (nI (sz1)), .ref sn1])), (s2, .inr (4, [.int bt2, .int (nI (sz2)), .ref sn2])), (s3, .inr (4, [.int bt3, .int (nI (sz3)), .ref sn3])), (sn0, .inl (cJ, 40, .inr (.inl nu0))), (sn1, .inl (cJ, 40, .inr (.inl nu1))), (sn2, .inl (cJ, 40, .inr (.inl nu2))), (sn3, .inl (cJ, 40, .inr (.inl nu3))), (qf, .inl (cI, 7, .inl ff)), (g0, .inr (9, [.ref m_ys, .ref m_yk, .ref m_yo, .ref m_yt, .int b0, .ref m_yfa, .ref m_yfe, .int m_mL, .int m_mS, .int m_mM, .ref m_yro, .ref m_yhe, .ref m_ygr, .int m_mF, .int m_mC, .int m_mY, .ref m_yta, .int (nI (z)), .int (nI (m_mf)), .int (nI (m_mt)), .int m_mv, .int m_mw, .ref m_ywa, .ref m_ybi, .ref m_ysi, .ref m_ynu, .ref m_ymo])), (m_yt, .inl (cI, 7, .inl m_mq)), (m_ybi, .inl (cI, 4, .inl m_bi)), (m_ysi, .inl (cI, 4, .inl m_sq)), (m_ynu, .inl (cJ, 160, .inr (.inl m_nb)))] ++ tl) H) (hD : va_D A ([(h0, .inr (8, [.ref qh, .ref qk, .ref qd, .int b0, .ref qa, .ref qm, .ref qs, .ref qp, .ref ql, .ref qt, .ref qz, .ref qf])), (qz, .inl (cS, 4, .inr (.inr (.inr (.inr (xSh s0 s1 s2 s3)))))), (s0, .inr (4, [.int bt0, .int (nI (sz0)), .ref sn0])), (s1, .inr (4, [.int bt1, .int (nI (sz1)), .ref sn1])), (s2, .inr (4, [.int bt2, .int (nI (sz2)), .ref sn2])), (s3, .inr (4, [.int bt3, .int (nI (sz3)), .ref sn3])), (sn0, .inl (cJ, 40, .inr (.inl nu0))), (sn1, .inl (cJ, 40, .inr (.inl nu1))), (sn2, .inl (cJ, 40, .inr (.inl nu2))), (sn3, .inl (cJ, 40, .inr (.inl nu3))), (qf, .inl (cI, 7, .inl ff)), (g0, .inr (9, [.ref m_ys, .ref m_yk, .ref m_yo, .ref m_yt, .int b0, .ref m_yfa, .ref m_yfe, .int m_mL, .int m_mS, .int m_mM, .ref m_yro, .ref m_yhe, .ref m_ygr, .int m_mF, .int m_mC, .int m_mY, .ref m_yta, .int (nI (z)), .int (nI (m_mf)), .int (nI (m_mt)), .int m_mv, .int m_mw, .ref m_ywa, .ref m_ybi, .ref m_ysi, .ref m_ynu, .ref m_ymo])), (m_yt, .inl (cI, 7, .inl m_mq)), (m_ybi, .inl (cI, 4, .inl m_bi)), (m_ysi, .inl (cI, 4, .inl m_sq)), (m_ynu, .inl (cJ, 160, .inr (.inl m_nb)))] ++ tl)) (hz : z ≤ 120) (hsz0 : sz0 ≤ 40) (hsz1 : sz1 ≤ 40) (hsz2 : sz2 ≤ 40) (hsz3 : sz3 ≤ 40) (r_b0 : m_bi 0 = bt0) (r_z0 : m_sq 0 = nI sz0) (r_n0 : ∀ j, j < 40 → m_nb (0 + j) = nu0 j) (r_b1 : m_bi 1 = bt1) (r_z1 : m_sq 1 = nI sz1) (r_n1 : ∀ j, j < 40 → m_nb (40 + j) = nu1 j) (r_b2 : m_bi 2 = bt2) (r_z2 : m_sq 2 = nI sz2) (r_n2 : ∀ j, j < 40 → m_nb (80 + j) = nu2 j) (r_b3 : m_bi 3 = bt3) (r_z3 : m_sq 3 = nI sz3) (r_n3 : ∀ j, j < 40 → m_nb (120 + j) = nu3 j) (m_hsq : BA 4 41 m_sq) (hS : va_S A s.heap H locs) (hl : lv_has ls 4 [(3, .int (nI i)), (2, .ref g0), (1, .ref h0), (0, .ref b)]) (kkx : ∀ (H : Heap) (locs : List Loc) (ls : Array Slot) (nu0_n : Nat → Int64) (nu1_n : Nat → Int64) (nu2_n : Nat → Int64) (nu3_n : Nat → Int64) (ff_n : Nat → Int32) (m_mq_n : Nat → Int32) (m_nb_n : Nat → Int64), va_P D vwCl ([(h0, .inr (8, [.ref qh, .ref qk, .ref qd, .int b0, .ref qa, .ref qm, .ref qs, .ref qp, .ref ql, .ref qt, .ref qz, .ref qf])), (qz, .inl (cS, 4, .inr (.inr (.inr (.inr (xSh s0 s1 s2 s3)))))), (s0, .inr (4, [.int bt0, .int (nI (sz0)), .ref sn0])), (s1, .inr (4, [.int bt1, .int (nI (sz1)), .ref sn1])), (s2, .inr (4, [.int bt2, .int (nI (sz2)), .ref sn2])), (s3, .inr (4, [.int bt3, .int (nI (sz3)), .ref sn3])), (sn0, .inl (cJ, 40, .inr (.inl nu0_n))), (sn1, .inl (cJ, 40, .inr (.inl nu1_n))), (sn2, .inl (cJ, 40, .inr (.inl nu2_n))), (sn3, .inl (cJ, 40, .inr (.inl nu3_n))), (qf, .inl (cI, 7, .inl ff_n)), (g0, .inr (9, [.ref m_ys, .ref m_yk, .ref m_yo, .ref m_yt, .int b0, .ref m_yfa, .ref m_yfe, .int m_mL, .int m_mS, .int m_mM, .ref m_yro, .ref m_yhe, .ref m_ygr, .int m_mF, .int m_mC, .int m_mY, .ref m_yta, .int (nI (z)), .int (nI (m_mf)), .int (nI (m_mt)), .int m_mv, .int m_mw, .ref m_ywa, .ref m_ybi, .ref m_ysi, .ref m_ynu, .ref m_ymo])), (m_yt, .inl (cI, 7, .inl m_mq_n)), (m_ybi, .inl (cI, 4, .inl m_bi)), (m_ysi, .inl (cI, 4, .inl m_sq)), (m_ynu, .inl (cJ, 160, .inr (.inl m_nb_n)))] ++ tl) H → va_D A ([(h0, .inr (8, [.ref qh, .ref qk, .ref qd, .int b0, .ref qa, .ref qm, .ref qs, .ref qp, .ref ql, .ref qt, .ref qz, .ref qf])), (qz, .inl (cS, 4, .inr (.inr (.inr (.inr (xSh s0 s1 s2 s3)))))), (s0, .inr (4, [.int bt0, .int (nI (sz0)), .ref sn0])), (s1, .inr (4, [.int bt1, .int (nI (sz1)), .ref sn1])), (s2, .inr (4, [.int bt2, .int (nI (sz2)), .ref sn2])), (s3, .inr (4, [.int bt3, .int (nI (sz3)), .ref sn3])), (sn0, .inl (cJ, 40, .inr (.inl nu0_n))), (sn1, .inl (cJ, 40, .inr (.inl nu1_n))), (sn2, .inl (cJ, 40, .inr (.inl nu2_n))), (sn3, .inl (cJ, 40, .inr (.inl nu3_n))), (qf, .inl (cI, 7, .inl ff_n)), (g0, .inr (9, [.ref m_ys, .ref m_yk, .ref m_yo, .ref m_yt, .int b0, .ref m_yfa, .ref m_yfe, .int m_mL, .int m_mS, .int m_mM, .ref m_yro, .ref m_yhe, .ref m_ygr, .int m_mF, .int m_mC, .int m_mY, .ref m_yta, .int (nI (z)), .int (nI (m_mf)), .int (nI (m_mt)), .int m_mv, .int m_mw, .ref m_ywa, .ref m_ybi, .ref m_ysi, .ref m_ynu, .ref m_ymo])), (m_yt, .inl (cI, 7, .inl m_mq_n)), (m_ybi, .inl (cI, 4, .inl m_bi)), (m_ysi, .inl (cI, 4, .inl m_sq)), (m_ynu, .inl (cJ, 160, .inr (.inl m_nb_n)))] ++ tl) → (∀ j, j < 40 → m_nb_n (0 + j) = nu0_n j) → (∀ j, j < 40 → m_nb_n (40 + j) = nu1_n j) → (∀ j, j < 40 → m_nb_n (80 + j) = nu2_n j) → (∀ j, j < 40 → m_nb_n (120 + j) = nu3_n j) → va_S A s.heap H locs → lv_has ls 4 [(3, .int (nI i)), (2, .ref g0), (1, .ref h0), (0, .ref b)] → W p l e room_1 s m #[Value.ref b] below meth c H locs 82 4273 (lw_Z below #[Value.ref b] s) (F0 m 1483 ls [])) : W p l e room_1 s m #[Value.ref b] below meth c H locs 82 4273 (lw_Z below #[Value.ref b] s) (F0 m 1205 ls []) := by
  have hx := hF.1
  have hb := hF.2.1
  have hml := hF.2.2.1
  have hown := hF.2.2.2.1
  have hu : ∀ w ∈ wsU, w.before _ s = true := fun w h => hF.2.2.2.2 w (List.mem_cons_of_mem _ h)
  rcases x_sh4 (xs (i + 1)) with oq1 | eq1 | eq1 | eq1 | eq1
  · skip
    refine lv_aload_n hx hb dL_law_1205 rfl (lv_at hl 2 rfl) ?_
    refine lv_aload_n hx hb dL_law_1206 rfl (lv_at hl 3 rfl) ?_
    refine lv_iload_n hx hb dL_law_1207 rfl (lv_at hl 0 rfl) ?_
    refine lv_iconst (v := 1) hx hb dL_law_1208 (by decide) ?_
    refine lv_iadd hx hb dL_law_1209 ?_
    refine xl_i (y := nI (i + 1)) (nI_add i 1) ?_
    refine va_sld hx hb hX hbl hbA hS (x_si (k := 1) (by decide) hi hL) dL_law_1210 ?_
    refine xl_i (y := xs (i + 1)) (congrArg xs (x_sc (k := 1) (by decide) hi hL)) ?_
    refine lv_aload_n hx hb dL_law_1211 rfl (lv_at hl 3 rfl) ?_
    refine lv_iload_n hx hb dL_law_1212 rfl (lv_at hl 0 rfl) ?_
    refine lv_iconst (v := 2) hx hb dL_law_1213 (by decide) ?_
    refine lv_iadd hx hb dL_law_1214 ?_
    refine xl_i (y := nI (i + 2)) (nI_add i 2) ?_
    refine va_sld hx hb hX hbl hbA hS (x_si (k := 2) (by decide) hi hL) dL_law_1215 ?_
    refine xl_i (y := xs (i + 2)) (congrArg xs (x_sc (k := 2) (by decide) hi hL)) ?_
    refine lv_aload_n hx hb dL_law_1216 rfl (lv_at hl 3 rfl) ?_
    refine lv_iload_n hx hb dL_law_1217 rfl (lv_at hl 0 rfl) ?_
    refine lv_iconst (v := 3) hx hb dL_law_1218 (by decide) ?_
    refine lv_iadd hx hb dL_law_1219 ?_
    refine xl_i (y := nI (i + 3)) (nI_add i 3) ?_
    refine va_sld hx hb hX hbl hbA hS (x_si (k := 3) (by decide) hi hL) dL_law_1220 ?_
    refine xl_i (y := xs (i + 3)) (congrArg xs (x_sc (k := 3) (by decide) hi hL)) ?_
    refine lv_i2l (v := (xs (i + 3)).toInt64) hx hb dL_law_1221 rfl ?_
    refine lv_bipush (v := 32) hx hb dL_law_1222 (by decide) ?_
    refine lv_lshl hx hb dL_law_1224 rfl ?_
    refine lv_topl (fun x_1 ex_1 => ?_)
    refine lv_aload_n hx hb dL_law_1225 rfl (lv_at hl 3 rfl) ?_
    refine lv_iload_n hx hb dL_law_1226 rfl (lv_at hl 0 rfl) ?_
    refine lv_iconst (v := 4) hx hb dL_law_1227 (by decide) ?_
    refine lv_iadd hx hb dL_law_1228 ?_
    refine xl_i (y := nI (i + 4)) (nI_add i 4) ?_
    refine va_sld hx hb hX hbl hbA hS (x_si (k := 4) (by decide) hi hL) dL_law_1229 ?_
    refine xl_i (y := xs (i + 4)) (congrArg xs (x_sc (k := 4) (by decide) hi hL)) ?_
    refine lv_i2l (v := (xs (i + 4)).toInt64) hx hb dL_law_1230 rfl ?_
    refine lv_ldc2 (v := 4294967295) hx hb hown (hu _ uw1261) dL_law_1231 ?_
    refine lv_land hx hb dL_law_1234 ?_
    refine lv_topl (fun x_2 ex_2 => ?_)
    refine lv_lor hx hb dL_law_1235 ?_
    refine lv_topl (fun x_3 ex_3 => ?_)
    refine xc_VlT (wr := [(qz, .inl (cS, 4, .inr (.inr (.inr (.inr (xSh s0 s1 s2 s3)))))), (s0, .inr (4, [.int bt0, .int (nI (sz0)), .ref sn0])), (s1, .inr (4, [.int bt1, .int (nI (sz1)), .ref sn1])), (s2, .inr (4, [.int bt2, .int (nI (sz2)), .ref sn2])), (s3, .inr (4, [.int bt3, .int (nI (sz3)), .ref sn3])), (sn0, .inl (cJ, 40, .inr (.inl nu0))), (sn1, .inl (cJ, 40, .inr (.inl nu1))), (sn2, .inl (cJ, 40, .inr (.inl nu2))), (sn3, .inl (cJ, 40, .inr (.inl nu3))), (g0, .inr (9, [.ref m_ys, .ref m_yk, .ref m_yo, .ref m_yt, .int b0, .ref m_yfa, .ref m_yfe, .int m_mL, .int m_mS, .int m_mM, .ref m_yro, .ref m_yhe, .ref m_ygr, .int m_mF, .int m_mC, .int m_mY, .ref m_yta, .int (nI (z)), .int (nI (m_mf)), .int (nI (m_mt)), .int m_mv, .int m_mw, .ref m_ywa, .ref m_ybi, .ref m_ysi, .ref m_ynu, .ref m_ymo])), (m_yt, .inl (cI, 7, .inl m_mq)), (m_ybi, .inl (cI, 4, .inl m_bi)), (m_ysi, .inl (cI, 4, .inl m_sq)), (m_ynu, .inl (cJ, 160, .inr (.inl m_nb)))]) hF (c_X8_write_o l D cI cJ cZ cS ta sa sv H.size h0 qh qk qd b0 qa qm qs qp ql qt qz qf ff (xs (i + 1)) (xs (i + 2)) x_3 oq1) kv_L_161 ⟨rfl, rfl, Nat.le_of_ble_eq_true rfl, Nat.le_of_ble_eq_true rfl⟩ ⟨Nat.le_of_ble_eq_true rfl, Nat.le_of_ble_eq_true rfl⟩ hK hN hZ hP hD hS hA [0, 10] [1, 2, 3, 4, 5, 6, 7, 8, 9, 11, 12, 13, 14, 15] rfl rfl rfl rfl (by decide) 0 rfl rfl rfl rfl hl.1 rfl (Nat.le_of_ble_eq_true rfl) dL_law_1236 (fun r_4 u_r_4 H locs hw_r_4 hP hD hS => ?_)
    obtain ⟨f2_5, rfl⟩ : ∃ z, z = u_r_4 := ⟨_, rfl⟩
    try dsimp only at hw_r_4
    have hP : va_P D vwCl ([(qz, .inl (cS, 4, .inr (.inr (.inr (.inr (xSh s0 s1 s2 s3)))))), (s0, .inr (4, [.int bt0, .int (nI (sz0)), .ref sn0])), (s1, .inr (4, [.int bt1, .int (nI (sz1)), .ref sn1])), (s2, .inr (4, [.int bt2, .int (nI (sz2)), .ref sn2])), (s3, .inr (4, [.int bt3, .int (nI (sz3)), .ref sn3])), (sn0, .inl (cJ, 40, .inr (.inl nu0))), (sn1, .inl (cJ, 40, .inr (.inl nu1))), (sn2, .inl (cJ, 40, .inr (.inl nu2))), (sn3, .inl (cJ, 40, .inr (.inl nu3))), (g0, .inr (9, [.ref m_ys, .ref m_yk, .ref m_yo, .ref m_yt, .int b0, .ref m_yfa, .ref m_yfe, .int m_mL, .int m_mS, .int m_mM, .ref m_yro, .ref m_yhe, .ref m_ygr, .int m_mF, .int m_mC, .int m_mY, .ref m_yta, .int (nI (z)), .int (nI (m_mf)), .int (nI (m_mt)), .int m_mv, .int m_mw, .ref m_ywa, .ref m_ybi, .ref m_ysi, .ref m_ynu, .ref m_ymo])), (m_yt, .inl (cI, 7, .inl m_mq)), (m_ybi, .inl (cI, 4, .inl m_bi)), (m_ysi, .inl (cI, 4, .inl m_sq)), (m_ynu, .inl (cJ, 160, .inr (.inl m_nb))), (h0, .inr (8, [.ref qh, .ref qk, .ref qd, .int b0, .ref qa, .ref qm, .ref qs, .ref qp, .ref ql, .ref qt, .ref qz, .ref qf])), (qf, .inl (cI, 7, .inl f2_5))] ++ tl) H := hP
    have hD : va_D A ([(qz, .inl (cS, 4, .inr (.inr (.inr (.inr (xSh s0 s1 s2 s3)))))), (s0, .inr (4, [.int bt0, .int (nI (sz0)), .ref sn0])), (s1, .inr (4, [.int bt1, .int (nI (sz1)), .ref sn1])), (s2, .inr (4, [.int bt2, .int (nI (sz2)), .ref sn2])), (s3, .inr (4, [.int bt3, .int (nI (sz3)), .ref sn3])), (sn0, .inl (cJ, 40, .inr (.inl nu0))), (sn1, .inl (cJ, 40, .inr (.inl nu1))), (sn2, .inl (cJ, 40, .inr (.inl nu2))), (sn3, .inl (cJ, 40, .inr (.inl nu3))), (g0, .inr (9, [.ref m_ys, .ref m_yk, .ref m_yo, .ref m_yt, .int b0, .ref m_yfa, .ref m_yfe, .int m_mL, .int m_mS, .int m_mM, .ref m_yro, .ref m_yhe, .ref m_ygr, .int m_mF, .int m_mC, .int m_mY, .ref m_yta, .int (nI (z)), .int (nI (m_mf)), .int (nI (m_mt)), .int m_mv, .int m_mw, .ref m_ywa, .ref m_ybi, .ref m_ysi, .ref m_ynu, .ref m_ymo])), (m_yt, .inl (cI, 7, .inl m_mq)), (m_ybi, .inl (cI, 4, .inl m_bi)), (m_ysi, .inl (cI, 4, .inl m_sq)), (m_ynu, .inl (cJ, 160, .inr (.inl m_nb))), (h0, .inr (8, [.ref qh, .ref qk, .ref qd, .int b0, .ref qa, .ref qm, .ref qs, .ref qp, .ref ql, .ref qt, .ref qz, .ref qf])), (qf, .inl (cI, 7, .inl f2_5))] ++ tl) := hD
    subst hw_r_4
    refine lv_aload_n hx hb dL_law_1239 rfl (lv_at hl 1 rfl) ?_
    refine lv_aload_n hx hb dL_law_1240 rfl (lv_at hl 3 rfl) ?_
    refine lv_iload_n hx hb dL_law_1241 rfl (lv_at hl 0 rfl) ?_
    refine lv_iconst (v := 1) hx hb dL_law_1242 (by decide) ?_
    refine lv_iadd hx hb dL_law_1243 ?_
    refine xl_i (y := nI (i + 1)) (nI_add i 1) ?_
    refine va_sld hx hb hX hbl hbA hS (x_si (k := 1) (by decide) hi hL) dL_law_1244 ?_
    refine xl_i (y := xs (i + 1)) (congrArg xs (x_sc (k := 1) (by decide) hi hL)) ?_
    refine lv_aload_n hx hb dL_law_1245 rfl (lv_at hl 3 rfl) ?_
    refine lv_iload_n hx hb dL_law_1246 rfl (lv_at hl 0 rfl) ?_
    refine lv_iconst (v := 2) hx hb dL_law_1247 (by decide) ?_
    refine lv_iadd hx hb dL_law_1248 ?_
    refine xl_i (y := nI (i + 2)) (nI_add i 2) ?_
    refine va_sld hx hb hX hbl hbA hS (x_si (k := 2) (by decide) hi hL) dL_law_1249 ?_
    refine xl_i (y := xs (i + 2)) (congrArg xs (x_sc (k := 2) (by decide) hi hL)) ?_
    refine lv_aload_n hx hb dL_law_1250 rfl (lv_at hl 3 rfl) ?_
    refine lv_iload_n hx hb dL_law_1251 rfl (lv_at hl 0 rfl) ?_
    refine lv_iconst (v := 3) hx hb dL_law_1252 (by decide) ?_
    refine lv_iadd hx hb dL_law_1253 ?_
    refine xl_i (y := nI (i + 3)) (nI_add i 3) ?_
    refine va_sld hx hb hX hbl hbA hS (x_si (k := 3) (by decide) hi hL) dL_law_1254 ?_
    refine xl_i (y := xs (i + 3)) (congrArg xs (x_sc (k := 3) (by decide) hi hL)) ?_
    refine lv_i2l (v := (xs (i + 3)).toInt64) hx hb dL_law_1255 rfl ?_
    refine lv_bipush (v := 32) hx hb dL_law_1256 (by decide) ?_
    refine lv_lshl hx hb dL_law_1258 rfl ?_
    refine lv_topl (fun x_6 ex_6 => ?_)
    refine lv_aload_n hx hb dL_law_1259 rfl (lv_at hl 3 rfl) ?_
    refine lv_iload_n hx hb dL_law_1260 rfl (lv_at hl 0 rfl) ?_
    refine lv_iconst (v := 4) hx hb dL_law_1261 (by decide) ?_
    refine lv_iadd hx hb dL_law_1262 ?_
    refine xl_i (y := nI (i + 4)) (nI_add i 4) ?_
    refine va_sld hx hb hX hbl hbA hS (x_si (k := 4) (by decide) hi hL) dL_law_1263 ?_
    refine xl_i (y := xs (i + 4)) (congrArg xs (x_sc (k := 4) (by decide) hi hL)) ?_
    refine lv_i2l (v := (xs (i + 4)).toInt64) hx hb dL_law_1264 rfl ?_
    refine lv_ldc2 (v := 4294967295) hx hb hown (hu _ uw1261) dL_law_1265 ?_
    refine lv_land hx hb dL_law_1268 ?_
    refine lv_topl (fun x_7 ex_7 => ?_)
    refine lv_lor hx hb dL_law_1269 ?_
    refine lv_topl (fun x_8 ex_8 => ?_)
    refine xc_VlT (wr := [(qz, .inl (cS, 4, .inr (.inr (.inr (.inr (xSh s0 s1 s2 s3)))))), (s0, .inr (4, [.int bt0, .int (nI (sz0)), .ref sn0])), (s1, .inr (4, [.int bt1, .int (nI (sz1)), .ref sn1])), (s2, .inr (4, [.int bt2, .int (nI (sz2)), .ref sn2])), (s3, .inr (4, [.int bt3, .int (nI (sz3)), .ref sn3])), (sn0, .inl (cJ, 40, .inr (.inl nu0))), (sn1, .inl (cJ, 40, .inr (.inl nu1))), (sn2, .inl (cJ, 40, .inr (.inl nu2))), (sn3, .inl (cJ, 40, .inr (.inl nu3))), (m_ybi, .inl (cI, 4, .inl m_bi)), (m_ysi, .inl (cI, 4, .inl m_sq)), (m_ynu, .inl (cJ, 160, .inr (.inl m_nb))), (h0, .inr (8, [.ref qh, .ref qk, .ref qd, .int b0, .ref qa, .ref qm, .ref qs, .ref qp, .ref ql, .ref qt, .ref qz, .ref qf])), (qf, .inl (cI, 7, .inl f2_5))]) hF (c_X9_write_o l D cI cJ cZ cS ta sa sv H.size g0 m_ys m_yk m_yo m_yt b0 m_yfa m_yfe m_mL m_mS m_mM m_yro m_yhe m_ygr m_mF m_mC m_mY m_yta z m_mf m_mt m_mv m_mw m_ywa m_ybi m_ysi m_ynu m_ymo m_mq (xs (i + 1)) (xs (i + 2)) x_8 oq1) kv_L_165 ⟨rfl, rfl, Nat.le_of_ble_eq_true rfl, Nat.le_of_ble_eq_true rfl⟩ ⟨Nat.le_of_ble_eq_true rfl, Nat.le_of_ble_eq_true rfl⟩ hK hN hZ hP hD hS hA [9, 10] [0, 1, 2, 3, 4, 5, 6, 7, 8, 11, 12, 13, 14, 15] rfl rfl rfl rfl (by decide) 0 rfl rfl rfl rfl hl.1 rfl (Nat.le_of_ble_eq_true rfl) dL_law_1270 (fun r_9 u_r_9 H locs hw_r_9 hP hD hS => ?_)
    obtain ⟨mq2_10, rfl⟩ : ∃ z, z = u_r_9 := ⟨_, rfl⟩
    try dsimp only at hw_r_9
    have hP : va_P D vwCl ([(qz, .inl (cS, 4, .inr (.inr (.inr (.inr (xSh s0 s1 s2 s3)))))), (s0, .inr (4, [.int bt0, .int (nI (sz0)), .ref sn0])), (s1, .inr (4, [.int bt1, .int (nI (sz1)), .ref sn1])), (s2, .inr (4, [.int bt2, .int (nI (sz2)), .ref sn2])), (s3, .inr (4, [.int bt3, .int (nI (sz3)), .ref sn3])), (sn0, .inl (cJ, 40, .inr (.inl nu0))), (sn1, .inl (cJ, 40, .inr (.inl nu1))), (sn2, .inl (cJ, 40, .inr (.inl nu2))), (sn3, .inl (cJ, 40, .inr (.inl nu3))), (m_ybi, .inl (cI, 4, .inl m_bi)), (m_ysi, .inl (cI, 4, .inl m_sq)), (m_ynu, .inl (cJ, 160, .inr (.inl m_nb))), (h0, .inr (8, [.ref qh, .ref qk, .ref qd, .int b0, .ref qa, .ref qm, .ref qs, .ref qp, .ref ql, .ref qt, .ref qz, .ref qf])), (qf, .inl (cI, 7, .inl f2_5)), (g0, .inr (9, [.ref m_ys, .ref m_yk, .ref m_yo, .ref m_yt, .int b0, .ref m_yfa, .ref m_yfe, .int m_mL, .int m_mS, .int m_mM, .ref m_yro, .ref m_yhe, .ref m_ygr, .int m_mF, .int m_mC, .int m_mY, .ref m_yta, .int (nI (z)), .int (nI (m_mf)), .int (nI (m_mt)), .int m_mv, .int m_mw, .ref m_ywa, .ref m_ybi, .ref m_ysi, .ref m_ynu, .ref m_ymo])), (m_yt, .inl (cI, 7, .inl mq2_10))] ++ tl) H := hP
    have hD : va_D A ([(qz, .inl (cS, 4, .inr (.inr (.inr (.inr (xSh s0 s1 s2 s3)))))), (s0, .inr (4, [.int bt0, .int (nI (sz0)), .ref sn0])), (s1, .inr (4, [.int bt1, .int (nI (sz1)), .ref sn1])), (s2, .inr (4, [.int bt2, .int (nI (sz2)), .ref sn2])), (s3, .inr (4, [.int bt3, .int (nI (sz3)), .ref sn3])), (sn0, .inl (cJ, 40, .inr (.inl nu0))), (sn1, .inl (cJ, 40, .inr (.inl nu1))), (sn2, .inl (cJ, 40, .inr (.inl nu2))), (sn3, .inl (cJ, 40, .inr (.inl nu3))), (m_ybi, .inl (cI, 4, .inl m_bi)), (m_ysi, .inl (cI, 4, .inl m_sq)), (m_ynu, .inl (cJ, 160, .inr (.inl m_nb))), (h0, .inr (8, [.ref qh, .ref qk, .ref qd, .int b0, .ref qa, .ref qm, .ref qs, .ref qp, .ref ql, .ref qt, .ref qz, .ref qf])), (qf, .inl (cI, 7, .inl f2_5)), (g0, .inr (9, [.ref m_ys, .ref m_yk, .ref m_yo, .ref m_yt, .int b0, .ref m_yfa, .ref m_yfe, .int m_mL, .int m_mS, .int m_mM, .ref m_yro, .ref m_yhe, .ref m_ygr, .int m_mF, .int m_mC, .int m_mY, .ref m_yta, .int (nI (z)), .int (nI (m_mf)), .int (nI (m_mt)), .int m_mv, .int m_mw, .ref m_ywa, .ref m_ybi, .ref m_ysi, .ref m_ynu, .ref m_ymo])), (m_yt, .inl (cI, 7, .inl mq2_10))] ++ tl) := hD
    subst hw_r_9
    refine W.lcmp hx hb dL_law_1273 ?_
    refine xl_i (y := 0) (by decide) ?_
    refine lv_if_eq (tgt := 1483) hx hb dL_law_1274 (by decide) (fun c_11 => ?_) (fun c_11 => absurd (by decide) c_11)
    exact kkx _ _ _ nu0 nu1 nu2 nu3 f2_5 mq2_10 m_nb (xt_P hP [12, 0, 1, 2, 3, 4, 5, 6, 7, 8, 13, 14, 15, 9, 10, 11] rfl) (xt_D hD [12, 0, 1, 2, 3, 4, 5, 6, 7, 8, 13, 14, 15, 9, 10, 11] (by decide +kernel) rfl) r_n0 r_n1 r_n2 r_n3 hS hl
  · skip
    refine lv_aload_n hx hb dL_law_1205 rfl (lv_at hl 2 rfl) ?_
    refine lv_aload_n hx hb dL_law_1206 rfl (lv_at hl 3 rfl) ?_
    refine lv_iload_n hx hb dL_law_1207 rfl (lv_at hl 0 rfl) ?_
    refine lv_iconst (v := 1) hx hb dL_law_1208 (by decide) ?_
    refine lv_iadd hx hb dL_law_1209 ?_
    refine xl_i (y := nI (i + 1)) (nI_add i 1) ?_
    refine va_sld hx hb hX hbl hbA hS (x_si (k := 1) (by decide) hi hL) dL_law_1210 ?_
    refine xl_i (y := xs (i + 1)) (congrArg xs (x_sc (k := 1) (by decide) hi hL)) ?_
    refine xl_i (y := 0) eq1 ?_
    refine lv_aload_n hx hb dL_law_1211 rfl (lv_at hl 3 rfl) ?_
    refine lv_iload_n hx hb dL_law_1212 rfl (lv_at hl 0 rfl) ?_
    refine lv_iconst (v := 2) hx hb dL_law_1213 (by decide) ?_
    refine lv_iadd hx hb dL_law_1214 ?_
    refine xl_i (y := nI (i + 2)) (nI_add i 2) ?_
    refine va_sld hx hb hX hbl hbA hS (x_si (k := 2) (by decide) hi hL) dL_law_1215 ?_
    refine xl_i (y := xs (i + 2)) (congrArg xs (x_sc (k := 2) (by decide) hi hL)) ?_
    refine lv_aload_n hx hb dL_law_1216 rfl (lv_at hl 3 rfl) ?_
    refine lv_iload_n hx hb dL_law_1217 rfl (lv_at hl 0 rfl) ?_
    refine lv_iconst (v := 3) hx hb dL_law_1218 (by decide) ?_
    refine lv_iadd hx hb dL_law_1219 ?_
    refine xl_i (y := nI (i + 3)) (nI_add i 3) ?_
    refine va_sld hx hb hX hbl hbA hS (x_si (k := 3) (by decide) hi hL) dL_law_1220 ?_
    refine xl_i (y := xs (i + 3)) (congrArg xs (x_sc (k := 3) (by decide) hi hL)) ?_
    refine lv_i2l (v := (xs (i + 3)).toInt64) hx hb dL_law_1221 rfl ?_
    refine lv_bipush (v := 32) hx hb dL_law_1222 (by decide) ?_
    refine lv_lshl hx hb dL_law_1224 rfl ?_
    refine lv_topl (fun x_12 ex_12 => ?_)
    refine lv_aload_n hx hb dL_law_1225 rfl (lv_at hl 3 rfl) ?_
    refine lv_iload_n hx hb dL_law_1226 rfl (lv_at hl 0 rfl) ?_
    refine lv_iconst (v := 4) hx hb dL_law_1227 (by decide) ?_
    refine lv_iadd hx hb dL_law_1228 ?_
    refine xl_i (y := nI (i + 4)) (nI_add i 4) ?_
    refine va_sld hx hb hX hbl hbA hS (x_si (k := 4) (by decide) hi hL) dL_law_1229 ?_
    refine xl_i (y := xs (i + 4)) (congrArg xs (x_sc (k := 4) (by decide) hi hL)) ?_
    refine lv_i2l (v := (xs (i + 4)).toInt64) hx hb dL_law_1230 rfl ?_
    refine lv_ldc2 (v := 4294967295) hx hb hown (hu _ uw1261) dL_law_1231 ?_
    refine lv_land hx hb dL_law_1234 ?_
    refine lv_topl (fun x_13 ex_13 => ?_)
    refine lv_lor hx hb dL_law_1235 ?_
    refine lv_topl (fun x_14 ex_14 => ?_)
    refine xc_VlT (wr := [(g0, .inr (9, [.ref m_ys, .ref m_yk, .ref m_yo, .ref m_yt, .int b0, .ref m_yfa, .ref m_yfe, .int m_mL, .int m_mS, .int m_mM, .ref m_yro, .ref m_yhe, .ref m_ygr, .int m_mF, .int m_mC, .int m_mY, .ref m_yta, .int (nI (z)), .int (nI (m_mf)), .int (nI (m_mt)), .int m_mv, .int m_mw, .ref m_ywa, .ref m_ybi, .ref m_ysi, .ref m_ynu, .ref m_ymo])), (m_yt, .inl (cI, 7, .inl m_mq)), (m_ybi, .inl (cI, 4, .inl m_bi)), (m_ysi, .inl (cI, 4, .inl m_sq)), (m_ynu, .inl (cJ, 160, .inr (.inl m_nb)))]) hF (c_X8_write_0 l D cI cJ cZ cS ta sa sv H.size h0 qh qk qd b0 qa qm qs qp ql qt qz qf s0 s1 s2 s3 bt0 sz0 sn0 bt1 sz1 sn1 bt2 sz2 sn2 bt3 sz3 sn3 nu0 nu1 nu2 nu3 ff (xs (i + 2)) x_14 hsz0 hsz1 hsz2 hsz3) kv_L_161 ⟨rfl, rfl, Nat.le_of_ble_eq_true rfl, Nat.le_of_ble_eq_true rfl⟩ ⟨Nat.le_of_ble_eq_true rfl, Nat.le_of_ble_eq_true rfl⟩ hK hN hZ hP hD hS hA [0, 1, 2, 3, 4, 5, 6, 7, 8, 9, 10] [11, 12, 13, 14, 15] rfl rfl rfl rfl (by decide) 0 rfl rfl rfl rfl hl.1 rfl (Nat.le_of_ble_eq_true rfl) dL_law_1236 (fun r_15 u_r_15 H locs hw_r_15 hP hD hS => ?_)
    obtain ⟨nv_16, f2_17⟩ := u_r_15
    try dsimp only at hw_r_15
    obtain ⟨hw_r_15, i_18⟩ := hw_r_15
    have hP : va_P D vwCl ([(g0, .inr (9, [.ref m_ys, .ref m_yk, .ref m_yo, .ref m_yt, .int b0, .ref m_yfa, .ref m_yfe, .int m_mL, .int m_mS, .int m_mM, .ref m_yro, .ref m_yhe, .ref m_ygr, .int m_mF, .int m_mC, .int m_mY, .ref m_yta, .int (nI (z)), .int (nI (m_mf)), .int (nI (m_mt)), .int m_mv, .int m_mw, .ref m_ywa, .ref m_ybi, .ref m_ysi, .ref m_ynu, .ref m_ymo])), (m_yt, .inl (cI, 7, .inl m_mq)), (m_ybi, .inl (cI, 4, .inl m_bi)), (m_ysi, .inl (cI, 4, .inl m_sq)), (m_ynu, .inl (cJ, 160, .inr (.inl m_nb))), (h0, .inr (8, [.ref qh, .ref qk, .ref qd, .int b0, .ref qa, .ref qm, .ref qs, .ref qp, .ref ql, .ref qt, .ref qz, .ref qf])), (qz, .inl (cS, 4, .inr (.inr (.inr (.inr (xSh s0 s1 s2 s3)))))), (s0, .inr (4, [.int bt0, .int (nI (sz0)), .ref sn0])), (s1, .inr (4, [.int bt1, .int (nI (sz1)), .ref sn1])), (s2, .inr (4, [.int bt2, .int (nI (sz2)), .ref sn2])), (s3, .inr (4, [.int bt3, .int (nI (sz3)), .ref sn3])), (sn0, .inl (cJ, 40, .inr (.inl nv_16))), (sn1, .inl (cJ, 40, .inr (.inl nu1))), (sn2, .inl (cJ, 40, .inr (.inl nu2))), (sn3, .inl (cJ, 40, .inr (.inl nu3))), (qf, .inl (cI, 7, .inl f2_17))] ++ tl) H := hP
    have hD : va_D A ([(g0, .inr (9, [.ref m_ys, .ref m_yk, .ref m_yo, .ref m_yt, .int b0, .ref m_yfa, .ref m_yfe, .int m_mL, .int m_mS, .int m_mM, .ref m_yro, .ref m_yhe, .ref m_ygr, .int m_mF, .int m_mC, .int m_mY, .ref m_yta, .int (nI (z)), .int (nI (m_mf)), .int (nI (m_mt)), .int m_mv, .int m_mw, .ref m_ywa, .ref m_ybi, .ref m_ysi, .ref m_ynu, .ref m_ymo])), (m_yt, .inl (cI, 7, .inl m_mq)), (m_ybi, .inl (cI, 4, .inl m_bi)), (m_ysi, .inl (cI, 4, .inl m_sq)), (m_ynu, .inl (cJ, 160, .inr (.inl m_nb))), (h0, .inr (8, [.ref qh, .ref qk, .ref qd, .int b0, .ref qa, .ref qm, .ref qs, .ref qp, .ref ql, .ref qt, .ref qz, .ref qf])), (qz, .inl (cS, 4, .inr (.inr (.inr (.inr (xSh s0 s1 s2 s3)))))), (s0, .inr (4, [.int bt0, .int (nI (sz0)), .ref sn0])), (s1, .inr (4, [.int bt1, .int (nI (sz1)), .ref sn1])), (s2, .inr (4, [.int bt2, .int (nI (sz2)), .ref sn2])), (s3, .inr (4, [.int bt3, .int (nI (sz3)), .ref sn3])), (sn0, .inl (cJ, 40, .inr (.inl nv_16))), (sn1, .inl (cJ, 40, .inr (.inl nu1))), (sn2, .inl (cJ, 40, .inr (.inl nu2))), (sn3, .inl (cJ, 40, .inr (.inl nu3))), (qf, .inl (cI, 7, .inl f2_17))] ++ tl) := hD
    subst hw_r_15
    refine lv_aload_n hx hb dL_law_1239 rfl (lv_at hl 1 rfl) ?_
    refine lv_aload_n hx hb dL_law_1240 rfl (lv_at hl 3 rfl) ?_
    refine lv_iload_n hx hb dL_law_1241 rfl (lv_at hl 0 rfl) ?_
    refine lv_iconst (v := 1) hx hb dL_law_1242 (by decide) ?_
    refine lv_iadd hx hb dL_law_1243 ?_
    refine xl_i (y := nI (i + 1)) (nI_add i 1) ?_
    refine va_sld hx hb hX hbl hbA hS (x_si (k := 1) (by decide) hi hL) dL_law_1244 ?_
    refine xl_i (y := xs (i + 1)) (congrArg xs (x_sc (k := 1) (by decide) hi hL)) ?_
    refine xl_i (y := 0) eq1 ?_
    refine lv_aload_n hx hb dL_law_1245 rfl (lv_at hl 3 rfl) ?_
    refine lv_iload_n hx hb dL_law_1246 rfl (lv_at hl 0 rfl) ?_
    refine lv_iconst (v := 2) hx hb dL_law_1247 (by decide) ?_
    refine lv_iadd hx hb dL_law_1248 ?_
    refine xl_i (y := nI (i + 2)) (nI_add i 2) ?_
    refine va_sld hx hb hX hbl hbA hS (x_si (k := 2) (by decide) hi hL) dL_law_1249 ?_
    refine xl_i (y := xs (i + 2)) (congrArg xs (x_sc (k := 2) (by decide) hi hL)) ?_
    refine lv_aload_n hx hb dL_law_1250 rfl (lv_at hl 3 rfl) ?_
    refine lv_iload_n hx hb dL_law_1251 rfl (lv_at hl 0 rfl) ?_
    refine lv_iconst (v := 3) hx hb dL_law_1252 (by decide) ?_
    refine lv_iadd hx hb dL_law_1253 ?_
    refine xl_i (y := nI (i + 3)) (nI_add i 3) ?_
    refine va_sld hx hb hX hbl hbA hS (x_si (k := 3) (by decide) hi hL) dL_law_1254 ?_
    refine xl_i (y := xs (i + 3)) (congrArg xs (x_sc (k := 3) (by decide) hi hL)) ?_
    refine lv_i2l (v := (xs (i + 3)).toInt64) hx hb dL_law_1255 rfl ?_
    refine lv_bipush (v := 32) hx hb dL_law_1256 (by decide) ?_
    refine lv_lshl hx hb dL_law_1258 rfl ?_
    refine lv_topl (fun x_19 ex_19 => ?_)
    refine lv_aload_n hx hb dL_law_1259 rfl (lv_at hl 3 rfl) ?_
    refine lv_iload_n hx hb dL_law_1260 rfl (lv_at hl 0 rfl) ?_
    refine lv_iconst (v := 4) hx hb dL_law_1261 (by decide) ?_
    refine lv_iadd hx hb dL_law_1262 ?_
    refine xl_i (y := nI (i + 4)) (nI_add i 4) ?_
    refine va_sld hx hb hX hbl hbA hS (x_si (k := 4) (by decide) hi hL) dL_law_1263 ?_
    refine xl_i (y := xs (i + 4)) (congrArg xs (x_sc (k := 4) (by decide) hi hL)) ?_
    refine lv_i2l (v := (xs (i + 4)).toInt64) hx hb dL_law_1264 rfl ?_
    refine lv_ldc2 (v := 4294967295) hx hb hown (hu _ uw1261) dL_law_1265 ?_
    refine lv_land hx hb dL_law_1268 ?_
    refine lv_topl (fun x_20 ex_20 => ?_)
    refine lv_lor hx hb dL_law_1269 ?_
    refine lv_topl (fun x_21 ex_21 => ?_)
    refine xc_VlT (wr := [(h0, .inr (8, [.ref qh, .ref qk, .ref qd, .int b0, .ref qa, .ref qm, .ref qs, .ref qp, .ref ql, .ref qt, .ref qz, .ref qf])), (qz, .inl (cS, 4, .inr (.inr (.inr (.inr (xSh s0 s1 s2 s3)))))), (s0, .inr (4, [.int bt0, .int (nI (sz0)), .ref sn0])), (s1, .inr (4, [.int bt1, .int (nI (sz1)), .ref sn1])), (s2, .inr (4, [.int bt2, .int (nI (sz2)), .ref sn2])), (s3, .inr (4, [.int bt3, .int (nI (sz3)), .ref sn3])), (sn0, .inl (cJ, 40, .inr (.inl nv_16))), (sn1, .inl (cJ, 40, .inr (.inl nu1))), (sn2, .inl (cJ, 40, .inr (.inl nu2))), (sn3, .inl (cJ, 40, .inr (.inl nu3))), (qf, .inl (cI, 7, .inl f2_17))]) hF (c_X9_write_0 l D cI cJ cZ cS ta sa sv H.size g0 m_ys m_yk m_yo m_yt b0 m_yfa m_yfe m_mL m_mS m_mM m_yro m_yhe m_ygr m_mF m_mC m_mY m_yta z m_mf m_mt m_mv m_mw m_ywa m_ybi m_ysi m_ynu m_ymo m_bi m_sq m_nb m_mq (xs (i + 2)) x_21 sz0 r_z0 hsz0 m_hsq) kv_L_165 ⟨rfl, rfl, Nat.le_of_ble_eq_true rfl, Nat.le_of_ble_eq_true rfl⟩ ⟨Nat.le_of_ble_eq_true rfl, Nat.le_of_ble_eq_true rfl⟩ hK hN hZ hP hD hS hA [0, 2, 3, 4, 1] [5, 6, 7, 8, 9, 10, 11, 12, 13, 14, 15] rfl rfl rfl rfl (by decide) 0 rfl rfl rfl rfl hl.1 rfl (Nat.le_of_ble_eq_true rfl) dL_law_1270 (fun r_22 u_r_22 H locs hw_r_22 hP hD hS => ?_)
    obtain ⟨nb2_23, mq2_24⟩ := u_r_22
    try dsimp only at hw_r_22
    obtain ⟨hw_r_22, i_25, i_26⟩ := hw_r_22
    have hP : va_P D vwCl ([(h0, .inr (8, [.ref qh, .ref qk, .ref qd, .int b0, .ref qa, .ref qm, .ref qs, .ref qp, .ref ql, .ref qt, .ref qz, .ref qf])), (qz, .inl (cS, 4, .inr (.inr (.inr (.inr (xSh s0 s1 s2 s3)))))), (s0, .inr (4, [.int bt0, .int (nI (sz0)), .ref sn0])), (s1, .inr (4, [.int bt1, .int (nI (sz1)), .ref sn1])), (s2, .inr (4, [.int bt2, .int (nI (sz2)), .ref sn2])), (s3, .inr (4, [.int bt3, .int (nI (sz3)), .ref sn3])), (sn0, .inl (cJ, 40, .inr (.inl nv_16))), (sn1, .inl (cJ, 40, .inr (.inl nu1))), (sn2, .inl (cJ, 40, .inr (.inl nu2))), (sn3, .inl (cJ, 40, .inr (.inl nu3))), (qf, .inl (cI, 7, .inl f2_17)), (g0, .inr (9, [.ref m_ys, .ref m_yk, .ref m_yo, .ref m_yt, .int b0, .ref m_yfa, .ref m_yfe, .int m_mL, .int m_mS, .int m_mM, .ref m_yro, .ref m_yhe, .ref m_ygr, .int m_mF, .int m_mC, .int m_mY, .ref m_yta, .int (nI (z)), .int (nI (m_mf)), .int (nI (m_mt)), .int m_mv, .int m_mw, .ref m_ywa, .ref m_ybi, .ref m_ysi, .ref m_ynu, .ref m_ymo])), (m_ybi, .inl (cI, 4, .inl m_bi)), (m_ysi, .inl (cI, 4, .inl m_sq)), (m_ynu, .inl (cJ, 160, .inr (.inl nb2_23))), (m_yt, .inl (cI, 7, .inl mq2_24))] ++ tl) H := hP
    have hD : va_D A ([(h0, .inr (8, [.ref qh, .ref qk, .ref qd, .int b0, .ref qa, .ref qm, .ref qs, .ref qp, .ref ql, .ref qt, .ref qz, .ref qf])), (qz, .inl (cS, 4, .inr (.inr (.inr (.inr (xSh s0 s1 s2 s3)))))), (s0, .inr (4, [.int bt0, .int (nI (sz0)), .ref sn0])), (s1, .inr (4, [.int bt1, .int (nI (sz1)), .ref sn1])), (s2, .inr (4, [.int bt2, .int (nI (sz2)), .ref sn2])), (s3, .inr (4, [.int bt3, .int (nI (sz3)), .ref sn3])), (sn0, .inl (cJ, 40, .inr (.inl nv_16))), (sn1, .inl (cJ, 40, .inr (.inl nu1))), (sn2, .inl (cJ, 40, .inr (.inl nu2))), (sn3, .inl (cJ, 40, .inr (.inl nu3))), (qf, .inl (cI, 7, .inl f2_17)), (g0, .inr (9, [.ref m_ys, .ref m_yk, .ref m_yo, .ref m_yt, .int b0, .ref m_yfa, .ref m_yfe, .int m_mL, .int m_mS, .int m_mM, .ref m_yro, .ref m_yhe, .ref m_ygr, .int m_mF, .int m_mC, .int m_mY, .ref m_yta, .int (nI (z)), .int (nI (m_mf)), .int (nI (m_mt)), .int m_mv, .int m_mw, .ref m_ywa, .ref m_ybi, .ref m_ysi, .ref m_ynu, .ref m_ymo])), (m_ybi, .inl (cI, 4, .inl m_bi)), (m_ysi, .inl (cI, 4, .inl m_sq)), (m_ynu, .inl (cJ, 160, .inr (.inl nb2_23))), (m_yt, .inl (cI, 7, .inl mq2_24))] ++ tl) := hD
    subst hw_r_22
    refine W.lcmp hx hb dL_law_1273 ?_
    refine xl_i (y := 0) (xq_eq (sp_wreq (by omega) r_b0 r_n0)) ?_
    refine lv_if_eq (tgt := 1483) hx hb dL_law_1274 (by decide) (fun c_27 => ?_) (fun c_27 => absurd (by decide) c_27)
    exact kkx _ _ _ nv_16 nu1 nu2 nu3 f2_17 mq2_24 nb2_23 (xt_P hP [0, 1, 2, 3, 4, 5, 6, 7, 8, 9, 10, 11, 15, 12, 13, 14] rfl) (xt_D hD [0, 1, 2, 3, 4, 5, 6, 7, 8, 9, 10, 11, 15, 12, 13, 14] (by decide +kernel) rfl) (fun j hj => by rw [i_25 j hj, r_n0 j hj, r_b0, i_18 j, show x_21 = x_14 by rw [ex_21, ex_14, ex_20, ex_13, ex_19, ex_12]]) (fun j hj => (i_26 (40 + j) (by omega)).trans (r_n1 j hj)) (fun j hj => (i_26 (80 + j) (by omega)).trans (r_n2 j hj)) (fun j hj => (i_26 (120 + j) (by omega)).trans (r_n3 j hj)) hS hl
  · skip
    refine lv_aload_n hx hb dL_law_1205 rfl (lv_at hl 2 rfl) ?_
    refine lv_aload_n hx hb dL_law_1206 rfl (lv_at hl 3 rfl) ?_
    refine lv_iload_n hx hb dL_law_1207 rfl (lv_at hl 0 rfl) ?_
    refine lv_iconst (v := 1) hx hb dL_law_1208 (by decide) ?_
    refine lv_iadd hx hb dL_law_1209 ?_
    refine xl_i (y := nI (i + 1)) (nI_add i 1) ?_
    refine va_sld hx hb hX hbl hbA hS (x_si (k := 1) (by decide) hi hL) dL_law_1210 ?_
    refine xl_i (y := xs (i + 1)) (congrArg xs (x_sc (k := 1) (by decide) hi hL)) ?_
    refine xl_i (y := 1) eq1 ?_
    refine lv_aload_n hx hb dL_law_1211 rfl (lv_at hl 3 rfl) ?_
    refine lv_iload_n hx hb dL_law_1212 rfl (lv_at hl 0 rfl) ?_
    refine lv_iconst (v := 2) hx hb dL_law_1213 (by decide) ?_
    refine lv_iadd hx hb dL_law_1214 ?_
    refine xl_i (y := nI (i + 2)) (nI_add i 2) ?_
    refine va_sld hx hb hX hbl hbA hS (x_si (k := 2) (by decide) hi hL) dL_law_1215 ?_
    refine xl_i (y := xs (i + 2)) (congrArg xs (x_sc (k := 2) (by decide) hi hL)) ?_
    refine lv_aload_n hx hb dL_law_1216 rfl (lv_at hl 3 rfl) ?_
    refine lv_iload_n hx hb dL_law_1217 rfl (lv_at hl 0 rfl) ?_
    refine lv_iconst (v := 3) hx hb dL_law_1218 (by decide) ?_
    refine lv_iadd hx hb dL_law_1219 ?_
    refine xl_i (y := nI (i + 3)) (nI_add i 3) ?_
    refine va_sld hx hb hX hbl hbA hS (x_si (k := 3) (by decide) hi hL) dL_law_1220 ?_
    refine xl_i (y := xs (i + 3)) (congrArg xs (x_sc (k := 3) (by decide) hi hL)) ?_
    refine lv_i2l (v := (xs (i + 3)).toInt64) hx hb dL_law_1221 rfl ?_
    refine lv_bipush (v := 32) hx hb dL_law_1222 (by decide) ?_
    refine lv_lshl hx hb dL_law_1224 rfl ?_
    refine lv_topl (fun x_28 ex_28 => ?_)
    refine lv_aload_n hx hb dL_law_1225 rfl (lv_at hl 3 rfl) ?_
    refine lv_iload_n hx hb dL_law_1226 rfl (lv_at hl 0 rfl) ?_
    refine lv_iconst (v := 4) hx hb dL_law_1227 (by decide) ?_
    refine lv_iadd hx hb dL_law_1228 ?_
    refine xl_i (y := nI (i + 4)) (nI_add i 4) ?_
    refine va_sld hx hb hX hbl hbA hS (x_si (k := 4) (by decide) hi hL) dL_law_1229 ?_
    refine xl_i (y := xs (i + 4)) (congrArg xs (x_sc (k := 4) (by decide) hi hL)) ?_
    refine lv_i2l (v := (xs (i + 4)).toInt64) hx hb dL_law_1230 rfl ?_
    refine lv_ldc2 (v := 4294967295) hx hb hown (hu _ uw1261) dL_law_1231 ?_
    refine lv_land hx hb dL_law_1234 ?_
    refine lv_topl (fun x_29 ex_29 => ?_)
    refine lv_lor hx hb dL_law_1235 ?_
    refine lv_topl (fun x_30 ex_30 => ?_)
    refine xc_VlT (wr := [(g0, .inr (9, [.ref m_ys, .ref m_yk, .ref m_yo, .ref m_yt, .int b0, .ref m_yfa, .ref m_yfe, .int m_mL, .int m_mS, .int m_mM, .ref m_yro, .ref m_yhe, .ref m_ygr, .int m_mF, .int m_mC, .int m_mY, .ref m_yta, .int (nI (z)), .int (nI (m_mf)), .int (nI (m_mt)), .int m_mv, .int m_mw, .ref m_ywa, .ref m_ybi, .ref m_ysi, .ref m_ynu, .ref m_ymo])), (m_yt, .inl (cI, 7, .inl m_mq)), (m_ybi, .inl (cI, 4, .inl m_bi)), (m_ysi, .inl (cI, 4, .inl m_sq)), (m_ynu, .inl (cJ, 160, .inr (.inl m_nb)))]) hF (c_X8_write_1 l D cI cJ cZ cS ta sa sv H.size h0 qh qk qd b0 qa qm qs qp ql qt qz qf s0 s1 s2 s3 bt0 sz0 sn0 bt1 sz1 sn1 bt2 sz2 sn2 bt3 sz3 sn3 nu0 nu1 nu2 nu3 ff (xs (i + 2)) x_30 hsz0 hsz1 hsz2 hsz3) kv_L_161 ⟨rfl, rfl, Nat.le_of_ble_eq_true rfl, Nat.le_of_ble_eq_true rfl⟩ ⟨Nat.le_of_ble_eq_true rfl, Nat.le_of_ble_eq_true rfl⟩ hK hN hZ hP hD hS hA [0, 1, 2, 3, 4, 5, 6, 7, 8, 9, 10] [11, 12, 13, 14, 15] rfl rfl rfl rfl (by decide) 0 rfl rfl rfl rfl hl.1 rfl (Nat.le_of_ble_eq_true rfl) dL_law_1236 (fun r_31 u_r_31 H locs hw_r_31 hP hD hS => ?_)
    obtain ⟨nv_32, f2_33⟩ := u_r_31
    try dsimp only at hw_r_31
    obtain ⟨hw_r_31, i_34⟩ := hw_r_31
    have hP : va_P D vwCl ([(g0, .inr (9, [.ref m_ys, .ref m_yk, .ref m_yo, .ref m_yt, .int b0, .ref m_yfa, .ref m_yfe, .int m_mL, .int m_mS, .int m_mM, .ref m_yro, .ref m_yhe, .ref m_ygr, .int m_mF, .int m_mC, .int m_mY, .ref m_yta, .int (nI (z)), .int (nI (m_mf)), .int (nI (m_mt)), .int m_mv, .int m_mw, .ref m_ywa, .ref m_ybi, .ref m_ysi, .ref m_ynu, .ref m_ymo])), (m_yt, .inl (cI, 7, .inl m_mq)), (m_ybi, .inl (cI, 4, .inl m_bi)), (m_ysi, .inl (cI, 4, .inl m_sq)), (m_ynu, .inl (cJ, 160, .inr (.inl m_nb))), (h0, .inr (8, [.ref qh, .ref qk, .ref qd, .int b0, .ref qa, .ref qm, .ref qs, .ref qp, .ref ql, .ref qt, .ref qz, .ref qf])), (qz, .inl (cS, 4, .inr (.inr (.inr (.inr (xSh s0 s1 s2 s3)))))), (s0, .inr (4, [.int bt0, .int (nI (sz0)), .ref sn0])), (s1, .inr (4, [.int bt1, .int (nI (sz1)), .ref sn1])), (s2, .inr (4, [.int bt2, .int (nI (sz2)), .ref sn2])), (s3, .inr (4, [.int bt3, .int (nI (sz3)), .ref sn3])), (sn0, .inl (cJ, 40, .inr (.inl nu0))), (sn1, .inl (cJ, 40, .inr (.inl nv_32))), (sn2, .inl (cJ, 40, .inr (.inl nu2))), (sn3, .inl (cJ, 40, .inr (.inl nu3))), (qf, .inl (cI, 7, .inl f2_33))] ++ tl) H := hP
    have hD : va_D A ([(g0, .inr (9, [.ref m_ys, .ref m_yk, .ref m_yo, .ref m_yt, .int b0, .ref m_yfa, .ref m_yfe, .int m_mL, .int m_mS, .int m_mM, .ref m_yro, .ref m_yhe, .ref m_ygr, .int m_mF, .int m_mC, .int m_mY, .ref m_yta, .int (nI (z)), .int (nI (m_mf)), .int (nI (m_mt)), .int m_mv, .int m_mw, .ref m_ywa, .ref m_ybi, .ref m_ysi, .ref m_ynu, .ref m_ymo])), (m_yt, .inl (cI, 7, .inl m_mq)), (m_ybi, .inl (cI, 4, .inl m_bi)), (m_ysi, .inl (cI, 4, .inl m_sq)), (m_ynu, .inl (cJ, 160, .inr (.inl m_nb))), (h0, .inr (8, [.ref qh, .ref qk, .ref qd, .int b0, .ref qa, .ref qm, .ref qs, .ref qp, .ref ql, .ref qt, .ref qz, .ref qf])), (qz, .inl (cS, 4, .inr (.inr (.inr (.inr (xSh s0 s1 s2 s3)))))), (s0, .inr (4, [.int bt0, .int (nI (sz0)), .ref sn0])), (s1, .inr (4, [.int bt1, .int (nI (sz1)), .ref sn1])), (s2, .inr (4, [.int bt2, .int (nI (sz2)), .ref sn2])), (s3, .inr (4, [.int bt3, .int (nI (sz3)), .ref sn3])), (sn0, .inl (cJ, 40, .inr (.inl nu0))), (sn1, .inl (cJ, 40, .inr (.inl nv_32))), (sn2, .inl (cJ, 40, .inr (.inl nu2))), (sn3, .inl (cJ, 40, .inr (.inl nu3))), (qf, .inl (cI, 7, .inl f2_33))] ++ tl) := hD
    subst hw_r_31
    refine lv_aload_n hx hb dL_law_1239 rfl (lv_at hl 1 rfl) ?_
    refine lv_aload_n hx hb dL_law_1240 rfl (lv_at hl 3 rfl) ?_
    refine lv_iload_n hx hb dL_law_1241 rfl (lv_at hl 0 rfl) ?_
    refine lv_iconst (v := 1) hx hb dL_law_1242 (by decide) ?_
    refine lv_iadd hx hb dL_law_1243 ?_
    refine xl_i (y := nI (i + 1)) (nI_add i 1) ?_
    refine va_sld hx hb hX hbl hbA hS (x_si (k := 1) (by decide) hi hL) dL_law_1244 ?_
    refine xl_i (y := xs (i + 1)) (congrArg xs (x_sc (k := 1) (by decide) hi hL)) ?_
    refine xl_i (y := 1) eq1 ?_
    refine lv_aload_n hx hb dL_law_1245 rfl (lv_at hl 3 rfl) ?_
    refine lv_iload_n hx hb dL_law_1246 rfl (lv_at hl 0 rfl) ?_
    refine lv_iconst (v := 2) hx hb dL_law_1247 (by decide) ?_
    refine lv_iadd hx hb dL_law_1248 ?_
    refine xl_i (y := nI (i + 2)) (nI_add i 2) ?_
    refine va_sld hx hb hX hbl hbA hS (x_si (k := 2) (by decide) hi hL) dL_law_1249 ?_
    refine xl_i (y := xs (i + 2)) (congrArg xs (x_sc (k := 2) (by decide) hi hL)) ?_
    refine lv_aload_n hx hb dL_law_1250 rfl (lv_at hl 3 rfl) ?_
    refine lv_iload_n hx hb dL_law_1251 rfl (lv_at hl 0 rfl) ?_
    refine lv_iconst (v := 3) hx hb dL_law_1252 (by decide) ?_
    refine lv_iadd hx hb dL_law_1253 ?_
    refine xl_i (y := nI (i + 3)) (nI_add i 3) ?_
    refine va_sld hx hb hX hbl hbA hS (x_si (k := 3) (by decide) hi hL) dL_law_1254 ?_
    refine xl_i (y := xs (i + 3)) (congrArg xs (x_sc (k := 3) (by decide) hi hL)) ?_
    refine lv_i2l (v := (xs (i + 3)).toInt64) hx hb dL_law_1255 rfl ?_
    refine lv_bipush (v := 32) hx hb dL_law_1256 (by decide) ?_
    refine lv_lshl hx hb dL_law_1258 rfl ?_
    refine lv_topl (fun x_35 ex_35 => ?_)
    refine lv_aload_n hx hb dL_law_1259 rfl (lv_at hl 3 rfl) ?_
    refine lv_iload_n hx hb dL_law_1260 rfl (lv_at hl 0 rfl) ?_
    refine lv_iconst (v := 4) hx hb dL_law_1261 (by decide) ?_
    refine lv_iadd hx hb dL_law_1262 ?_
    refine xl_i (y := nI (i + 4)) (nI_add i 4) ?_
    refine va_sld hx hb hX hbl hbA hS (x_si (k := 4) (by decide) hi hL) dL_law_1263 ?_
    refine xl_i (y := xs (i + 4)) (congrArg xs (x_sc (k := 4) (by decide) hi hL)) ?_
    refine lv_i2l (v := (xs (i + 4)).toInt64) hx hb dL_law_1264 rfl ?_
    refine lv_ldc2 (v := 4294967295) hx hb hown (hu _ uw1261) dL_law_1265 ?_
    refine lv_land hx hb dL_law_1268 ?_
    refine lv_topl (fun x_36 ex_36 => ?_)
    refine lv_lor hx hb dL_law_1269 ?_
    refine lv_topl (fun x_37 ex_37 => ?_)
    refine xc_VlT (wr := [(h0, .inr (8, [.ref qh, .ref qk, .ref qd, .int b0, .ref qa, .ref qm, .ref qs, .ref qp, .ref ql, .ref qt, .ref qz, .ref qf])), (qz, .inl (cS, 4, .inr (.inr (.inr (.inr (xSh s0 s1 s2 s3)))))), (s0, .inr (4, [.int bt0, .int (nI (sz0)), .ref sn0])), (s1, .inr (4, [.int bt1, .int (nI (sz1)), .ref sn1])), (s2, .inr (4, [.int bt2, .int (nI (sz2)), .ref sn2])), (s3, .inr (4, [.int bt3, .int (nI (sz3)), .ref sn3])), (sn0, .inl (cJ, 40, .inr (.inl nu0))), (sn1, .inl (cJ, 40, .inr (.inl nv_32))), (sn2, .inl (cJ, 40, .inr (.inl nu2))), (sn3, .inl (cJ, 40, .inr (.inl nu3))), (qf, .inl (cI, 7, .inl f2_33))]) hF (c_X9_write_1 l D cI cJ cZ cS ta sa sv H.size g0 m_ys m_yk m_yo m_yt b0 m_yfa m_yfe m_mL m_mS m_mM m_yro m_yhe m_ygr m_mF m_mC m_mY m_yta z m_mf m_mt m_mv m_mw m_ywa m_ybi m_ysi m_ynu m_ymo m_bi m_sq m_nb m_mq (xs (i + 2)) x_37 sz1 r_z1 hsz1 m_hsq) kv_L_165 ⟨rfl, rfl, Nat.le_of_ble_eq_true rfl, Nat.le_of_ble_eq_true rfl⟩ ⟨Nat.le_of_ble_eq_true rfl, Nat.le_of_ble_eq_true rfl⟩ hK hN hZ hP hD hS hA [0, 2, 3, 4, 1] [5, 6, 7, 8, 9, 10, 11, 12, 13, 14, 15] rfl rfl rfl rfl (by decide) 0 rfl rfl rfl rfl hl.1 rfl (Nat.le_of_ble_eq_true rfl) dL_law_1270 (fun r_38 u_r_38 H locs hw_r_38 hP hD hS => ?_)
    obtain ⟨nb2_39, mq2_40⟩ := u_r_38
    try dsimp only at hw_r_38
    obtain ⟨hw_r_38, i_41, i_42⟩ := hw_r_38
    have hP : va_P D vwCl ([(h0, .inr (8, [.ref qh, .ref qk, .ref qd, .int b0, .ref qa, .ref qm, .ref qs, .ref qp, .ref ql, .ref qt, .ref qz, .ref qf])), (qz, .inl (cS, 4, .inr (.inr (.inr (.inr (xSh s0 s1 s2 s3)))))), (s0, .inr (4, [.int bt0, .int (nI (sz0)), .ref sn0])), (s1, .inr (4, [.int bt1, .int (nI (sz1)), .ref sn1])), (s2, .inr (4, [.int bt2, .int (nI (sz2)), .ref sn2])), (s3, .inr (4, [.int bt3, .int (nI (sz3)), .ref sn3])), (sn0, .inl (cJ, 40, .inr (.inl nu0))), (sn1, .inl (cJ, 40, .inr (.inl nv_32))), (sn2, .inl (cJ, 40, .inr (.inl nu2))), (sn3, .inl (cJ, 40, .inr (.inl nu3))), (qf, .inl (cI, 7, .inl f2_33)), (g0, .inr (9, [.ref m_ys, .ref m_yk, .ref m_yo, .ref m_yt, .int b0, .ref m_yfa, .ref m_yfe, .int m_mL, .int m_mS, .int m_mM, .ref m_yro, .ref m_yhe, .ref m_ygr, .int m_mF, .int m_mC, .int m_mY, .ref m_yta, .int (nI (z)), .int (nI (m_mf)), .int (nI (m_mt)), .int m_mv, .int m_mw, .ref m_ywa, .ref m_ybi, .ref m_ysi, .ref m_ynu, .ref m_ymo])), (m_ybi, .inl (cI, 4, .inl m_bi)), (m_ysi, .inl (cI, 4, .inl m_sq)), (m_ynu, .inl (cJ, 160, .inr (.inl nb2_39))), (m_yt, .inl (cI, 7, .inl mq2_40))] ++ tl) H := hP
    have hD : va_D A ([(h0, .inr (8, [.ref qh, .ref qk, .ref qd, .int b0, .ref qa, .ref qm, .ref qs, .ref qp, .ref ql, .ref qt, .ref qz, .ref qf])), (qz, .inl (cS, 4, .inr (.inr (.inr (.inr (xSh s0 s1 s2 s3)))))), (s0, .inr (4, [.int bt0, .int (nI (sz0)), .ref sn0])), (s1, .inr (4, [.int bt1, .int (nI (sz1)), .ref sn1])), (s2, .inr (4, [.int bt2, .int (nI (sz2)), .ref sn2])), (s3, .inr (4, [.int bt3, .int (nI (sz3)), .ref sn3])), (sn0, .inl (cJ, 40, .inr (.inl nu0))), (sn1, .inl (cJ, 40, .inr (.inl nv_32))), (sn2, .inl (cJ, 40, .inr (.inl nu2))), (sn3, .inl (cJ, 40, .inr (.inl nu3))), (qf, .inl (cI, 7, .inl f2_33)), (g0, .inr (9, [.ref m_ys, .ref m_yk, .ref m_yo, .ref m_yt, .int b0, .ref m_yfa, .ref m_yfe, .int m_mL, .int m_mS, .int m_mM, .ref m_yro, .ref m_yhe, .ref m_ygr, .int m_mF, .int m_mC, .int m_mY, .ref m_yta, .int (nI (z)), .int (nI (m_mf)), .int (nI (m_mt)), .int m_mv, .int m_mw, .ref m_ywa, .ref m_ybi, .ref m_ysi, .ref m_ynu, .ref m_ymo])), (m_ybi, .inl (cI, 4, .inl m_bi)), (m_ysi, .inl (cI, 4, .inl m_sq)), (m_ynu, .inl (cJ, 160, .inr (.inl nb2_39))), (m_yt, .inl (cI, 7, .inl mq2_40))] ++ tl) := hD
    subst hw_r_38
    refine W.lcmp hx hb dL_law_1273 ?_
    refine xl_i (y := 0) (xq_eq (sp_wreq (by omega) r_b1 r_n1)) ?_
    refine lv_if_eq (tgt := 1483) hx hb dL_law_1274 (by decide) (fun c_43 => ?_) (fun c_43 => absurd (by decide) c_43)
    exact kkx _ _ _ nu0 nv_32 nu2 nu3 f2_33 mq2_40 nb2_39 (xt_P hP [0, 1, 2, 3, 4, 5, 6, 7, 8, 9, 10, 11, 15, 12, 13, 14] rfl) (xt_D hD [0, 1, 2, 3, 4, 5, 6, 7, 8, 9, 10, 11, 15, 12, 13, 14] (by decide +kernel) rfl) (fun j hj => (i_42 (0 + j) (by omega)).trans (r_n0 j hj)) (fun j hj => by rw [i_41 j hj, r_n1 j hj, r_b1, i_34 j, show x_37 = x_30 by rw [ex_37, ex_30, ex_36, ex_29, ex_35, ex_28]]) (fun j hj => (i_42 (80 + j) (by omega)).trans (r_n2 j hj)) (fun j hj => (i_42 (120 + j) (by omega)).trans (r_n3 j hj)) hS hl
  · skip
    refine lv_aload_n hx hb dL_law_1205 rfl (lv_at hl 2 rfl) ?_
    refine lv_aload_n hx hb dL_law_1206 rfl (lv_at hl 3 rfl) ?_
    refine lv_iload_n hx hb dL_law_1207 rfl (lv_at hl 0 rfl) ?_
    refine lv_iconst (v := 1) hx hb dL_law_1208 (by decide) ?_
    refine lv_iadd hx hb dL_law_1209 ?_
    refine xl_i (y := nI (i + 1)) (nI_add i 1) ?_
    refine va_sld hx hb hX hbl hbA hS (x_si (k := 1) (by decide) hi hL) dL_law_1210 ?_
    refine xl_i (y := xs (i + 1)) (congrArg xs (x_sc (k := 1) (by decide) hi hL)) ?_
    refine xl_i (y := 2) eq1 ?_
    refine lv_aload_n hx hb dL_law_1211 rfl (lv_at hl 3 rfl) ?_
    refine lv_iload_n hx hb dL_law_1212 rfl (lv_at hl 0 rfl) ?_
    refine lv_iconst (v := 2) hx hb dL_law_1213 (by decide) ?_
    refine lv_iadd hx hb dL_law_1214 ?_
    refine xl_i (y := nI (i + 2)) (nI_add i 2) ?_
    refine va_sld hx hb hX hbl hbA hS (x_si (k := 2) (by decide) hi hL) dL_law_1215 ?_
    refine xl_i (y := xs (i + 2)) (congrArg xs (x_sc (k := 2) (by decide) hi hL)) ?_
    refine lv_aload_n hx hb dL_law_1216 rfl (lv_at hl 3 rfl) ?_
    refine lv_iload_n hx hb dL_law_1217 rfl (lv_at hl 0 rfl) ?_
    refine lv_iconst (v := 3) hx hb dL_law_1218 (by decide) ?_
    refine lv_iadd hx hb dL_law_1219 ?_
    refine xl_i (y := nI (i + 3)) (nI_add i 3) ?_
    refine va_sld hx hb hX hbl hbA hS (x_si (k := 3) (by decide) hi hL) dL_law_1220 ?_
    refine xl_i (y := xs (i + 3)) (congrArg xs (x_sc (k := 3) (by decide) hi hL)) ?_
    refine lv_i2l (v := (xs (i + 3)).toInt64) hx hb dL_law_1221 rfl ?_
    refine lv_bipush (v := 32) hx hb dL_law_1222 (by decide) ?_
    refine lv_lshl hx hb dL_law_1224 rfl ?_
    refine lv_topl (fun x_44 ex_44 => ?_)
    refine lv_aload_n hx hb dL_law_1225 rfl (lv_at hl 3 rfl) ?_
    refine lv_iload_n hx hb dL_law_1226 rfl (lv_at hl 0 rfl) ?_
    refine lv_iconst (v := 4) hx hb dL_law_1227 (by decide) ?_
    refine lv_iadd hx hb dL_law_1228 ?_
    refine xl_i (y := nI (i + 4)) (nI_add i 4) ?_
    refine va_sld hx hb hX hbl hbA hS (x_si (k := 4) (by decide) hi hL) dL_law_1229 ?_
    refine xl_i (y := xs (i + 4)) (congrArg xs (x_sc (k := 4) (by decide) hi hL)) ?_
    refine lv_i2l (v := (xs (i + 4)).toInt64) hx hb dL_law_1230 rfl ?_
    refine lv_ldc2 (v := 4294967295) hx hb hown (hu _ uw1261) dL_law_1231 ?_
    refine lv_land hx hb dL_law_1234 ?_
    refine lv_topl (fun x_45 ex_45 => ?_)
    refine lv_lor hx hb dL_law_1235 ?_
    refine lv_topl (fun x_46 ex_46 => ?_)
    refine xc_VlT (wr := [(g0, .inr (9, [.ref m_ys, .ref m_yk, .ref m_yo, .ref m_yt, .int b0, .ref m_yfa, .ref m_yfe, .int m_mL, .int m_mS, .int m_mM, .ref m_yro, .ref m_yhe, .ref m_ygr, .int m_mF, .int m_mC, .int m_mY, .ref m_yta, .int (nI (z)), .int (nI (m_mf)), .int (nI (m_mt)), .int m_mv, .int m_mw, .ref m_ywa, .ref m_ybi, .ref m_ysi, .ref m_ynu, .ref m_ymo])), (m_yt, .inl (cI, 7, .inl m_mq)), (m_ybi, .inl (cI, 4, .inl m_bi)), (m_ysi, .inl (cI, 4, .inl m_sq)), (m_ynu, .inl (cJ, 160, .inr (.inl m_nb)))]) hF (c_X8_write_2 l D cI cJ cZ cS ta sa sv H.size h0 qh qk qd b0 qa qm qs qp ql qt qz qf s0 s1 s2 s3 bt0 sz0 sn0 bt1 sz1 sn1 bt2 sz2 sn2 bt3 sz3 sn3 nu0 nu1 nu2 nu3 ff (xs (i + 2)) x_46 hsz0 hsz1 hsz2 hsz3) kv_L_161 ⟨rfl, rfl, Nat.le_of_ble_eq_true rfl, Nat.le_of_ble_eq_true rfl⟩ ⟨Nat.le_of_ble_eq_true rfl, Nat.le_of_ble_eq_true rfl⟩ hK hN hZ hP hD hS hA [0, 1, 2, 3, 4, 5, 6, 7, 8, 9, 10] [11, 12, 13, 14, 15] rfl rfl rfl rfl (by decide) 0 rfl rfl rfl rfl hl.1 rfl (Nat.le_of_ble_eq_true rfl) dL_law_1236 (fun r_47 u_r_47 H locs hw_r_47 hP hD hS => ?_)
    obtain ⟨nv_48, f2_49⟩ := u_r_47
    try dsimp only at hw_r_47
    obtain ⟨hw_r_47, i_50⟩ := hw_r_47
    have hP : va_P D vwCl ([(g0, .inr (9, [.ref m_ys, .ref m_yk, .ref m_yo, .ref m_yt, .int b0, .ref m_yfa, .ref m_yfe, .int m_mL, .int m_mS, .int m_mM, .ref m_yro, .ref m_yhe, .ref m_ygr, .int m_mF, .int m_mC, .int m_mY, .ref m_yta, .int (nI (z)), .int (nI (m_mf)), .int (nI (m_mt)), .int m_mv, .int m_mw, .ref m_ywa, .ref m_ybi, .ref m_ysi, .ref m_ynu, .ref m_ymo])), (m_yt, .inl (cI, 7, .inl m_mq)), (m_ybi, .inl (cI, 4, .inl m_bi)), (m_ysi, .inl (cI, 4, .inl m_sq)), (m_ynu, .inl (cJ, 160, .inr (.inl m_nb))), (h0, .inr (8, [.ref qh, .ref qk, .ref qd, .int b0, .ref qa, .ref qm, .ref qs, .ref qp, .ref ql, .ref qt, .ref qz, .ref qf])), (qz, .inl (cS, 4, .inr (.inr (.inr (.inr (xSh s0 s1 s2 s3)))))), (s0, .inr (4, [.int bt0, .int (nI (sz0)), .ref sn0])), (s1, .inr (4, [.int bt1, .int (nI (sz1)), .ref sn1])), (s2, .inr (4, [.int bt2, .int (nI (sz2)), .ref sn2])), (s3, .inr (4, [.int bt3, .int (nI (sz3)), .ref sn3])), (sn0, .inl (cJ, 40, .inr (.inl nu0))), (sn1, .inl (cJ, 40, .inr (.inl nu1))), (sn2, .inl (cJ, 40, .inr (.inl nv_48))), (sn3, .inl (cJ, 40, .inr (.inl nu3))), (qf, .inl (cI, 7, .inl f2_49))] ++ tl) H := hP
    have hD : va_D A ([(g0, .inr (9, [.ref m_ys, .ref m_yk, .ref m_yo, .ref m_yt, .int b0, .ref m_yfa, .ref m_yfe, .int m_mL, .int m_mS, .int m_mM, .ref m_yro, .ref m_yhe, .ref m_ygr, .int m_mF, .int m_mC, .int m_mY, .ref m_yta, .int (nI (z)), .int (nI (m_mf)), .int (nI (m_mt)), .int m_mv, .int m_mw, .ref m_ywa, .ref m_ybi, .ref m_ysi, .ref m_ynu, .ref m_ymo])), (m_yt, .inl (cI, 7, .inl m_mq)), (m_ybi, .inl (cI, 4, .inl m_bi)), (m_ysi, .inl (cI, 4, .inl m_sq)), (m_ynu, .inl (cJ, 160, .inr (.inl m_nb))), (h0, .inr (8, [.ref qh, .ref qk, .ref qd, .int b0, .ref qa, .ref qm, .ref qs, .ref qp, .ref ql, .ref qt, .ref qz, .ref qf])), (qz, .inl (cS, 4, .inr (.inr (.inr (.inr (xSh s0 s1 s2 s3)))))), (s0, .inr (4, [.int bt0, .int (nI (sz0)), .ref sn0])), (s1, .inr (4, [.int bt1, .int (nI (sz1)), .ref sn1])), (s2, .inr (4, [.int bt2, .int (nI (sz2)), .ref sn2])), (s3, .inr (4, [.int bt3, .int (nI (sz3)), .ref sn3])), (sn0, .inl (cJ, 40, .inr (.inl nu0))), (sn1, .inl (cJ, 40, .inr (.inl nu1))), (sn2, .inl (cJ, 40, .inr (.inl nv_48))), (sn3, .inl (cJ, 40, .inr (.inl nu3))), (qf, .inl (cI, 7, .inl f2_49))] ++ tl) := hD
    subst hw_r_47
    refine lv_aload_n hx hb dL_law_1239 rfl (lv_at hl 1 rfl) ?_
    refine lv_aload_n hx hb dL_law_1240 rfl (lv_at hl 3 rfl) ?_
    refine lv_iload_n hx hb dL_law_1241 rfl (lv_at hl 0 rfl) ?_
    refine lv_iconst (v := 1) hx hb dL_law_1242 (by decide) ?_
    refine lv_iadd hx hb dL_law_1243 ?_
    refine xl_i (y := nI (i + 1)) (nI_add i 1) ?_
    refine va_sld hx hb hX hbl hbA hS (x_si (k := 1) (by decide) hi hL) dL_law_1244 ?_
    refine xl_i (y := xs (i + 1)) (congrArg xs (x_sc (k := 1) (by decide) hi hL)) ?_
    refine xl_i (y := 2) eq1 ?_
    refine lv_aload_n hx hb dL_law_1245 rfl (lv_at hl 3 rfl) ?_
    refine lv_iload_n hx hb dL_law_1246 rfl (lv_at hl 0 rfl) ?_
    refine lv_iconst (v := 2) hx hb dL_law_1247 (by decide) ?_
    refine lv_iadd hx hb dL_law_1248 ?_
    refine xl_i (y := nI (i + 2)) (nI_add i 2) ?_
    refine va_sld hx hb hX hbl hbA hS (x_si (k := 2) (by decide) hi hL) dL_law_1249 ?_
    refine xl_i (y := xs (i + 2)) (congrArg xs (x_sc (k := 2) (by decide) hi hL)) ?_
    refine lv_aload_n hx hb dL_law_1250 rfl (lv_at hl 3 rfl) ?_
    refine lv_iload_n hx hb dL_law_1251 rfl (lv_at hl 0 rfl) ?_
    refine lv_iconst (v := 3) hx hb dL_law_1252 (by decide) ?_
    refine lv_iadd hx hb dL_law_1253 ?_
    refine xl_i (y := nI (i + 3)) (nI_add i 3) ?_
    refine va_sld hx hb hX hbl hbA hS (x_si (k := 3) (by decide) hi hL) dL_law_1254 ?_
    refine xl_i (y := xs (i + 3)) (congrArg xs (x_sc (k := 3) (by decide) hi hL)) ?_
    refine lv_i2l (v := (xs (i + 3)).toInt64) hx hb dL_law_1255 rfl ?_
    refine lv_bipush (v := 32) hx hb dL_law_1256 (by decide) ?_
    refine lv_lshl hx hb dL_law_1258 rfl ?_
    refine lv_topl (fun x_51 ex_51 => ?_)
    refine lv_aload_n hx hb dL_law_1259 rfl (lv_at hl 3 rfl) ?_
    refine lv_iload_n hx hb dL_law_1260 rfl (lv_at hl 0 rfl) ?_
    refine lv_iconst (v := 4) hx hb dL_law_1261 (by decide) ?_
    refine lv_iadd hx hb dL_law_1262 ?_
    refine xl_i (y := nI (i + 4)) (nI_add i 4) ?_
    refine va_sld hx hb hX hbl hbA hS (x_si (k := 4) (by decide) hi hL) dL_law_1263 ?_
    refine xl_i (y := xs (i + 4)) (congrArg xs (x_sc (k := 4) (by decide) hi hL)) ?_
    refine lv_i2l (v := (xs (i + 4)).toInt64) hx hb dL_law_1264 rfl ?_
    refine lv_ldc2 (v := 4294967295) hx hb hown (hu _ uw1261) dL_law_1265 ?_
    refine lv_land hx hb dL_law_1268 ?_
    refine lv_topl (fun x_52 ex_52 => ?_)
    refine lv_lor hx hb dL_law_1269 ?_
    refine lv_topl (fun x_53 ex_53 => ?_)
    refine xc_VlT (wr := [(h0, .inr (8, [.ref qh, .ref qk, .ref qd, .int b0, .ref qa, .ref qm, .ref qs, .ref qp, .ref ql, .ref qt, .ref qz, .ref qf])), (qz, .inl (cS, 4, .inr (.inr (.inr (.inr (xSh s0 s1 s2 s3)))))), (s0, .inr (4, [.int bt0, .int (nI (sz0)), .ref sn0])), (s1, .inr (4, [.int bt1, .int (nI (sz1)), .ref sn1])), (s2, .inr (4, [.int bt2, .int (nI (sz2)), .ref sn2])), (s3, .inr (4, [.int bt3, .int (nI (sz3)), .ref sn3])), (sn0, .inl (cJ, 40, .inr (.inl nu0))), (sn1, .inl (cJ, 40, .inr (.inl nu1))), (sn2, .inl (cJ, 40, .inr (.inl nv_48))), (sn3, .inl (cJ, 40, .inr (.inl nu3))), (qf, .inl (cI, 7, .inl f2_49))]) hF (c_X9_write_2 l D cI cJ cZ cS ta sa sv H.size g0 m_ys m_yk m_yo m_yt b0 m_yfa m_yfe m_mL m_mS m_mM m_yro m_yhe m_ygr m_mF m_mC m_mY m_yta z m_mf m_mt m_mv m_mw m_ywa m_ybi m_ysi m_ynu m_ymo m_bi m_sq m_nb m_mq (xs (i + 2)) x_53 sz2 r_z2 hsz2 m_hsq) kv_L_165 ⟨rfl, rfl, Nat.le_of_ble_eq_true rfl, Nat.le_of_ble_eq_true rfl⟩ ⟨Nat.le_of_ble_eq_true rfl, Nat.le_of_ble_eq_true rfl⟩ hK hN hZ hP hD hS hA [0, 2, 3, 4, 1] [5, 6, 7, 8, 9, 10, 11, 12, 13, 14, 15] rfl rfl rfl rfl (by decide) 0 rfl rfl rfl rfl hl.1 rfl (Nat.le_of_ble_eq_true rfl) dL_law_1270 (fun r_54 u_r_54 H locs hw_r_54 hP hD hS => ?_)
    obtain ⟨nb2_55, mq2_56⟩ := u_r_54
    try dsimp only at hw_r_54
    obtain ⟨hw_r_54, i_57, i_58⟩ := hw_r_54
    have hP : va_P D vwCl ([(h0, .inr (8, [.ref qh, .ref qk, .ref qd, .int b0, .ref qa, .ref qm, .ref qs, .ref qp, .ref ql, .ref qt, .ref qz, .ref qf])), (qz, .inl (cS, 4, .inr (.inr (.inr (.inr (xSh s0 s1 s2 s3)))))), (s0, .inr (4, [.int bt0, .int (nI (sz0)), .ref sn0])), (s1, .inr (4, [.int bt1, .int (nI (sz1)), .ref sn1])), (s2, .inr (4, [.int bt2, .int (nI (sz2)), .ref sn2])), (s3, .inr (4, [.int bt3, .int (nI (sz3)), .ref sn3])), (sn0, .inl (cJ, 40, .inr (.inl nu0))), (sn1, .inl (cJ, 40, .inr (.inl nu1))), (sn2, .inl (cJ, 40, .inr (.inl nv_48))), (sn3, .inl (cJ, 40, .inr (.inl nu3))), (qf, .inl (cI, 7, .inl f2_49)), (g0, .inr (9, [.ref m_ys, .ref m_yk, .ref m_yo, .ref m_yt, .int b0, .ref m_yfa, .ref m_yfe, .int m_mL, .int m_mS, .int m_mM, .ref m_yro, .ref m_yhe, .ref m_ygr, .int m_mF, .int m_mC, .int m_mY, .ref m_yta, .int (nI (z)), .int (nI (m_mf)), .int (nI (m_mt)), .int m_mv, .int m_mw, .ref m_ywa, .ref m_ybi, .ref m_ysi, .ref m_ynu, .ref m_ymo])), (m_ybi, .inl (cI, 4, .inl m_bi)), (m_ysi, .inl (cI, 4, .inl m_sq)), (m_ynu, .inl (cJ, 160, .inr (.inl nb2_55))), (m_yt, .inl (cI, 7, .inl mq2_56))] ++ tl) H := hP
    have hD : va_D A ([(h0, .inr (8, [.ref qh, .ref qk, .ref qd, .int b0, .ref qa, .ref qm, .ref qs, .ref qp, .ref ql, .ref qt, .ref qz, .ref qf])), (qz, .inl (cS, 4, .inr (.inr (.inr (.inr (xSh s0 s1 s2 s3)))))), (s0, .inr (4, [.int bt0, .int (nI (sz0)), .ref sn0])), (s1, .inr (4, [.int bt1, .int (nI (sz1)), .ref sn1])), (s2, .inr (4, [.int bt2, .int (nI (sz2)), .ref sn2])), (s3, .inr (4, [.int bt3, .int (nI (sz3)), .ref sn3])), (sn0, .inl (cJ, 40, .inr (.inl nu0))), (sn1, .inl (cJ, 40, .inr (.inl nu1))), (sn2, .inl (cJ, 40, .inr (.inl nv_48))), (sn3, .inl (cJ, 40, .inr (.inl nu3))), (qf, .inl (cI, 7, .inl f2_49)), (g0, .inr (9, [.ref m_ys, .ref m_yk, .ref m_yo, .ref m_yt, .int b0, .ref m_yfa, .ref m_yfe, .int m_mL, .int m_mS, .int m_mM, .ref m_yro, .ref m_yhe, .ref m_ygr, .int m_mF, .int m_mC, .int m_mY, .ref m_yta, .int (nI (z)), .int (nI (m_mf)), .int (nI (m_mt)), .int m_mv, .int m_mw, .ref m_ywa, .ref m_ybi, .ref m_ysi, .ref m_ynu, .ref m_ymo])), (m_ybi, .inl (cI, 4, .inl m_bi)), (m_ysi, .inl (cI, 4, .inl m_sq)), (m_ynu, .inl (cJ, 160, .inr (.inl nb2_55))), (m_yt, .inl (cI, 7, .inl mq2_56))] ++ tl) := hD
    subst hw_r_54
    refine W.lcmp hx hb dL_law_1273 ?_
    refine xl_i (y := 0) (xq_eq (sp_wreq (by omega) r_b2 r_n2)) ?_
    refine lv_if_eq (tgt := 1483) hx hb dL_law_1274 (by decide) (fun c_59 => ?_) (fun c_59 => absurd (by decide) c_59)
    exact kkx _ _ _ nu0 nu1 nv_48 nu3 f2_49 mq2_56 nb2_55 (xt_P hP [0, 1, 2, 3, 4, 5, 6, 7, 8, 9, 10, 11, 15, 12, 13, 14] rfl) (xt_D hD [0, 1, 2, 3, 4, 5, 6, 7, 8, 9, 10, 11, 15, 12, 13, 14] (by decide +kernel) rfl) (fun j hj => (i_58 (0 + j) (by omega)).trans (r_n0 j hj)) (fun j hj => (i_58 (40 + j) (by omega)).trans (r_n1 j hj)) (fun j hj => by rw [i_57 j hj, r_n2 j hj, r_b2, i_50 j, show x_53 = x_46 by rw [ex_53, ex_46, ex_52, ex_45, ex_51, ex_44]]) (fun j hj => (i_58 (120 + j) (by omega)).trans (r_n3 j hj)) hS hl
  · skip
    refine lv_aload_n hx hb dL_law_1205 rfl (lv_at hl 2 rfl) ?_
    refine lv_aload_n hx hb dL_law_1206 rfl (lv_at hl 3 rfl) ?_
    refine lv_iload_n hx hb dL_law_1207 rfl (lv_at hl 0 rfl) ?_
    refine lv_iconst (v := 1) hx hb dL_law_1208 (by decide) ?_
    refine lv_iadd hx hb dL_law_1209 ?_
    refine xl_i (y := nI (i + 1)) (nI_add i 1) ?_
    refine va_sld hx hb hX hbl hbA hS (x_si (k := 1) (by decide) hi hL) dL_law_1210 ?_
    refine xl_i (y := xs (i + 1)) (congrArg xs (x_sc (k := 1) (by decide) hi hL)) ?_
    refine xl_i (y := 3) eq1 ?_
    refine lv_aload_n hx hb dL_law_1211 rfl (lv_at hl 3 rfl) ?_
    refine lv_iload_n hx hb dL_law_1212 rfl (lv_at hl 0 rfl) ?_
    refine lv_iconst (v := 2) hx hb dL_law_1213 (by decide) ?_
    refine lv_iadd hx hb dL_law_1214 ?_
    refine xl_i (y := nI (i + 2)) (nI_add i 2) ?_
    refine va_sld hx hb hX hbl hbA hS (x_si (k := 2) (by decide) hi hL) dL_law_1215 ?_
    refine xl_i (y := xs (i + 2)) (congrArg xs (x_sc (k := 2) (by decide) hi hL)) ?_
    refine lv_aload_n hx hb dL_law_1216 rfl (lv_at hl 3 rfl) ?_
    refine lv_iload_n hx hb dL_law_1217 rfl (lv_at hl 0 rfl) ?_
    refine lv_iconst (v := 3) hx hb dL_law_1218 (by decide) ?_
    refine lv_iadd hx hb dL_law_1219 ?_
    refine xl_i (y := nI (i + 3)) (nI_add i 3) ?_
    refine va_sld hx hb hX hbl hbA hS (x_si (k := 3) (by decide) hi hL) dL_law_1220 ?_
    refine xl_i (y := xs (i + 3)) (congrArg xs (x_sc (k := 3) (by decide) hi hL)) ?_
    refine lv_i2l (v := (xs (i + 3)).toInt64) hx hb dL_law_1221 rfl ?_
    refine lv_bipush (v := 32) hx hb dL_law_1222 (by decide) ?_
    refine lv_lshl hx hb dL_law_1224 rfl ?_
    refine lv_topl (fun x_60 ex_60 => ?_)
    refine lv_aload_n hx hb dL_law_1225 rfl (lv_at hl 3 rfl) ?_
    refine lv_iload_n hx hb dL_law_1226 rfl (lv_at hl 0 rfl) ?_
    refine lv_iconst (v := 4) hx hb dL_law_1227 (by decide) ?_
    refine lv_iadd hx hb dL_law_1228 ?_
    refine xl_i (y := nI (i + 4)) (nI_add i 4) ?_
    refine va_sld hx hb hX hbl hbA hS (x_si (k := 4) (by decide) hi hL) dL_law_1229 ?_
    refine xl_i (y := xs (i + 4)) (congrArg xs (x_sc (k := 4) (by decide) hi hL)) ?_
    refine lv_i2l (v := (xs (i + 4)).toInt64) hx hb dL_law_1230 rfl ?_
    refine lv_ldc2 (v := 4294967295) hx hb hown (hu _ uw1261) dL_law_1231 ?_
    refine lv_land hx hb dL_law_1234 ?_
    refine lv_topl (fun x_61 ex_61 => ?_)
    refine lv_lor hx hb dL_law_1235 ?_
    refine lv_topl (fun x_62 ex_62 => ?_)
    refine xc_VlT (wr := [(g0, .inr (9, [.ref m_ys, .ref m_yk, .ref m_yo, .ref m_yt, .int b0, .ref m_yfa, .ref m_yfe, .int m_mL, .int m_mS, .int m_mM, .ref m_yro, .ref m_yhe, .ref m_ygr, .int m_mF, .int m_mC, .int m_mY, .ref m_yta, .int (nI (z)), .int (nI (m_mf)), .int (nI (m_mt)), .int m_mv, .int m_mw, .ref m_ywa, .ref m_ybi, .ref m_ysi, .ref m_ynu, .ref m_ymo])), (m_yt, .inl (cI, 7, .inl m_mq)), (m_ybi, .inl (cI, 4, .inl m_bi)), (m_ysi, .inl (cI, 4, .inl m_sq)), (m_ynu, .inl (cJ, 160, .inr (.inl m_nb)))]) hF (c_X8_write_3 l D cI cJ cZ cS ta sa sv H.size h0 qh qk qd b0 qa qm qs qp ql qt qz qf s0 s1 s2 s3 bt0 sz0 sn0 bt1 sz1 sn1 bt2 sz2 sn2 bt3 sz3 sn3 nu0 nu1 nu2 nu3 ff (xs (i + 2)) x_62 hsz0 hsz1 hsz2 hsz3) kv_L_161 ⟨rfl, rfl, Nat.le_of_ble_eq_true rfl, Nat.le_of_ble_eq_true rfl⟩ ⟨Nat.le_of_ble_eq_true rfl, Nat.le_of_ble_eq_true rfl⟩ hK hN hZ hP hD hS hA [0, 1, 2, 3, 4, 5, 6, 7, 8, 9, 10] [11, 12, 13, 14, 15] rfl rfl rfl rfl (by decide) 0 rfl rfl rfl rfl hl.1 rfl (Nat.le_of_ble_eq_true rfl) dL_law_1236 (fun r_63 u_r_63 H locs hw_r_63 hP hD hS => ?_)
    obtain ⟨nv_64, f2_65⟩ := u_r_63
    try dsimp only at hw_r_63
    obtain ⟨hw_r_63, i_66⟩ := hw_r_63
    have hP : va_P D vwCl ([(g0, .inr (9, [.ref m_ys, .ref m_yk, .ref m_yo, .ref m_yt, .int b0, .ref m_yfa, .ref m_yfe, .int m_mL, .int m_mS, .int m_mM, .ref m_yro, .ref m_yhe, .ref m_ygr, .int m_mF, .int m_mC, .int m_mY, .ref m_yta, .int (nI (z)), .int (nI (m_mf)), .int (nI (m_mt)), .int m_mv, .int m_mw, .ref m_ywa, .ref m_ybi, .ref m_ysi, .ref m_ynu, .ref m_ymo])), (m_yt, .inl (cI, 7, .inl m_mq)), (m_ybi, .inl (cI, 4, .inl m_bi)), (m_ysi, .inl (cI, 4, .inl m_sq)), (m_ynu, .inl (cJ, 160, .inr (.inl m_nb))), (h0, .inr (8, [.ref qh, .ref qk, .ref qd, .int b0, .ref qa, .ref qm, .ref qs, .ref qp, .ref ql, .ref qt, .ref qz, .ref qf])), (qz, .inl (cS, 4, .inr (.inr (.inr (.inr (xSh s0 s1 s2 s3)))))), (s0, .inr (4, [.int bt0, .int (nI (sz0)), .ref sn0])), (s1, .inr (4, [.int bt1, .int (nI (sz1)), .ref sn1])), (s2, .inr (4, [.int bt2, .int (nI (sz2)), .ref sn2])), (s3, .inr (4, [.int bt3, .int (nI (sz3)), .ref sn3])), (sn0, .inl (cJ, 40, .inr (.inl nu0))), (sn1, .inl (cJ, 40, .inr (.inl nu1))), (sn2, .inl (cJ, 40, .inr (.inl nu2))), (sn3, .inl (cJ, 40, .inr (.inl nv_64))), (qf, .inl (cI, 7, .inl f2_65))] ++ tl) H := hP
    have hD : va_D A ([(g0, .inr (9, [.ref m_ys, .ref m_yk, .ref m_yo, .ref m_yt, .int b0, .ref m_yfa, .ref m_yfe, .int m_mL, .int m_mS, .int m_mM, .ref m_yro, .ref m_yhe, .ref m_ygr, .int m_mF, .int m_mC, .int m_mY, .ref m_yta, .int (nI (z)), .int (nI (m_mf)), .int (nI (m_mt)), .int m_mv, .int m_mw, .ref m_ywa, .ref m_ybi, .ref m_ysi, .ref m_ynu, .ref m_ymo])), (m_yt, .inl (cI, 7, .inl m_mq)), (m_ybi, .inl (cI, 4, .inl m_bi)), (m_ysi, .inl (cI, 4, .inl m_sq)), (m_ynu, .inl (cJ, 160, .inr (.inl m_nb))), (h0, .inr (8, [.ref qh, .ref qk, .ref qd, .int b0, .ref qa, .ref qm, .ref qs, .ref qp, .ref ql, .ref qt, .ref qz, .ref qf])), (qz, .inl (cS, 4, .inr (.inr (.inr (.inr (xSh s0 s1 s2 s3)))))), (s0, .inr (4, [.int bt0, .int (nI (sz0)), .ref sn0])), (s1, .inr (4, [.int bt1, .int (nI (sz1)), .ref sn1])), (s2, .inr (4, [.int bt2, .int (nI (sz2)), .ref sn2])), (s3, .inr (4, [.int bt3, .int (nI (sz3)), .ref sn3])), (sn0, .inl (cJ, 40, .inr (.inl nu0))), (sn1, .inl (cJ, 40, .inr (.inl nu1))), (sn2, .inl (cJ, 40, .inr (.inl nu2))), (sn3, .inl (cJ, 40, .inr (.inl nv_64))), (qf, .inl (cI, 7, .inl f2_65))] ++ tl) := hD
    subst hw_r_63
    refine lv_aload_n hx hb dL_law_1239 rfl (lv_at hl 1 rfl) ?_
    refine lv_aload_n hx hb dL_law_1240 rfl (lv_at hl 3 rfl) ?_
    refine lv_iload_n hx hb dL_law_1241 rfl (lv_at hl 0 rfl) ?_
    refine lv_iconst (v := 1) hx hb dL_law_1242 (by decide) ?_
    refine lv_iadd hx hb dL_law_1243 ?_
    refine xl_i (y := nI (i + 1)) (nI_add i 1) ?_
    refine va_sld hx hb hX hbl hbA hS (x_si (k := 1) (by decide) hi hL) dL_law_1244 ?_
    refine xl_i (y := xs (i + 1)) (congrArg xs (x_sc (k := 1) (by decide) hi hL)) ?_
    refine xl_i (y := 3) eq1 ?_
    refine lv_aload_n hx hb dL_law_1245 rfl (lv_at hl 3 rfl) ?_
    refine lv_iload_n hx hb dL_law_1246 rfl (lv_at hl 0 rfl) ?_
    refine lv_iconst (v := 2) hx hb dL_law_1247 (by decide) ?_
    refine lv_iadd hx hb dL_law_1248 ?_
    refine xl_i (y := nI (i + 2)) (nI_add i 2) ?_
    refine va_sld hx hb hX hbl hbA hS (x_si (k := 2) (by decide) hi hL) dL_law_1249 ?_
    refine xl_i (y := xs (i + 2)) (congrArg xs (x_sc (k := 2) (by decide) hi hL)) ?_
    refine lv_aload_n hx hb dL_law_1250 rfl (lv_at hl 3 rfl) ?_
    refine lv_iload_n hx hb dL_law_1251 rfl (lv_at hl 0 rfl) ?_
    refine lv_iconst (v := 3) hx hb dL_law_1252 (by decide) ?_
    refine lv_iadd hx hb dL_law_1253 ?_
    refine xl_i (y := nI (i + 3)) (nI_add i 3) ?_
    refine va_sld hx hb hX hbl hbA hS (x_si (k := 3) (by decide) hi hL) dL_law_1254 ?_
    refine xl_i (y := xs (i + 3)) (congrArg xs (x_sc (k := 3) (by decide) hi hL)) ?_
    refine lv_i2l (v := (xs (i + 3)).toInt64) hx hb dL_law_1255 rfl ?_
    refine lv_bipush (v := 32) hx hb dL_law_1256 (by decide) ?_
    refine lv_lshl hx hb dL_law_1258 rfl ?_
    refine lv_topl (fun x_67 ex_67 => ?_)
    refine lv_aload_n hx hb dL_law_1259 rfl (lv_at hl 3 rfl) ?_
    refine lv_iload_n hx hb dL_law_1260 rfl (lv_at hl 0 rfl) ?_
    refine lv_iconst (v := 4) hx hb dL_law_1261 (by decide) ?_
    refine lv_iadd hx hb dL_law_1262 ?_
    refine xl_i (y := nI (i + 4)) (nI_add i 4) ?_
    refine va_sld hx hb hX hbl hbA hS (x_si (k := 4) (by decide) hi hL) dL_law_1263 ?_
    refine xl_i (y := xs (i + 4)) (congrArg xs (x_sc (k := 4) (by decide) hi hL)) ?_
    refine lv_i2l (v := (xs (i + 4)).toInt64) hx hb dL_law_1264 rfl ?_
    refine lv_ldc2 (v := 4294967295) hx hb hown (hu _ uw1261) dL_law_1265 ?_
    refine lv_land hx hb dL_law_1268 ?_
    refine lv_topl (fun x_68 ex_68 => ?_)
    refine lv_lor hx hb dL_law_1269 ?_
    refine lv_topl (fun x_69 ex_69 => ?_)
    refine xc_VlT (wr := [(h0, .inr (8, [.ref qh, .ref qk, .ref qd, .int b0, .ref qa, .ref qm, .ref qs, .ref qp, .ref ql, .ref qt, .ref qz, .ref qf])), (qz, .inl (cS, 4, .inr (.inr (.inr (.inr (xSh s0 s1 s2 s3)))))), (s0, .inr (4, [.int bt0, .int (nI (sz0)), .ref sn0])), (s1, .inr (4, [.int bt1, .int (nI (sz1)), .ref sn1])), (s2, .inr (4, [.int bt2, .int (nI (sz2)), .ref sn2])), (s3, .inr (4, [.int bt3, .int (nI (sz3)), .ref sn3])), (sn0, .inl (cJ, 40, .inr (.inl nu0))), (sn1, .inl (cJ, 40, .inr (.inl nu1))), (sn2, .inl (cJ, 40, .inr (.inl nu2))), (sn3, .inl (cJ, 40, .inr (.inl nv_64))), (qf, .inl (cI, 7, .inl f2_65))]) hF (c_X9_write_3 l D cI cJ cZ cS ta sa sv H.size g0 m_ys m_yk m_yo m_yt b0 m_yfa m_yfe m_mL m_mS m_mM m_yro m_yhe m_ygr m_mF m_mC m_mY m_yta z m_mf m_mt m_mv m_mw m_ywa m_ybi m_ysi m_ynu m_ymo m_bi m_sq m_nb m_mq (xs (i + 2)) x_69 sz3 r_z3 hsz3 m_hsq) kv_L_165 ⟨rfl, rfl, Nat.le_of_ble_eq_true rfl, Nat.le_of_ble_eq_true rfl⟩ ⟨Nat.le_of_ble_eq_true rfl, Nat.le_of_ble_eq_true rfl⟩ hK hN hZ hP hD hS hA [0, 2, 3, 4, 1] [5, 6, 7, 8, 9, 10, 11, 12, 13, 14, 15] rfl rfl rfl rfl (by decide) 0 rfl rfl rfl rfl hl.1 rfl (Nat.le_of_ble_eq_true rfl) dL_law_1270 (fun r_70 u_r_70 H locs hw_r_70 hP hD hS => ?_)
    obtain ⟨nb2_71, mq2_72⟩ := u_r_70
    try dsimp only at hw_r_70
    obtain ⟨hw_r_70, i_73, i_74⟩ := hw_r_70
    have hP : va_P D vwCl ([(h0, .inr (8, [.ref qh, .ref qk, .ref qd, .int b0, .ref qa, .ref qm, .ref qs, .ref qp, .ref ql, .ref qt, .ref qz, .ref qf])), (qz, .inl (cS, 4, .inr (.inr (.inr (.inr (xSh s0 s1 s2 s3)))))), (s0, .inr (4, [.int bt0, .int (nI (sz0)), .ref sn0])), (s1, .inr (4, [.int bt1, .int (nI (sz1)), .ref sn1])), (s2, .inr (4, [.int bt2, .int (nI (sz2)), .ref sn2])), (s3, .inr (4, [.int bt3, .int (nI (sz3)), .ref sn3])), (sn0, .inl (cJ, 40, .inr (.inl nu0))), (sn1, .inl (cJ, 40, .inr (.inl nu1))), (sn2, .inl (cJ, 40, .inr (.inl nu2))), (sn3, .inl (cJ, 40, .inr (.inl nv_64))), (qf, .inl (cI, 7, .inl f2_65)), (g0, .inr (9, [.ref m_ys, .ref m_yk, .ref m_yo, .ref m_yt, .int b0, .ref m_yfa, .ref m_yfe, .int m_mL, .int m_mS, .int m_mM, .ref m_yro, .ref m_yhe, .ref m_ygr, .int m_mF, .int m_mC, .int m_mY, .ref m_yta, .int (nI (z)), .int (nI (m_mf)), .int (nI (m_mt)), .int m_mv, .int m_mw, .ref m_ywa, .ref m_ybi, .ref m_ysi, .ref m_ynu, .ref m_ymo])), (m_ybi, .inl (cI, 4, .inl m_bi)), (m_ysi, .inl (cI, 4, .inl m_sq)), (m_ynu, .inl (cJ, 160, .inr (.inl nb2_71))), (m_yt, .inl (cI, 7, .inl mq2_72))] ++ tl) H := hP
    have hD : va_D A ([(h0, .inr (8, [.ref qh, .ref qk, .ref qd, .int b0, .ref qa, .ref qm, .ref qs, .ref qp, .ref ql, .ref qt, .ref qz, .ref qf])), (qz, .inl (cS, 4, .inr (.inr (.inr (.inr (xSh s0 s1 s2 s3)))))), (s0, .inr (4, [.int bt0, .int (nI (sz0)), .ref sn0])), (s1, .inr (4, [.int bt1, .int (nI (sz1)), .ref sn1])), (s2, .inr (4, [.int bt2, .int (nI (sz2)), .ref sn2])), (s3, .inr (4, [.int bt3, .int (nI (sz3)), .ref sn3])), (sn0, .inl (cJ, 40, .inr (.inl nu0))), (sn1, .inl (cJ, 40, .inr (.inl nu1))), (sn2, .inl (cJ, 40, .inr (.inl nu2))), (sn3, .inl (cJ, 40, .inr (.inl nv_64))), (qf, .inl (cI, 7, .inl f2_65)), (g0, .inr (9, [.ref m_ys, .ref m_yk, .ref m_yo, .ref m_yt, .int b0, .ref m_yfa, .ref m_yfe, .int m_mL, .int m_mS, .int m_mM, .ref m_yro, .ref m_yhe, .ref m_ygr, .int m_mF, .int m_mC, .int m_mY, .ref m_yta, .int (nI (z)), .int (nI (m_mf)), .int (nI (m_mt)), .int m_mv, .int m_mw, .ref m_ywa, .ref m_ybi, .ref m_ysi, .ref m_ynu, .ref m_ymo])), (m_ybi, .inl (cI, 4, .inl m_bi)), (m_ysi, .inl (cI, 4, .inl m_sq)), (m_ynu, .inl (cJ, 160, .inr (.inl nb2_71))), (m_yt, .inl (cI, 7, .inl mq2_72))] ++ tl) := hD
    subst hw_r_70
    refine W.lcmp hx hb dL_law_1273 ?_
    refine xl_i (y := 0) (xq_eq (sp_wreq (by omega) r_b3 r_n3)) ?_
    refine lv_if_eq (tgt := 1483) hx hb dL_law_1274 (by decide) (fun c_75 => ?_) (fun c_75 => absurd (by decide) c_75)
    exact kkx _ _ _ nu0 nu1 nu2 nv_64 f2_65 mq2_72 nb2_71 (xt_P hP [0, 1, 2, 3, 4, 5, 6, 7, 8, 9, 10, 11, 15, 12, 13, 14] rfl) (xt_D hD [0, 1, 2, 3, 4, 5, 6, 7, 8, 9, 10, 11, 15, 12, 13, 14] (by decide +kernel) rfl) (fun j hj => (i_74 (0 + j) (by omega)).trans (r_n0 j hj)) (fun j hj => (i_74 (40 + j) (by omega)).trans (r_n1 j hj)) (fun j hj => (i_74 (80 + j) (by omega)).trans (r_n2 j hj)) (fun j hj => by rw [i_73 j hj, r_n3 j hj, r_b3, i_66 j, show x_69 = x_62 by rw [ex_69, ex_62, ex_68, ex_61, ex_67, ex_60]]) hS hl
