set_option maxHeartbeats 4000000 in
set_option maxRecDepth 100000 in
theorem law_4 {p : Program} {e : Env} {s : State} {m : MethodId} {below : List Frame} {meth : Method} {c : Code} (l : Launch) (D : va_G) (cI cJ cZ cS : ClassId) (ta : Nat) (sa sv : Nat → Nat) {b L : Nat} {xs : Nat → Int32} {A : Nat → Prop} (hL : L ≤ 3072) (hF : CallFix p m c cL_law 4 s #[Value.ref b] (Cond.initialized RX8 :: wsU) RL) (hr : meth.sig.returnType = ret) (hlk : meth.locks = false) (hK : va_K D vwCl (xT cI cJ cZ cS) s) (hN : XN sa s) (hX : va_X b L xs s s.heap) (hbl : b < s.heap.size) (hA : ∀ q : Nat, s.heap.size ≤ q → A q) (hbA : ¬ A b) (hAs : ∀ q, A q → s.heap.size ≤ q) (hZ : ST ta sa sv A s s.heap) (h0 g0 i : Nat) (hi : i + 6 ≤ L) (qh : Nat) (qk : Nat) (qd : Nat) (b0 : Int32) (qa : Nat) (qm : Nat) (qs : Nat) (qp : Nat) (ql : Nat) (qt : Nat) (qz : Nat) (qf : Nat) (Pa : Nat) (ae : Nat) (al : Nat) (au : Nat) (ao : Nat) (ar : Nat) (ak : Nat) (aw : Nat) (att : Nat) (ass : Nat) (fao : Nat → Int32) (ff : Nat → Int32) (m_ys : Nat) (m_yk : Nat) (m_yo : Nat) (m_yt : Nat) (m_yfa : Nat) (m_yfe : Nat) (m_mL : Int32) (m_mS : Int32) (m_mM : Int32) (m_yro : Nat) (m_yhe : Nat) (m_ygr : Nat) (m_mF : Int32) (m_mC : Int32) (m_mY : Int32) (m_yta : Nat) (z : Nat) (m_mf : Nat) (m_mt : Nat) (m_mv : Int32) (m_mw : Int32) (m_ywa : Nat) (m_ybi : Nat) (m_ysi : Nat) (m_ynu : Nat) (m_ymo : Nat) (m_ms : Nat → Int32) (m_mq : Nat → Int32) (Ra : Nat) (Wa : Nat) {tl : va_W} {H : Heap} {locs : List Loc} {ls : Array Slot} (hP : va_P D vwCl ([(h0, .inr (8, [.ref qh, .ref qk, .ref qd, .int b0, .ref qa, .ref qm, .ref qs, .ref qp, .ref ql, .ref qt, .ref qz, .ref qf])), (qh, .inr (1, [.int (nI (Pa)), .ref ae, .ref al, .ref au, .ref ao, .ref ar, .ref ak, .ref aw, .ref att, .ref ass])), (ao, .inl (cI, 100, .inl fao)), (qf, .inl (cI, 7, .inl ff)), (g0, .inr (9, [.ref m_ys, .ref m_yk, .ref m_yo, .ref m_yt, .int b0, .ref m_yfa, .ref m_yfe, .int m_mL, .int m_mS, .int m_mM, .ref m_yro, .ref m_yhe, .ref m_ygr, .int m_mF, .int m_mC, .int m_mY, .ref m_yta, .int (nI (z)), .int (nI (m_mf)), .int (nI (m_mt)), .int m_mv, .int m_mw, .ref m_ywa, .ref m_ybi, .ref m_ysi, .ref m_ynu, .ref m_ymo])), (m_ys, .inl (cI, 449, .inl m_ms)), (m_yt, .inl (cI, 7, .inl m_mq))] ++ tl) H) (hD : va_D A ([(h0, .inr (8, [.ref qh, .ref qk, .ref qd, .int b0, .ref qa, .ref qm, .ref qs, .ref qp, .ref ql, .ref qt, .ref qz, .ref qf])), (qh, .inr (1, [.int (nI (Pa)), .ref ae, .ref al, .ref au, .ref ao, .ref ar, .ref ak, .ref aw, .ref att, .ref ass])), (ao, .inl (cI, 100, .inl fao)), (qf, .inl (cI, 7, .inl ff)), (g0, .inr (9, [.ref m_ys, .ref m_yk, .ref m_yo, .ref m_yt, .int b0, .ref m_yfa, .ref m_yfe, .int m_mL, .int m_mS, .int m_mM, .ref m_yro, .ref m_yhe, .ref m_ygr, .int m_mF, .int m_mC, .int m_mY, .ref m_yta, .int (nI (z)), .int (nI (m_mf)), .int (nI (m_mt)), .int m_mv, .int m_mw, .ref m_ywa, .ref m_ybi, .ref m_ysi, .ref m_ynu, .ref m_ymo])), (m_ys, .inl (cI, 449, .inl m_ms)), (m_yt, .inl (cI, 7, .inl m_mq))] ++ tl)) (hP0 : Pa ≤ 10) (hR : Ra ≤ 8) (hWa : Wa ≤ 8) (hz : z ≤ 120) (m_hs0 : m_ms 0 = nI Pa) (m_hs1 : m_ms 1 = nI Ra) (m_hs2 : m_ms 2 = nI Wa) (m_hsS : SI m_ms) (m_hsM : MI m_ms) (m_hsp : Pa ≤ 10) (m_hsr : Ra ≤ 8) (m_hsw : Wa ≤ 8) (m_hsR : RI Ra m_ms) (hS : va_S A s.heap H locs) (hl : lv_has ls 4 [(3, .int (nI i)), (2, .ref g0), (1, .ref h0), (0, .ref b)]) (kkx : ∀ (H : Heap) (locs : List Loc) (ls : Array Slot) (fao_n : Nat → Int32) (ff_n : Nat → Int32) (m_ms_n : Nat → Int32) (m_mq_n : Nat → Int32), va_P D vwCl ([(h0, .inr (8, [.ref qh, .ref qk, .ref qd, .int b0, .ref qa, .ref qm, .ref qs, .ref qp, .ref ql, .ref qt, .ref qz, .ref qf])), (qh, .inr (1, [.int (nI (Pa)), .ref ae, .ref al, .ref au, .ref ao, .ref ar, .ref ak, .ref aw, .ref att, .ref ass])), (ao, .inl (cI, 100, .inl fao_n)), (qf, .inl (cI, 7, .inl ff_n)), (g0, .inr (9, [.ref m_ys, .ref m_yk, .ref m_yo, .ref m_yt, .int b0, .ref m_yfa, .ref m_yfe, .int m_mL, .int m_mS, .int m_mM, .ref m_yro, .ref m_yhe, .ref m_ygr, .int m_mF, .int m_mC, .int m_mY, .ref m_yta, .int (nI (z)), .int (nI (m_mf)), .int (nI (m_mt)), .int m_mv, .int m_mw, .ref m_ywa, .ref m_ybi, .ref m_ysi, .ref m_ynu, .ref m_ymo])), (m_ys, .inl (cI, 449, .inl m_ms_n)), (m_yt, .inl (cI, 7, .inl m_mq_n))] ++ tl) H → va_D A ([(h0, .inr (8, [.ref qh, .ref qk, .ref qd, .int b0, .ref qa, .ref qm, .ref qs, .ref qp, .ref ql, .ref qt, .ref qz, .ref qf])), (qh, .inr (1, [.int (nI (Pa)), .ref ae, .ref al, .ref au, .ref ao, .ref ar, .ref ak, .ref aw, .ref att, .ref ass])), (ao, .inl (cI, 100, .inl fao_n)), (qf, .inl (cI, 7, .inl ff_n)), (g0, .inr (9, [.ref m_ys, .ref m_yk, .ref m_yo, .ref m_yt, .int b0, .ref m_yfa, .ref m_yfe, .int m_mL, .int m_mS, .int m_mM, .ref m_yro, .ref m_yhe, .ref m_ygr, .int m_mF, .int m_mC, .int m_mY, .ref m_yta, .int (nI (z)), .int (nI (m_mf)), .int (nI (m_mt)), .int m_mv, .int m_mw, .ref m_ywa, .ref m_ybi, .ref m_ysi, .ref m_ynu, .ref m_ymo])), (m_ys, .inl (cI, 449, .inl m_ms_n)), (m_yt, .inl (cI, 7, .inl m_mq_n))] ++ tl) → (m_ms_n 0 = nI Pa) → (m_ms_n 1 = nI Ra) → (m_ms_n 2 = nI Wa) → (SI m_ms_n) → (MI m_ms_n) → (RI Ra m_ms_n) → va_S A s.heap H locs → lv_has ls 4 [(3, .int (nI i)), (2, .ref g0), (1, .ref h0), (0, .ref b)] → W p l e room_1 s m #[Value.ref b] below meth c H locs 82 4273 (lw_Z below #[Value.ref b] s) (F0 m 1482 ls [])) : W p l e room_1 s m #[Value.ref b] below meth c H locs 82 4273 (lw_Z below #[Value.ref b] s) (F0 m 366 ls []) := by
  have hx := hF.1
  have hb := hF.2.1
  have hml := hF.2.2.1
  have hown := hF.2.2.2.1
  have hu : ∀ w ∈ wsU, w.before _ s = true := fun w h => hF.2.2.2.2 w (List.mem_cons_of_mem _ h)
  refine lv_aload_n hx hb dL_law_366 rfl (lv_at hl 2 rfl) ?_
  refine lv_aload_n hx hb dL_law_367 rfl (lv_at hl 3 rfl) ?_
  refine lv_iload_n hx hb dL_law_368 rfl (lv_at hl 0 rfl) ?_
  refine lv_iconst (v := 1) hx hb dL_law_369 (by decide) ?_
  refine lv_iadd hx hb dL_law_370 ?_
  refine xl_i (y := nI (i + 1)) (nI_add i 1) ?_
  refine va_sld hx hb hX hbl hbA hS (x_si (k := 1) (by decide) hi hL) dL_law_371 ?_
  refine xl_i (y := xs (i + 1)) (congrArg xs (x_sc (k := 1) (by decide) hi hL)) ?_
  refine lv_aload_n hx hb dL_law_372 rfl (lv_at hl 3 rfl) ?_
  refine lv_iload_n hx hb dL_law_373 rfl (lv_at hl 0 rfl) ?_
  refine lv_iconst (v := 2) hx hb dL_law_374 (by decide) ?_
  refine lv_iadd hx hb dL_law_375 ?_
  refine xl_i (y := nI (i + 2)) (nI_add i 2) ?_
  refine va_sld hx hb hX hbl hbA hS (x_si (k := 2) (by decide) hi hL) dL_law_376 ?_
  refine xl_i (y := xs (i + 2)) (congrArg xs (x_sc (k := 2) (by decide) hi hL)) ?_
  refine lv_aload_n hx hb dL_law_377 rfl (lv_at hl 3 rfl) ?_
  refine lv_iload_n hx hb dL_law_378 rfl (lv_at hl 0 rfl) ?_
  refine lv_iconst (v := 3) hx hb dL_law_379 (by decide) ?_
  refine lv_iadd hx hb dL_law_380 ?_
  refine xl_i (y := nI (i + 3)) (nI_add i 3) ?_
  refine va_sld hx hb hX hbl hbA hS (x_si (k := 3) (by decide) hi hL) dL_law_381 ?_
  refine xl_i (y := xs (i + 3)) (congrArg xs (x_sc (k := 3) (by decide) hi hL)) ?_
  refine lv_if_eq (tgt := 389) hx hb dL_law_382 (by decide) (fun c_1 => ?_) (fun c_1 => ?_)
  · skip
    refine lv_iconst (v := 0) hx hb dL_law_389 (by decide) ?_
    refine xc_ViT (wr := [(g0, .inr (9, [.ref m_ys, .ref m_yk, .ref m_yo, .ref m_yt, .int b0, .ref m_yfa, .ref m_yfe, .int m_mL, .int m_mS, .int m_mM, .ref m_yro, .ref m_yhe, .ref m_ygr, .int m_mF, .int m_mC, .int m_mY, .ref m_yta, .int (nI (z)), .int (nI (m_mf)), .int (nI (m_mt)), .int m_mv, .int m_mw, .ref m_ywa, .ref m_ybi, .ref m_ysi, .ref m_ynu, .ref m_ymo])), (m_ys, .inl (cI, 449, .inl m_ms)), (m_yt, .inl (cI, 7, .inl m_mq))]) hF (c_X8_shut l D cI cJ cZ cS ta sa sv H.size h0 qh qk qd b0 qa qm qs qp ql qt qz qf Pa ae al au ao ar ak aw att ass fao ff (xs (i + 1)) (xs (i + 2)) 0 m_hsp) kv_L_33 ⟨rfl, rfl, Nat.le_of_ble_eq_true rfl, Nat.le_of_ble_eq_true rfl⟩ ⟨Nat.le_of_ble_eq_true rfl, Nat.le_of_ble_eq_true rfl⟩ hK hN hZ hP hD hS hA [0, 1, 2, 3] [4, 5, 6] rfl rfl (by decide +kernel) rfl (by decide +kernel) 0 rfl rfl rfl rfl hl.1 rfl (Nat.le_of_ble_eq_true rfl) dL_law_390 (fun r_2 u_r_2 H locs hw_r_2 hP hD hS => ?_)
    obtain ⟨d2_3, f2_4⟩ := u_r_2
    try dsimp only at hw_r_2
    have hP : va_P D vwCl ([(g0, .inr (9, [.ref m_ys, .ref m_yk, .ref m_yo, .ref m_yt, .int b0, .ref m_yfa, .ref m_yfe, .int m_mL, .int m_mS, .int m_mM, .ref m_yro, .ref m_yhe, .ref m_ygr, .int m_mF, .int m_mC, .int m_mY, .ref m_yta, .int (nI (z)), .int (nI (m_mf)), .int (nI (m_mt)), .int m_mv, .int m_mw, .ref m_ywa, .ref m_ybi, .ref m_ysi, .ref m_ynu, .ref m_ymo])), (m_ys, .inl (cI, 449, .inl m_ms)), (m_yt, .inl (cI, 7, .inl m_mq)), (h0, .inr (8, [.ref qh, .ref qk, .ref qd, .int b0, .ref qa, .ref qm, .ref qs, .ref qp, .ref ql, .ref qt, .ref qz, .ref qf])), (qh, .inr (1, [.int (nI (Pa)), .ref ae, .ref al, .ref au, .ref ao, .ref ar, .ref ak, .ref aw, .ref att, .ref ass])), (ao, .inl (cI, 100, .inl d2_3)), (qf, .inl (cI, 7, .inl f2_4))] ++ tl) H := hP
    have hD : va_D A ([(g0, .inr (9, [.ref m_ys, .ref m_yk, .ref m_yo, .ref m_yt, .int b0, .ref m_yfa, .ref m_yfe, .int m_mL, .int m_mS, .int m_mM, .ref m_yro, .ref m_yhe, .ref m_ygr, .int m_mF, .int m_mC, .int m_mY, .ref m_yta, .int (nI (z)), .int (nI (m_mf)), .int (nI (m_mt)), .int m_mv, .int m_mw, .ref m_ywa, .ref m_ybi, .ref m_ysi, .ref m_ynu, .ref m_ymo])), (m_ys, .inl (cI, 449, .inl m_ms)), (m_yt, .inl (cI, 7, .inl m_mq)), (h0, .inr (8, [.ref qh, .ref qk, .ref qd, .int b0, .ref qa, .ref qm, .ref qs, .ref qp, .ref ql, .ref qt, .ref qz, .ref qf])), (qh, .inr (1, [.int (nI (Pa)), .ref ae, .ref al, .ref au, .ref ao, .ref ar, .ref ak, .ref aw, .ref att, .ref ass])), (ao, .inl (cI, 100, .inl d2_3)), (qf, .inl (cI, 7, .inl f2_4))] ++ tl) := hD
    refine lv_pop hx hb dL_law_393 rfl ?_
    refine lv_aload_n hx hb dL_law_394 rfl (lv_at hl 1 rfl) ?_
    refine lv_aload_n hx hb dL_law_395 rfl (lv_at hl 3 rfl) ?_
    refine lv_iload_n hx hb dL_law_396 rfl (lv_at hl 0 rfl) ?_
    refine lv_iconst (v := 1) hx hb dL_law_397 (by decide) ?_
    refine lv_iadd hx hb dL_law_398 ?_
    refine xl_i (y := nI (i + 1)) (nI_add i 1) ?_
    refine va_sld hx hb hX hbl hbA hS (x_si (k := 1) (by decide) hi hL) dL_law_399 ?_
    refine xl_i (y := xs (i + 1)) (congrArg xs (x_sc (k := 1) (by decide) hi hL)) ?_
    refine lv_aload_n hx hb dL_law_400 rfl (lv_at hl 3 rfl) ?_
    refine lv_iload_n hx hb dL_law_401 rfl (lv_at hl 0 rfl) ?_
    refine lv_iconst (v := 2) hx hb dL_law_402 (by decide) ?_
    refine lv_iadd hx hb dL_law_403 ?_
    refine xl_i (y := nI (i + 2)) (nI_add i 2) ?_
    refine va_sld hx hb hX hbl hbA hS (x_si (k := 2) (by decide) hi hL) dL_law_404 ?_
    refine xl_i (y := xs (i + 2)) (congrArg xs (x_sc (k := 2) (by decide) hi hL)) ?_
    refine lv_aload_n hx hb dL_law_405 rfl (lv_at hl 3 rfl) ?_
    refine lv_iload_n hx hb dL_law_406 rfl (lv_at hl 0 rfl) ?_
    refine lv_iconst (v := 3) hx hb dL_law_407 (by decide) ?_
    refine lv_iadd hx hb dL_law_408 ?_
    refine xl_i (y := nI (i + 3)) (nI_add i 3) ?_
    refine va_sld hx hb hX hbl hbA hS (x_si (k := 3) (by decide) hi hL) dL_law_409 ?_
    refine xl_i (y := xs (i + 3)) (congrArg xs (x_sc (k := 3) (by decide) hi hL)) ?_
    refine lv_if_eq (tgt := 417) hx hb dL_law_410 (by decide) (fun c_5 => ?_) (fun c_5 => absurd c_1 c_5)
    refine lv_iconst (v := 0) hx hb dL_law_417 (by decide) ?_
    refine xc_ViT (wr := [(h0, .inr (8, [.ref qh, .ref qk, .ref qd, .int b0, .ref qa, .ref qm, .ref qs, .ref qp, .ref ql, .ref qt, .ref qz, .ref qf])), (qh, .inr (1, [.int (nI (Pa)), .ref ae, .ref al, .ref au, .ref ao, .ref ar, .ref ak, .ref aw, .ref att, .ref ass])), (ao, .inl (cI, 100, .inl d2_3)), (qf, .inl (cI, 7, .inl f2_4))]) hF (c_X9_shut l D cI cJ cZ cS ta sa sv H.size g0 m_ys m_yk m_yo m_yt b0 m_yfa m_yfe m_mL m_mS m_mM m_yro m_yhe m_ygr m_mF m_mC m_mY m_yta z m_mf m_mt m_mv m_mw m_ywa m_ybi m_ysi m_ynu m_ymo m_ms m_mq Pa Ra Wa (xs (i + 1)) (xs (i + 2)) 0 m_hs0 m_hs1 m_hs2 m_hsS m_hsM m_hsp m_hsr m_hsw m_hsR) kv_L_37 ⟨rfl, rfl, Nat.le_of_ble_eq_true rfl, Nat.le_of_ble_eq_true rfl⟩ ⟨Nat.le_of_ble_eq_true rfl, Nat.le_of_ble_eq_true rfl⟩ hK hN hZ hP hD hS hA [0, 1, 2] [3, 4, 5, 6] rfl rfl rfl (by decide +kernel) (by decide +kernel) 0 rfl rfl rfl rfl hl.1 rfl (Nat.le_of_ble_eq_true rfl) dL_law_418 (fun r_6 u_r_6 H locs hw_r_6 hP hD hS => ?_)
    obtain ⟨ms2_7, mq2_8⟩ := u_r_6
    try dsimp only at hw_r_6
    obtain ⟨hw_r_6, i_9, i_10, i_11, i_12, i_13, i_14, i_15, i_16, i_17⟩ := hw_r_6
    have hP : va_P D vwCl ([(h0, .inr (8, [.ref qh, .ref qk, .ref qd, .int b0, .ref qa, .ref qm, .ref qs, .ref qp, .ref ql, .ref qt, .ref qz, .ref qf])), (qh, .inr (1, [.int (nI (Pa)), .ref ae, .ref al, .ref au, .ref ao, .ref ar, .ref ak, .ref aw, .ref att, .ref ass])), (ao, .inl (cI, 100, .inl d2_3)), (qf, .inl (cI, 7, .inl f2_4)), (g0, .inr (9, [.ref m_ys, .ref m_yk, .ref m_yo, .ref m_yt, .int b0, .ref m_yfa, .ref m_yfe, .int m_mL, .int m_mS, .int m_mM, .ref m_yro, .ref m_yhe, .ref m_ygr, .int m_mF, .int m_mC, .int m_mY, .ref m_yta, .int (nI (z)), .int (nI (m_mf)), .int (nI (m_mt)), .int m_mv, .int m_mw, .ref m_ywa, .ref m_ybi, .ref m_ysi, .ref m_ynu, .ref m_ymo])), (m_ys, .inl (cI, 449, .inl ms2_7)), (m_yt, .inl (cI, 7, .inl mq2_8))] ++ tl) H := hP
    have hD : va_D A ([(h0, .inr (8, [.ref qh, .ref qk, .ref qd, .int b0, .ref qa, .ref qm, .ref qs, .ref qp, .ref ql, .ref qt, .ref qz, .ref qf])), (qh, .inr (1, [.int (nI (Pa)), .ref ae, .ref al, .ref au, .ref ao, .ref ar, .ref ak, .ref aw, .ref att, .ref ass])), (ao, .inl (cI, 100, .inl d2_3)), (qf, .inl (cI, 7, .inl f2_4)), (g0, .inr (9, [.ref m_ys, .ref m_yk, .ref m_yo, .ref m_yt, .int b0, .ref m_yfa, .ref m_yfe, .int m_mL, .int m_mS, .int m_mM, .ref m_yro, .ref m_yhe, .ref m_ygr, .int m_mF, .int m_mC, .int m_mY, .ref m_yta, .int (nI (z)), .int (nI (m_mf)), .int (nI (m_mt)), .int m_mv, .int m_mw, .ref m_ywa, .ref m_ybi, .ref m_ysi, .ref m_ynu, .ref m_ymo])), (m_ys, .inl (cI, 449, .inl ms2_7)), (m_yt, .inl (cI, 7, .inl mq2_8))] ++ tl) := hD
    refine lv_pop hx hb dL_law_421 rfl ?_
    refine lv_goto (tgt := 1482) hx hb dL_law_422 (by decide) ?_
    exact kkx _ _ _ d2_3 f2_4 ms2_7 mq2_8 (xt_P hP [0, 1, 2, 3, 4, 5, 6] rfl) (xt_D hD [0, 1, 2, 3, 4, 5, 6] (by decide +kernel) rfl) i_9 i_10 i_11 i_12 i_13 i_17 hS hl
  · skip
    refine lv_iconst (v := 1) hx hb dL_law_385 (by decide) ?_
    refine lv_goto (tgt := 390) hx hb dL_law_386 (by decide) ?_
    refine xc_ViT (wr := [(g0, .inr (9, [.ref m_ys, .ref m_yk, .ref m_yo, .ref m_yt, .int b0, .ref m_yfa, .ref m_yfe, .int m_mL, .int m_mS, .int m_mM, .ref m_yro, .ref m_yhe, .ref m_ygr, .int m_mF, .int m_mC, .int m_mY, .ref m_yta, .int (nI (z)), .int (nI (m_mf)), .int (nI (m_mt)), .int m_mv, .int m_mw, .ref m_ywa, .ref m_ybi, .ref m_ysi, .ref m_ynu, .ref m_ymo])), (m_ys, .inl (cI, 449, .inl m_ms)), (m_yt, .inl (cI, 7, .inl m_mq))]) hF (c_X8_shut l D cI cJ cZ cS ta sa sv H.size h0 qh qk qd b0 qa qm qs qp ql qt qz qf Pa ae al au ao ar ak aw att ass fao ff (xs (i + 1)) (xs (i + 2)) 1 m_hsp) kv_L_33 ⟨rfl, rfl, Nat.le_of_ble_eq_true rfl, Nat.le_of_ble_eq_true rfl⟩ ⟨Nat.le_of_ble_eq_true rfl, Nat.le_of_ble_eq_true rfl⟩ hK hN hZ hP hD hS hA [0, 1, 2, 3] [4, 5, 6] rfl rfl (by decide +kernel) rfl (by decide +kernel) 0 rfl rfl rfl rfl hl.1 rfl (Nat.le_of_ble_eq_true rfl) dL_law_390 (fun r_18 u_r_18 H locs hw_r_18 hP hD hS => ?_)
    obtain ⟨d2_19, f2_20⟩ := u_r_18
    try dsimp only at hw_r_18
    have hP : va_P D vwCl ([(g0, .inr (9, [.ref m_ys, .ref m_yk, .ref m_yo, .ref m_yt, .int b0, .ref m_yfa, .ref m_yfe, .int m_mL, .int m_mS, .int m_mM, .ref m_yro, .ref m_yhe, .ref m_ygr, .int m_mF, .int m_mC, .int m_mY, .ref m_yta, .int (nI (z)), .int (nI (m_mf)), .int (nI (m_mt)), .int m_mv, .int m_mw, .ref m_ywa, .ref m_ybi, .ref m_ysi, .ref m_ynu, .ref m_ymo])), (m_ys, .inl (cI, 449, .inl m_ms)), (m_yt, .inl (cI, 7, .inl m_mq)), (h0, .inr (8, [.ref qh, .ref qk, .ref qd, .int b0, .ref qa, .ref qm, .ref qs, .ref qp, .ref ql, .ref qt, .ref qz, .ref qf])), (qh, .inr (1, [.int (nI (Pa)), .ref ae, .ref al, .ref au, .ref ao, .ref ar, .ref ak, .ref aw, .ref att, .ref ass])), (ao, .inl (cI, 100, .inl d2_19)), (qf, .inl (cI, 7, .inl f2_20))] ++ tl) H := hP
    have hD : va_D A ([(g0, .inr (9, [.ref m_ys, .ref m_yk, .ref m_yo, .ref m_yt, .int b0, .ref m_yfa, .ref m_yfe, .int m_mL, .int m_mS, .int m_mM, .ref m_yro, .ref m_yhe, .ref m_ygr, .int m_mF, .int m_mC, .int m_mY, .ref m_yta, .int (nI (z)), .int (nI (m_mf)), .int (nI (m_mt)), .int m_mv, .int m_mw, .ref m_ywa, .ref m_ybi, .ref m_ysi, .ref m_ynu, .ref m_ymo])), (m_ys, .inl (cI, 449, .inl m_ms)), (m_yt, .inl (cI, 7, .inl m_mq)), (h0, .inr (8, [.ref qh, .ref qk, .ref qd, .int b0, .ref qa, .ref qm, .ref qs, .ref qp, .ref ql, .ref qt, .ref qz, .ref qf])), (qh, .inr (1, [.int (nI (Pa)), .ref ae, .ref al, .ref au, .ref ao, .ref ar, .ref ak, .ref aw, .ref att, .ref ass])), (ao, .inl (cI, 100, .inl d2_19)), (qf, .inl (cI, 7, .inl f2_20))] ++ tl) := hD
    refine lv_pop hx hb dL_law_393 rfl ?_
    refine lv_aload_n hx hb dL_law_394 rfl (lv_at hl 1 rfl) ?_
    refine lv_aload_n hx hb dL_law_395 rfl (lv_at hl 3 rfl) ?_
    refine lv_iload_n hx hb dL_law_396 rfl (lv_at hl 0 rfl) ?_
    refine lv_iconst (v := 1) hx hb dL_law_397 (by decide) ?_
    refine lv_iadd hx hb dL_law_398 ?_
    refine xl_i (y := nI (i + 1)) (nI_add i 1) ?_
    refine va_sld hx hb hX hbl hbA hS (x_si (k := 1) (by decide) hi hL) dL_law_399 ?_
    refine xl_i (y := xs (i + 1)) (congrArg xs (x_sc (k := 1) (by decide) hi hL)) ?_
    refine lv_aload_n hx hb dL_law_400 rfl (lv_at hl 3 rfl) ?_
    refine lv_iload_n hx hb dL_law_401 rfl (lv_at hl 0 rfl) ?_
    refine lv_iconst (v := 2) hx hb dL_law_402 (by decide) ?_
    refine lv_iadd hx hb dL_law_403 ?_
    refine xl_i (y := nI (i + 2)) (nI_add i 2) ?_
    refine va_sld hx hb hX hbl hbA hS (x_si (k := 2) (by decide) hi hL) dL_law_404 ?_
    refine xl_i (y := xs (i + 2)) (congrArg xs (x_sc (k := 2) (by decide) hi hL)) ?_
    refine lv_aload_n hx hb dL_law_405 rfl (lv_at hl 3 rfl) ?_
    refine lv_iload_n hx hb dL_law_406 rfl (lv_at hl 0 rfl) ?_
    refine lv_iconst (v := 3) hx hb dL_law_407 (by decide) ?_
    refine lv_iadd hx hb dL_law_408 ?_
    refine xl_i (y := nI (i + 3)) (nI_add i 3) ?_
    refine va_sld hx hb hX hbl hbA hS (x_si (k := 3) (by decide) hi hL) dL_law_409 ?_
    refine xl_i (y := xs (i + 3)) (congrArg xs (x_sc (k := 3) (by decide) hi hL)) ?_
    refine lv_if_eq (tgt := 417) hx hb dL_law_410 (by decide) (fun c_21 => absurd c_21 c_1) (fun c_21 => ?_)
    refine lv_iconst (v := 1) hx hb dL_law_413 (by decide) ?_
    refine lv_goto (tgt := 418) hx hb dL_law_414 (by decide) ?_
    refine xc_ViT (wr := [(h0, .inr (8, [.ref qh, .ref qk, .ref qd, .int b0, .ref qa, .ref qm, .ref qs, .ref qp, .ref ql, .ref qt, .ref qz, .ref qf])), (qh, .inr (1, [.int (nI (Pa)), .ref ae, .ref al, .ref au, .ref ao, .ref ar, .ref ak, .ref aw, .ref att, .ref ass])), (ao, .inl (cI, 100, .inl d2_19)), (qf, .inl (cI, 7, .inl f2_20))]) hF (c_X9_shut l D cI cJ cZ cS ta sa sv H.size g0 m_ys m_yk m_yo m_yt b0 m_yfa m_yfe m_mL m_mS m_mM m_yro m_yhe m_ygr m_mF m_mC m_mY m_yta z m_mf m_mt m_mv m_mw m_ywa m_ybi m_ysi m_ynu m_ymo m_ms m_mq Pa Ra Wa (xs (i + 1)) (xs (i + 2)) 1 m_hs0 m_hs1 m_hs2 m_hsS m_hsM m_hsp m_hsr m_hsw m_hsR) kv_L_37 ⟨rfl, rfl, Nat.le_of_ble_eq_true rfl, Nat.le_of_ble_eq_true rfl⟩ ⟨Nat.le_of_ble_eq_true rfl, Nat.le_of_ble_eq_true rfl⟩ hK hN hZ hP hD hS hA [0, 1, 2] [3, 4, 5, 6] rfl rfl rfl (by decide +kernel) (by decide +kernel) 0 rfl rfl rfl rfl hl.1 rfl (Nat.le_of_ble_eq_true rfl) dL_law_418 (fun r_22 u_r_22 H locs hw_r_22 hP hD hS => ?_)
    obtain ⟨ms2_23, mq2_24⟩ := u_r_22
    try dsimp only at hw_r_22
    obtain ⟨hw_r_22, i_25, i_26, i_27, i_28, i_29, i_30, i_31, i_32, i_33⟩ := hw_r_22
    have hP : va_P D vwCl ([(h0, .inr (8, [.ref qh, .ref qk, .ref qd, .int b0, .ref qa, .ref qm, .ref qs, .ref qp, .ref ql, .ref qt, .ref qz, .ref qf])), (qh, .inr (1, [.int (nI (Pa)), .ref ae, .ref al, .ref au, .ref ao, .ref ar, .ref ak, .ref aw, .ref att, .ref ass])), (ao, .inl (cI, 100, .inl d2_19)), (qf, .inl (cI, 7, .inl f2_20)), (g0, .inr (9, [.ref m_ys, .ref m_yk, .ref m_yo, .ref m_yt, .int b0, .ref m_yfa, .ref m_yfe, .int m_mL, .int m_mS, .int m_mM, .ref m_yro, .ref m_yhe, .ref m_ygr, .int m_mF, .int m_mC, .int m_mY, .ref m_yta, .int (nI (z)), .int (nI (m_mf)), .int (nI (m_mt)), .int m_mv, .int m_mw, .ref m_ywa, .ref m_ybi, .ref m_ysi, .ref m_ynu, .ref m_ymo])), (m_ys, .inl (cI, 449, .inl ms2_23)), (m_yt, .inl (cI, 7, .inl mq2_24))] ++ tl) H := hP
    have hD : va_D A ([(h0, .inr (8, [.ref qh, .ref qk, .ref qd, .int b0, .ref qa, .ref qm, .ref qs, .ref qp, .ref ql, .ref qt, .ref qz, .ref qf])), (qh, .inr (1, [.int (nI (Pa)), .ref ae, .ref al, .ref au, .ref ao, .ref ar, .ref ak, .ref aw, .ref att, .ref ass])), (ao, .inl (cI, 100, .inl d2_19)), (qf, .inl (cI, 7, .inl f2_20)), (g0, .inr (9, [.ref m_ys, .ref m_yk, .ref m_yo, .ref m_yt, .int b0, .ref m_yfa, .ref m_yfe, .int m_mL, .int m_mS, .int m_mM, .ref m_yro, .ref m_yhe, .ref m_ygr, .int m_mF, .int m_mC, .int m_mY, .ref m_yta, .int (nI (z)), .int (nI (m_mf)), .int (nI (m_mt)), .int m_mv, .int m_mw, .ref m_ywa, .ref m_ybi, .ref m_ysi, .ref m_ynu, .ref m_ymo])), (m_ys, .inl (cI, 449, .inl ms2_23)), (m_yt, .inl (cI, 7, .inl mq2_24))] ++ tl) := hD
    refine lv_pop hx hb dL_law_421 rfl ?_
    refine lv_goto (tgt := 1482) hx hb dL_law_422 (by decide) ?_
    exact kkx _ _ _ d2_19 f2_20 ms2_23 mq2_24 (xt_P hP [0, 1, 2, 3, 4, 5, 6] rfl) (xt_D hD [0, 1, 2, 3, 4, 5, 6] (by decide +kernel) rfl) i_25 i_26 i_27 i_28 i_29 i_33 hS hl
