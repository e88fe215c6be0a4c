set_option maxHeartbeats 4000000 in
set_option maxRecDepth 100000 in
theorem law_36 {p : Program} {e : Env} {s : State} {m : MethodId} {below : List Frame} {meth : Method} {c : Code} (l : Launch) (D : va_G) (cI cJ cZ cS : ClassId) (ta : Nat) (sa sv : Nat → Nat) {b L : Nat} {xs : Nat → Int32} {A : Nat → Prop} (hL : L ≤ 3072) (hF : CallFix p m c cL_law 4 s #[Value.ref b] (Cond.initialized RX8 :: wsU) RL) (hr : meth.sig.returnType = ret) (hlk : meth.locks = false) (hK : va_K D vwCl (xT cI cJ cZ cS) s) (hN : XN sa s) (hX : va_X b L xs s s.heap) (hbl : b < s.heap.size) (hA : ∀ q : Nat, s.heap.size ≤ q → A q) (hbA : ¬ A b) (hAs : ∀ q, A q → s.heap.size ≤ q) (hZ : ST ta sa sv A s s.heap) (h0 g0 i : Nat) (hi : i + 6 ≤ L) (qh : Nat) (qk : Nat) (qd : Nat) (b0 : Int32) (qa : Nat) (qm : Nat) (qs : Nat) (qp : Nat) (ql : Nat) (qt : Nat) (qz : Nat) (qf : Nat) (s0 : Nat) (s1 : Nat) (s2 : Nat) (s3 : Nat) (bt0 : Int32) (sz0 : Nat) (sn0 : Nat) (bt1 : Int32) (sz1 : Nat) (sn1 : Nat) (bt2 : Int32) (sz2 : Nat) (sn2 : Nat) (bt3 : Int32) (sz3 : Nat) (sn3 : Nat) (nu0 : Nat → Int64) (nu1 : Nat → Int64) (nu2 : Nat → Int64) (nu3 : Nat → Int64) (ff : Nat → Int32) (m_ys : Nat) (m_yk : Nat) (m_yo : Nat) (m_yt : Nat) (m_yfa : Nat) (m_yfe : Nat) (m_mL : Int32) (m_mS : Int32) (m_mM : Int32) (m_yro : Nat) (m_yhe : Nat) (m_ygr : Nat) (m_mF : Int32) (m_mC : Int32) (m_mY : Int32) (m_yta : Nat) (z : Nat) (m_mf : Nat) (m_mt : Nat) (m_mv : Int32) (m_mw : Int32) (m_ywa : Nat) (m_ybi : Nat) (m_ysi : Nat) (m_ynu : Nat) (m_ymo : Nat) (m_mq : Nat → Int32) (m_bi : Nat → Int32) (m_sq : Nat → Int32) (m_nb : Nat → Int64) (m_mv9 : Nat → Int64) {tl : va_W} {H : Heap} {locs : List Loc} {ls : Array Slot} (hP : va_P D vwCl (@HAppend.hAppend va_W va_W va_W _ [(h0, .inr (8, [.ref qh, .ref qk, .ref qd, .int b0, .ref qa, .ref qm, .ref qs, .ref qp, .ref ql, .ref qt, .ref qz, .ref qf])), (qz, .inl (cS, 4, .inr (.inr (.inr (.inr (xSh s0 s1 s2 s3)))))), (s0, .inr (4, [.int bt0, .int (nI (sz0)), .ref sn0])), (s1, .inr (4, [.int bt1, .int (nI (sz1)), .ref sn1])), (s2, .inr (4, [.int bt2, .int (nI (sz2)), .ref sn2])), (s3, .inr (4, [.int bt3, .int (nI (sz3)), .ref sn3])), (sn0, .inl (cJ, 40, .inr (.inl nu0))), (sn1, .inl (cJ, 40, .inr (.inl nu1))), (sn2, .inl (cJ, 40, .inr (.inl nu2))), (sn3, .inl (cJ, 40, .inr (.inl nu3))), (qf, .inl (cI, 7, .inl ff)), (g0, .inr (9, [.ref m_ys, .ref m_yk, .ref m_yo, .ref m_yt, .int b0, .ref m_yfa, .ref m_yfe, .int m_mL, .int m_mS, .int m_mM, .ref m_yro, .ref m_yhe, .ref m_ygr, .int m_mF, .int m_mC, .int m_mY, .ref m_yta, .int (nI (z)), .int (nI (m_mf)), .int (nI (m_mt)), .int m_mv, .int m_mw, .ref m_ywa, .ref m_ybi, .ref m_ysi, .ref m_ynu, .ref m_ymo])), (m_yt, .inl (cI, 7, .inl m_mq)), (m_ybi, .inl (cI, 4, .inl m_bi)), (m_ysi, .inl (cI, 4, .inl m_sq)), (m_ynu, .inl (cJ, 160, .inr (.inl m_nb))), (m_ymo, .inl (cJ, 40, .inr (.inl m_mv9)))] tl) H) (hD : va_D A (@HAppend.hAppend va_W va_W va_W _ [(h0, .inr (8, [.ref qh, .ref qk, .ref qd, .int b0, .ref qa, .ref qm, .ref qs, .ref qp, .ref ql, .ref qt, .ref qz, .ref qf])), (qz, .inl (cS, 4, .inr (.inr (.inr (.inr (xSh s0 s1 s2 s3)))))), (s0, .inr (4, [.int bt0, .int (nI (sz0)), .ref sn0])), (s1, .inr (4, [.int bt1, .int (nI (sz1)), .ref sn1])), (s2, .inr (4, [.int bt2, .int (nI (sz2)), .ref sn2])), (s3, .inr (4, [.int bt3, .int (nI (sz3)), .ref sn3])), (sn0, .inl (cJ, 40, .inr (.inl nu0))), (sn1, .inl (cJ, 40, .inr (.inl nu1))), (sn2, .inl (cJ, 40, .inr (.inl nu2))), (sn3, .inl (cJ, 40, .inr (.inl nu3))), (qf, .inl (cI, 7, .inl ff)), (g0, .inr (9, [.ref m_ys, .ref m_yk, .ref m_yo, .ref m_yt, .int b0, .ref m_yfa, .ref m_yfe, .int m_mL, .int m_mS, .int m_mM, .ref m_yro, .ref m_yhe, .ref m_ygr, .int m_mF, .int m_mC, .int m_mY, .ref m_yta, .int (nI (z)), .int (nI (m_mf)), .int (nI (m_mt)), .int m_mv, .int m_mw, .ref m_ywa, .ref m_ybi, .ref m_ysi, .ref m_ynu, .ref m_ymo])), (m_yt, .inl (cI, 7, .inl m_mq)), (m_ybi, .inl (cI, 4, .inl m_bi)), (m_ysi, .inl (cI, 4, .inl m_sq)), (m_ynu, .inl (cJ, 160, .inr (.inl m_nb))), (m_ymo, .inl (cJ, 40, .inr (.inl m_mv9)))] tl)) (hz : z ≤ 120) (hsz0 : sz0 ≤ 40) (hsz1 : sz1 ≤ 40) (hsz2 : sz2 ≤ 40) (hsz3 : sz3 ≤ 40) (r_b0 : m_bi 0 = bt0) (r_z0 : m_sq 0 = nI sz0) (r_n0 : ∀ j, j < 40 → m_nb (0 + j) = nu0 j) (r_b1 : m_bi 1 = bt1) (r_z1 : m_sq 1 = nI sz1) (r_n1 : ∀ j, j < 40 → m_nb (40 + j) = nu1 j) (r_b2 : m_bi 2 = bt2) (r_z2 : m_sq 2 = nI sz2) (r_n2 : ∀ j, j < 40 → m_nb (80 + j) = nu2 j) (r_b3 : m_bi 3 = bt3) (r_z3 : m_sq 3 = nI sz3) (r_n3 : ∀ j, j < 40 → m_nb (120 + j) = nu3 j) (m_hsq : BA 4 41 m_sq) (hS : va_S A s.heap H locs) (hl : lv_has ls 4 [(3, .int (nI i)), (2, .ref g0), (1, .ref h0), (0, .ref b)]) (kkx : ∀ (H : Heap) (locs : List Loc) (ls : Array Slot) (nu0_n : Nat → Int64) (nu1_n : Nat → Int64) (nu2_n : Nat → Int64) (nu3_n : Nat → Int64) (ff_n : Nat → Int32) (m_mq_n : Nat → Int32) (m_nb_n : Nat → Int64) (m_mv9_n : Nat → Int64), va_P D vwCl (@HAppend.hAppend va_W va_W va_W _ [(h0, .inr (8, [.ref qh, .ref qk, .ref qd, .int b0, .ref qa, .ref qm, .ref qs, .ref qp, .ref ql, .ref qt, .ref qz, .ref qf])), (qz, .inl (cS, 4, .inr (.inr (.inr (.inr (xSh s0 s1 s2 s3)))))), (s0, .inr (4, [.int bt0, .int (nI (sz0)), .ref sn0])), (s1, .inr (4, [.int bt1, .int (nI (sz1)), .ref sn1])), (s2, .inr (4, [.int bt2, .int (nI (sz2)), .ref sn2])), (s3, .inr (4, [.int bt3, .int (nI (sz3)), .ref sn3])), (sn0, .inl (cJ, 40, .inr (.inl nu0_n))), (sn1, .inl (cJ, 40, .inr (.inl nu1_n))), (sn2, .inl (cJ, 40, .inr (.inl nu2_n))), (sn3, .inl (cJ, 40, .inr (.inl nu3_n))), (qf, .inl (cI, 7, .inl ff_n)), (g0, .inr (9, [.ref m_ys, .ref m_yk, .ref m_yo, .ref m_yt, .int b0, .ref m_yfa, .ref m_yfe, .int m_mL, .int m_mS, .int m_mM, .ref m_yro, .ref m_yhe, .ref m_ygr, .int m_mF, .int m_mC, .int m_mY, .ref m_yta, .int (nI (z)), .int (nI (m_mf)), .int (nI (m_mt)), .int m_mv, .int m_mw, .ref m_ywa, .ref m_ybi, .ref m_ysi, .ref m_ynu, .ref m_ymo])), (m_yt, .inl (cI, 7, .inl m_mq_n)), (m_ybi, .inl (cI, 4, .inl m_bi)), (m_ysi, .inl (cI, 4, .inl m_sq)), (m_ynu, .inl (cJ, 160, .inr (.inl m_nb_n))), (m_ymo, .inl (cJ, 40, .inr (.inl m_mv9_n)))] tl) H → va_D A (@HAppend.hAppend va_W va_W va_W _ [(h0, .inr (8, [.ref qh, .ref qk, .ref qd, .int b0, .ref qa, .ref qm, .ref qs, .ref qp, .ref ql, .ref qt, .ref qz, .ref qf])), (qz, .inl (cS, 4, .inr (.inr (.inr (.inr (xSh s0 s1 s2 s3)))))), (s0, .inr (4, [.int bt0, .int (nI (sz0)), .ref sn0])), (s1, .inr (4, [.int bt1, .int (nI (sz1)), .ref sn1])), (s2, .inr (4, [.int bt2, .int (nI (sz2)), .ref sn2])), (s3, .inr (4, [.int bt3, .int (nI (sz3)), .ref sn3])), (sn0, .inl (cJ, 40, .inr (.inl nu0_n))), (sn1, .inl (cJ, 40, .inr (.inl nu1_n))), (sn2, .inl (cJ, 40, .inr (.inl nu2_n))), (sn3, .inl (cJ, 40, .inr (.inl nu3_n))), (qf, .inl (cI, 7, .inl ff_n)), (g0, .inr (9, [.ref m_ys, .ref m_yk, .ref m_yo, .ref m_yt, .int b0, .ref m_yfa, .ref m_yfe, .int m_mL, .int m_mS, .int m_mM, .ref m_yro, .ref m_yhe, .ref m_ygr, .int m_mF, .int m_mC, .int m_mY, .ref m_yta, .int (nI (z)), .int (nI (m_mf)), .int (nI (m_mt)), .int m_mv, .int m_mw, .ref m_ywa, .ref m_ybi, .ref m_ysi, .ref m_ynu, .ref m_ymo])), (m_yt, .inl (cI, 7, .inl m_mq_n)), (m_ybi, .inl (cI, 4, .inl m_bi)), (m_ysi, .inl (cI, 4, .inl m_sq)), (m_ynu, .inl (cJ, 160, .inr (.inl m_nb_n))), (m_ymo, .inl (cJ, 40, .inr (.inl m_mv9_n)))] tl) → (∀ j, j < 40 → m_nb_n (0 + j) = nu0_n j) → (∀ j, j < 40 → m_nb_n (40 + j) = nu1_n j) → (∀ j, j < 40 → m_nb_n (80 + j) = nu2_n j) → (∀ j, j < 40 → m_nb_n (120 + j) = nu3_n j) → va_S A s.heap H locs → lv_has ls 4 [(3, .int (nI i)), (2, .ref g0), (1, .ref h0), (0, .ref b)] → W p l e room_1 s m #[Value.ref b] below meth c H locs 82 4273 (lw_Z below #[Value.ref b] s) (F0 m 1482 ls [])) : W p l e room_1 s m #[Value.ref b] below meth c H locs 82 4273 (lw_Z below #[Value.ref b] s) (F0 m 1278 ls []) := by
  have hx := hF.1
  have hb := hF.2.1
  have hml := hF.2.2.1
  have hown := hF.2.2.2.1
  have hu : ∀ w ∈ wsU, w.before _ s = true := fun w h => hF.2.2.2.2 w (List.mem_cons_of_mem _ h)
  rcases x_sh4 (xs (i + 1)) with oq1 | eq1 | eq1 | eq1 | eq1
  · skip
    refine lv_aload_n hx hb dL_law_1278 rfl (lv_at hl 2 rfl) ?_
    rcases x_sh4 (xs (i + 3)) with oq3 | eq3 | eq3 | eq3 | eq3
    · skip
      refine lv_aload_n hx hb dL_law_1279 rfl (lv_at hl 3 rfl) ?_
      refine lv_iload_n hx hb dL_law_1280 rfl (lv_at hl 0 rfl) ?_
      refine lv_iconst (v := 1) hx hb dL_law_1281 (by decide) ?_
      refine lv_iadd hx hb dL_law_1282 ?_
      refine xl_i (y := nI (i + 1)) (nI_add i 1) ?_
      refine va_sld hx hb hX hbl hbA hS (x_si (k := 1) (by decide) hi hL) dL_law_1283 ?_
      refine xl_i (y := xs (i + 1)) (congrArg xs (x_sc (k := 1) (by decide) hi hL)) ?_
      refine lv_aload_n hx hb dL_law_1284 rfl (lv_at hl 3 rfl) ?_
      refine lv_iload_n hx hb dL_law_1285 rfl (lv_at hl 0 rfl) ?_
      refine lv_iconst (v := 2) hx hb dL_law_1286 (by decide) ?_
      refine lv_iadd hx hb dL_law_1287 ?_
      refine xl_i (y := nI (i + 2)) (nI_add i 2) ?_
      refine va_sld hx hb hX hbl hbA hS (x_si (k := 2) (by decide) hi hL) dL_law_1288 ?_
      refine xl_i (y := xs (i + 2)) (congrArg xs (x_sc (k := 2) (by decide) hi hL)) ?_
      refine lv_aload_n hx hb dL_law_1289 rfl (lv_at hl 3 rfl) ?_
      refine lv_iload_n hx hb dL_law_1290 rfl (lv_at hl 0 rfl) ?_
      refine lv_iconst (v := 3) hx hb dL_law_1291 (by decide) ?_
      refine lv_iadd hx hb dL_law_1292 ?_
      refine xl_i (y := nI (i + 3)) (nI_add i 3) ?_
      refine va_sld hx hb hX hbl hbA hS (x_si (k := 3) (by decide) hi hL) dL_law_1293 ?_
      refine xl_i (y := xs (i + 3)) (congrArg xs (x_sc (k := 3) (by decide) hi hL)) ?_
      refine lv_aload_n hx hb dL_law_1294 rfl (lv_at hl 3 rfl) ?_
      refine lv_iload_n hx hb dL_law_1295 rfl (lv_at hl 0 rfl) ?_
      refine lv_iconst (v := 4) hx hb dL_law_1296 (by decide) ?_
      refine lv_iadd hx hb dL_law_1297 ?_
      refine xl_i (y := nI (i + 4)) (nI_add i 4) ?_
      refine va_sld hx hb hX hbl hbA hS (x_si (k := 4) (by decide) hi hL) dL_law_1298 ?_
      refine xl_i (y := xs (i + 4)) (congrArg xs (x_sc (k := 4) (by decide) hi hL)) ?_
      refine lv_aload_n hx hb dL_law_1299 rfl (lv_at hl 3 rfl) ?_
      refine lv_iload_n hx hb dL_law_1300 rfl (lv_at hl 0 rfl) ?_
      refine lv_iconst (v := 5) hx hb dL_law_1301 (by decide) ?_
      refine lv_iadd hx hb dL_law_1302 ?_
      refine xl_i (y := nI (i + 5)) (nI_add i 5) ?_
      refine va_sld hx hb hX hbl hbA hS (x_si (k := 5) (by decide) hi hL) dL_law_1303 ?_
      refine xl_i (y := xs (i + 5)) (congrArg xs (x_sc (k := 5) (by decide) hi hL)) ?_
      refine xc_ViT (wr := [(qz, .inl (cS, 4, .inr (.inr (.inr (.inr (xSh s0 s1 s2 s3)))))), (s0, .inr (4, [.int bt0, .int (nI (sz0)), .ref sn0])), (s1, .inr (4, [.int bt1, .int (nI (sz1)), .ref sn1])), (s2, .inr (4, [.int bt2, .int (nI (sz2)), .ref sn2])), (s3, .inr (4, [.int bt3, .int (nI (sz3)), .ref sn3])), (sn0, .inl (cJ, 40, .inr (.inl nu0))), (sn1, .inl (cJ, 40, .inr (.inl nu1))), (sn2, .inl (cJ, 40, .inr (.inl nu2))), (sn3, .inl (cJ, 40, .inr (.inl nu3))), (g0, .inr (9, [.ref m_ys, .ref m_yk, .ref m_yo, .ref m_yt, .int b0, .ref m_yfa, .ref m_yfe, .int m_mL, .int m_mS, .int m_mM, .ref m_yro, .ref m_yhe, .ref m_ygr, .int m_mF, .int m_mC, .int m_mY, .ref m_yta, .int (nI (z)), .int (nI (m_mf)), .int (nI (m_mt)), .int m_mv, .int m_mw, .ref m_ywa, .ref m_ybi, .ref m_ysi, .ref m_ynu, .ref m_ymo])), (m_yt, .inl (cI, 7, .inl m_mq)), (m_ybi, .inl (cI, 4, .inl m_bi)), (m_ysi, .inl (cI, 4, .inl m_sq)), (m_ynu, .inl (cJ, 160, .inr (.inl m_nb))), (m_ymo, .inl (cJ, 40, .inr (.inl m_mv9)))]) hF (c_X8_copy_o l D cI cJ cZ cS ta sa sv H.size h0 qh qk qd b0 qa qm qs qp ql qt qz qf ff (xs (i + 1)) (xs (i + 2)) (xs (i + 3)) (xs (i + 4)) (xs (i + 5)) oq1) kv_L_166 ⟨rfl, rfl, Nat.le_of_ble_eq_true rfl, Nat.le_of_ble_eq_true rfl⟩ ⟨Nat.le_of_ble_eq_true rfl, Nat.le_of_ble_eq_true rfl⟩ hK hN hZ hP hD hS hA [0, 10] [1, 2, 3, 4, 5, 6, 7, 8, 9, 11, 12, 13, 14, 15, 16] rfl rfl rfl (by decide +kernel) (by decide +kernel) 0 rfl rfl rfl rfl hl.1 rfl (Nat.le_of_ble_eq_true rfl) dL_law_1304 (fun r_1 u_r_1 H locs hw_r_1 hP hD hS => ?_)
      obtain ⟨f2_2, rfl⟩ : ∃ z, z = u_r_1 := ⟨_, rfl⟩
      try dsimp only at hw_r_1
      have hP : va_P D vwCl (@HAppend.hAppend va_W va_W va_W _ [(qz, .inl (cS, 4, .inr (.inr (.inr (.inr (xSh s0 s1 s2 s3)))))), (s0, .inr (4, [.int bt0, .int (nI (sz0)), .ref sn0])), (s1, .inr (4, [.int bt1, .int (nI (sz1)), .ref sn1])), (s2, .inr (4, [.int bt2, .int (nI (sz2)), .ref sn2])), (s3, .inr (4, [.int bt3, .int (nI (sz3)), .ref sn3])), (sn0, .inl (cJ, 40, .inr (.inl nu0))), (sn1, .inl (cJ, 40, .inr (.inl nu1))), (sn2, .inl (cJ, 40, .inr (.inl nu2))), (sn3, .inl (cJ, 40, .inr (.inl nu3))), (g0, .inr (9, [.ref m_ys, .ref m_yk, .ref m_yo, .ref m_yt, .int b0, .ref m_yfa, .ref m_yfe, .int m_mL, .int m_mS, .int m_mM, .ref m_yro, .ref m_yhe, .ref m_ygr, .int m_mF, .int m_mC, .int m_mY, .ref m_yta, .int (nI (z)), .int (nI (m_mf)), .int (nI (m_mt)), .int m_mv, .int m_mw, .ref m_ywa, .ref m_ybi, .ref m_ysi, .ref m_ynu, .ref m_ymo])), (m_yt, .inl (cI, 7, .inl m_mq)), (m_ybi, .inl (cI, 4, .inl m_bi)), (m_ysi, .inl (cI, 4, .inl m_sq)), (m_ynu, .inl (cJ, 160, .inr (.inl m_nb))), (m_ymo, .inl (cJ, 40, .inr (.inl m_mv9))), (h0, .inr (8, [.ref qh, .ref qk, .ref qd, .int b0, .ref qa, .ref qm, .ref qs, .ref qp, .ref ql, .ref qt, .ref qz, .ref qf])), (qf, .inl (cI, 7, .inl f2_2))] tl) H := hP
      have hD : va_D A (@HAppend.hAppend va_W va_W va_W _ [(qz, .inl (cS, 4, .inr (.inr (.inr (.inr (xSh s0 s1 s2 s3)))))), (s0, .inr (4, [.int bt0, .int (nI (sz0)), .ref sn0])), (s1, .inr (4, [.int bt1, .int (nI (sz1)), .ref sn1])), (s2, .inr (4, [.int bt2, .int (nI (sz2)), .ref sn2])), (s3, .inr (4, [.int bt3, .int (nI (sz3)), .ref sn3])), (sn0, .inl (cJ, 40, .inr (.inl nu0))), (sn1, .inl (cJ, 40, .inr (.inl nu1))), (sn2, .inl (cJ, 40, .inr (.inl nu2))), (sn3, .inl (cJ, 40, .inr (.inl nu3))), (g0, .inr (9, [.ref m_ys, .ref m_yk, .ref m_yo, .ref m_yt, .int b0, .ref m_yfa, .ref m_yfe, .int m_mL, .int m_mS, .int m_mM, .ref m_yro, .ref m_yhe, .ref m_ygr, .int m_mF, .int m_mC, .int m_mY, .ref m_yta, .int (nI (z)), .int (nI (m_mf)), .int (nI (m_mt)), .int m_mv, .int m_mw, .ref m_ywa, .ref m_ybi, .ref m_ysi, .ref m_ynu, .ref m_ymo])), (m_yt, .inl (cI, 7, .inl m_mq)), (m_ybi, .inl (cI, 4, .inl m_bi)), (m_ysi, .inl (cI, 4, .inl m_sq)), (m_ynu, .inl (cJ, 160, .inr (.inl m_nb))), (m_ymo, .inl (cJ, 40, .inr (.inl m_mv9))), (h0, .inr (8, [.ref qh, .ref qk, .ref qd, .int b0, .ref qa, .ref qm, .ref qs, .ref qp, .ref ql, .ref qt, .ref qz, .ref qf])), (qf, .inl (cI, 7, .inl f2_2))] tl) := hD
      subst hw_r_1
      refine lv_aload_n hx hb dL_law_1307 rfl (lv_at hl 1 rfl) ?_
      refine lv_aload_n hx hb dL_law_1308 rfl (lv_at hl 3 rfl) ?_
      refine lv_iload_n hx hb dL_law_1309 rfl (lv_at hl 0 rfl) ?_
      refine lv_iconst (v := 1) hx hb dL_law_1310 (by decide) ?_
      refine lv_iadd hx hb dL_law_1311 ?_
      refine xl_i (y := nI (i + 1)) (nI_add i 1) ?_
      refine va_sld hx hb hX hbl hbA hS (x_si (k := 1) (by decide) hi hL) dL_law_1312 ?_
      refine xl_i (y := xs (i + 1)) (congrArg xs (x_sc (k := 1) (by decide) hi hL)) ?_
      refine lv_aload_n hx hb dL_law_1313 rfl (lv_at hl 3 rfl) ?_
      refine lv_iload_n hx hb dL_law_1314 rfl (lv_at hl 0 rfl) ?_
      refine lv_iconst (v := 2) hx hb dL_law_1315 (by decide) ?_
      refine lv_iadd hx hb dL_law_1316 ?_
      refine xl_i (y := nI (i + 2)) (nI_add i 2) ?_
      refine va_sld hx hb hX hbl hbA hS (x_si (k := 2) (by decide) hi hL) dL_law_1317 ?_
      refine xl_i (y := xs (i + 2)) (congrArg xs (x_sc (k := 2) (by decide) hi hL)) ?_
      refine lv_aload_n hx hb dL_law_1318 rfl (lv_at hl 3 rfl) ?_
      refine lv_iload_n hx hb dL_law_1319 rfl (lv_at hl 0 rfl) ?_
      refine lv_iconst (v := 3) hx hb dL_law_1320 (by decide) ?_
      refine lv_iadd hx hb dL_law_1321 ?_
      refine xl_i (y := nI (i + 3)) (nI_add i 3) ?_
      refine va_sld hx hb hX hbl hbA hS (x_si (k := 3) (by decide) hi hL) dL_law_1322 ?_
      refine xl_i (y := xs (i + 3)) (congrArg xs (x_sc (k := 3) (by decide) hi hL)) ?_
      refine lv_aload_n hx hb dL_law_1323 rfl (lv_at hl 3 rfl) ?_
      refine lv_iload_n hx hb dL_law_1324 rfl (lv_at hl 0 rfl) ?_
      refine lv_iconst (v := 4) hx hb dL_law_1325 (by decide) ?_
      refine lv_iadd hx hb dL_law_1326 ?_
      refine xl_i (y := nI (i + 4)) (nI_add i 4) ?_
      refine va_sld hx hb hX hbl hbA hS (x_si (k := 4) (by decide) hi hL) dL_law_1327 ?_
      refine xl_i (y := xs (i + 4)) (congrArg xs (x_sc (k := 4) (by decide) hi hL)) ?_
      refine lv_aload_n hx hb dL_law_1328 rfl (lv_at hl 3 rfl) ?_
      refine lv_iload_n hx hb dL_law_1329 rfl (lv_at hl 0 rfl) ?_
      refine lv_iconst (v := 5) hx hb dL_law_1330 (by decide) ?_
      refine lv_iadd hx hb dL_law_1331 ?_
      refine xl_i (y := nI (i + 5)) (nI_add i 5) ?_
      refine va_sld hx hb hX hbl hbA hS (x_si (k := 5) (by decide) hi hL) dL_law_1332 ?_
      refine xl_i (y := xs (i + 5)) (congrArg xs (x_sc (k := 5) (by decide) hi hL)) ?_
      refine xc_ViT (wr := [(qz, .inl (cS, 4, .inr (.inr (.inr (.inr (xSh s0 s1 s2 s3)))))), (s0, .inr (4, [.int bt0, .int (nI (sz0)), .ref sn0])), (s1, .inr (4, [.int bt1, .int (nI (sz1)), .ref sn1])), (s2, .inr (4, [.int bt2, .int (nI (sz2)), .ref sn2])), (s3, .inr (4, [.int bt3, .int (nI (sz3)), .ref sn3])), (sn0, .inl (cJ, 40, .inr (.inl nu0))), (sn1, .inl (cJ, 40, .inr (.inl nu1))), (sn2, .inl (cJ, 40, .inr (.inl nu2))), (sn3, .inl (cJ, 40, .inr (.inl nu3))), (m_ybi, .inl (cI, 4, .inl m_bi)), (m_ysi, .inl (cI, 4, .inl m_sq)), (m_ynu, .inl (cJ, 160, .inr (.inl m_nb))), (m_ymo, .inl (cJ, 40, .inr (.inl m_mv9))), (h0, .inr (8, [.ref qh, .ref qk, .ref qd, .int b0, .ref qa, .ref qm, .ref qs, .ref qp, .ref ql, .ref qt, .ref qz, .ref qf])), (qf, .inl (cI, 7, .inl f2_2))]) hF (c_X9_copy_o l D cI cJ cZ cS ta sa sv H.size g0 m_ys m_yk m_yo m_yt b0 m_yfa m_yfe m_mL m_mS m_mM m_yro m_yhe m_ygr m_mF m_mC m_mY m_yta z m_mf m_mt m_mv m_mw m_ywa m_ybi m_ysi m_ynu m_ymo m_mq (xs (i + 1)) (xs (i + 2)) (xs (i + 3)) (xs (i + 4)) (xs (i + 5)) oq1) kv_L_170 ⟨rfl, rfl, Nat.le_of_ble_eq_true rfl, Nat.le_of_ble_eq_true rfl⟩ ⟨Nat.le_of_ble_eq_true rfl, Nat.le_of_ble_eq_true rfl⟩ hK hN hZ hP hD hS hA [9, 10] [0, 1, 2, 3, 4, 5, 6, 7, 8, 11, 12, 13, 14, 15, 16] rfl rfl rfl (by decide +kernel) (by decide +kernel) 0 rfl rfl rfl rfl hl.1 rfl (Nat.le_of_ble_eq_true rfl) dL_law_1333 (fun r_3 u_r_3 H locs hw_r_3 hP hD hS => ?_)
      obtain ⟨mq2_4, rfl⟩ : ∃ z, z = u_r_3 := ⟨_, rfl⟩
      try dsimp only at hw_r_3
      have hP : va_P D vwCl (@HAppend.hAppend va_W va_W va_W _ [(qz, .inl (cS, 4, .inr (.inr (.inr (.inr (xSh s0 s1 s2 s3)))))), (s0, .inr (4, [.int bt0, .int (nI (sz0)), .ref sn0])), (s1, .inr (4, [.int bt1, .int (nI (sz1)), .ref sn1])), (s2, .inr (4, [.int bt2, .int (nI (sz2)), .ref sn2])), (s3, .inr (4, [.int bt3, .int (nI (sz3)), .ref sn3])), (sn0, .inl (cJ, 40, .inr (.inl nu0))), (sn1, .inl (cJ, 40, .inr (.inl nu1))), (sn2, .inl (cJ, 40, .inr (.inl nu2))), (sn3, .inl (cJ, 40, .inr (.inl nu3))), (m_ybi, .inl (cI, 4, .inl m_bi)), (m_ysi, .inl (cI, 4, .inl m_sq)), (m_ynu, .inl (cJ, 160, .inr (.inl m_nb))), (m_ymo, .inl (cJ, 40, .inr (.inl m_mv9))), (h0, .inr (8, [.ref qh, .ref qk, .ref qd, .int b0, .ref qa, .ref qm, .ref qs, .ref qp, .ref ql, .ref qt, .ref qz, .ref qf])), (qf, .inl (cI, 7, .inl f2_2)), (g0, .inr (9, [.ref m_ys, .ref m_yk, .ref m_yo, .ref m_yt, .int b0, .ref m_yfa, .ref m_yfe, .int m_mL, .int m_mS, .int m_mM, .ref m_yro, .ref m_yhe, .ref m_ygr, .int m_mF, .int m_mC, .int m_mY, .ref m_yta, .int (nI (z)), .int (nI (m_mf)), .int (nI (m_mt)), .int m_mv, .int m_mw, .ref m_ywa, .ref m_ybi, .ref m_ysi, .ref m_ynu, .ref m_ymo])), (m_yt, .inl (cI, 7, .inl mq2_4))] tl) H := hP
      have hD : va_D A (@HAppend.hAppend va_W va_W va_W _ [(qz, .inl (cS, 4, .inr (.inr (.inr (.inr (xSh s0 s1 s2 s3)))))), (s0, .inr (4, [.int bt0, .int (nI (sz0)), .ref sn0])), (s1, .inr (4, [.int bt1, .int (nI (sz1)), .ref sn1])), (s2, .inr (4, [.int bt2, .int (nI (sz2)), .ref sn2])), (s3, .inr (4, [.int bt3, .int (nI (sz3)), .ref sn3])), (sn0, .inl (cJ, 40, .inr (.inl nu0))), (sn1, .inl (cJ, 40, .inr (.inl nu1))), (sn2, .inl (cJ, 40, .inr (.inl nu2))), (sn3, .inl (cJ, 40, .inr (.inl nu3))), (m_ybi, .inl (cI, 4, .inl m_bi)), (m_ysi, .inl (cI, 4, .inl m_sq)), (m_ynu, .inl (cJ, 160, .inr (.inl m_nb))), (m_ymo, .inl (cJ, 40, .inr (.inl m_mv9))), (h0, .inr (8, [.ref qh, .ref qk, .ref qd, .int b0, .ref qa, .ref qm, .ref qs, .ref qp, .ref ql, .ref qt, .ref qz, .ref qf])), (qf, .inl (cI, 7, .inl f2_2)), (g0, .inr (9, [.ref m_ys, .ref m_yk, .ref m_yo, .ref m_yt, .int b0, .ref m_yfa, .ref m_yfe, .int m_mL, .int m_mS, .int m_mM, .ref m_yro, .ref m_yhe, .ref m_ygr, .int m_mF, .int m_mC, .int m_mY, .ref m_yta, .int (nI (z)), .int (nI (m_mf)), .int (nI (m_mt)), .int m_mv, .int m_mw, .ref m_ywa, .ref m_ybi, .ref m_ysi, .ref m_ynu, .ref m_ymo])), (m_yt, .inl (cI, 7, .inl mq2_4))] tl) := hD
      subst hw_r_3
      refine lv_icmp_eq (tgt := 1482) hx hb dL_law_1336 (by decide) (fun c_5 => ?_) (fun c_5 => absurd (by decide) c_5)
      exact kkx _ _ _ nu0 nu1 nu2 nu3 f2_2 mq2_4 m_nb m_mv9 (xt_P hP [13, 0, 1, 2, 3, 4, 5, 6, 7, 8, 14, 15, 16, 9, 10, 11, 12] rfl) (xt_D hD [13, 0, 1, 2, 3, 4, 5, 6, 7, 8, 14, 15, 16, 9, 10, 11, 12] (by decide +kernel) rfl) r_n0 r_n1 r_n2 r_n3 hS hl
    · skip
      refine lv_aload_n hx hb dL_law_1279 rfl (lv_at hl 3 rfl) ?_
      refine lv_iload_n hx hb dL_law_1280 rfl (lv_at hl 0 rfl) ?_
      refine lv_iconst (v := 1) hx hb dL_law_1281 (by decide) ?_
      refine lv_iadd hx hb dL_law_1282 ?_
      refine xl_i (y := nI (i + 1)) (nI_add i 1) ?_
      refine va_sld hx hb hX hbl hbA hS (x_si (k := 1) (by decide) hi hL) dL_law_1283 ?_
      refine xl_i (y := xs (i + 1)) (congrArg xs (x_sc (k := 1) (by decide) hi hL)) ?_
      refine lv_aload_n hx hb dL_law_1284 rfl (lv_at hl 3 rfl) ?_
      refine lv_iload_n hx hb dL_law_1285 rfl (lv_at hl 0 rfl) ?_
      refine lv_iconst (v := 2) hx hb dL_law_1286 (by decide) ?_
      refine lv_iadd hx hb dL_law_1287 ?_
      refine xl_i (y := nI (i + 2)) (nI_add i 2) ?_
      refine va_sld hx hb hX hbl hbA hS (x_si (k := 2) (by decide) hi hL) dL_law_1288 ?_
      refine xl_i (y := xs (i + 2)) (congrArg xs (x_sc (k := 2) (by decide) hi hL)) ?_
      refine lv_aload_n hx hb dL_law_1289 rfl (lv_at hl 3 rfl) ?_
      refine lv_iload_n hx hb dL_law_1290 rfl (lv_at hl 0 rfl) ?_
      refine lv_iconst (v := 3) hx hb dL_law_1291 (by decide) ?_
      refine lv_iadd hx hb dL_law_1292 ?_
      refine xl_i (y := nI (i + 3)) (nI_add i 3) ?_
      refine va_sld hx hb hX hbl hbA hS (x_si (k := 3) (by decide) hi hL) dL_law_1293 ?_
      refine xl_i (y := xs (i + 3)) (congrArg xs (x_sc (k := 3) (by decide) hi hL)) ?_
      refine xl_i (y := 0) eq3 ?_
      refine lv_aload_n hx hb dL_law_1294 rfl (lv_at hl 3 rfl) ?_
      refine lv_iload_n hx hb dL_law_1295 rfl (lv_at hl 0 rfl) ?_
      refine lv_iconst (v := 4) hx hb dL_law_1296 (by decide) ?_
      refine lv_iadd hx hb dL_law_1297 ?_
      refine xl_i (y := nI (i + 4)) (nI_add i 4) ?_
      refine va_sld hx hb hX hbl hbA hS (x_si (k := 4) (by decide) hi hL) dL_law_1298 ?_
      refine xl_i (y := xs (i + 4)) (congrArg xs (x_sc (k := 4) (by decide) hi hL)) ?_
      refine lv_aload_n hx hb dL_law_1299 rfl (lv_at hl 3 rfl) ?_
      refine lv_iload_n hx hb dL_law_1300 rfl (lv_at hl 0 rfl) ?_
      refine lv_iconst (v := 5) hx hb dL_law_1301 (by decide) ?_
      refine lv_iadd hx hb dL_law_1302 ?_
      refine xl_i (y := nI (i + 5)) (nI_add i 5) ?_
      refine va_sld hx hb hX hbl hbA hS (x_si (k := 5) (by decide) hi hL) dL_law_1303 ?_
      refine xl_i (y := xs (i + 5)) (congrArg xs (x_sc (k := 5) (by decide) hi hL)) ?_
      refine xc_ViT (wr := [(qz, .inl (cS, 4, .inr (.inr (.inr (.inr (xSh s0 s1 s2 s3)))))), (s0, .inr (4, [.int bt0, .int (nI (sz0)), .ref sn0])), (s1, .inr (4, [.int bt1, .int (nI (sz1)), .ref sn1])), (s2, .inr (4, [.int bt2, .int (nI (sz2)), .ref sn2])), (s3, .inr (4, [.int bt3, .int (nI (sz3)), .ref sn3])), (sn0, .inl (cJ, 40, .inr (.inl nu0))), (sn1, .inl (cJ, 40, .inr (.inl nu1))), (sn2, .inl (cJ, 40, .inr (.inl nu2))), (sn3, .inl (cJ, 40, .inr (.inl nu3))), (g0, .inr (9, [.ref m_ys, .ref m_yk, .ref m_yo, .ref m_yt, .int b0, .ref m_yfa, .ref m_yfe, .int m_mL, .int m_mS, .int m_mM, .ref m_yro, .ref m_yhe, .ref m_ygr, .int m_mF, .int m_mC, .int m_mY, .ref m_yta, .int (nI (z)), .int (nI (m_mf)), .int (nI (m_mt)), .int m_mv, .int m_mw, .ref m_ywa, .ref m_ybi, .ref m_ysi, .ref m_ynu, .ref m_ymo])), (m_yt, .inl (cI, 7, .inl m_mq)), (m_ybi, .inl (cI, 4, .inl m_bi)), (m_ysi, .inl (cI, 4, .inl m_sq)), (m_ynu, .inl (cJ, 160, .inr (.inl m_nb))), (m_ymo, .inl (cJ, 40, .inr (.inl m_mv9)))]) hF (c_X8_copy_o l D cI cJ cZ cS ta sa sv H.size h0 qh qk qd b0 qa qm qs qp ql qt qz qf ff (xs (i + 1)) (xs (i + 2)) 0 (xs (i + 4)) (xs (i + 5)) oq1) kv_L_166 ⟨rfl, rfl, Nat.le_of_ble_eq_true rfl, Nat.le_of_ble_eq_true rfl⟩ ⟨Nat.le_of_ble_eq_true rfl, Nat.le_of_ble_eq_true rfl⟩ hK hN hZ hP hD hS hA [0, 10] [1, 2, 3, 4, 5, 6, 7, 8, 9, 11, 12, 13, 14, 15, 16] rfl rfl rfl (by decide +kernel) (by decide +kernel) 0 rfl rfl rfl rfl hl.1 rfl (Nat.le_of_ble_eq_true rfl) dL_law_1304 (fun r_6 u_r_6 H locs hw_r_6 hP hD hS => ?_)
      obtain ⟨f2_7, rfl⟩ : ∃ z, z = u_r_6 := ⟨_, rfl⟩
      try dsimp only at hw_r_6
      have hP : va_P D vwCl (@HAppend.hAppend va_W va_W va_W _ [(qz, .inl (cS, 4, .inr (.inr (.inr (.inr (xSh s0 s1 s2 s3)))))), (s0, .inr (4, [.int bt0, .int (nI (sz0)), .ref sn0])), (s1, .inr (4, [.int bt1, .int (nI (sz1)), .ref sn1])), (s2, .inr (4, [.int bt2, .int (nI (sz2)), .ref sn2])), (s3, .inr (4, [.int bt3, .int (nI (sz3)), .ref sn3])), (sn0, .inl (cJ, 40, .inr (.inl nu0))), (sn1, .inl (cJ, 40, .inr (.inl nu1))), (sn2, .inl (cJ, 40, .inr (.inl nu2))), (sn3, .inl (cJ, 40, .inr (.inl nu3))), (g0, .inr (9, [.ref m_ys, .ref m_yk, .ref m_yo, .ref m_yt, .int b0, .ref m_yfa, .ref m_yfe, .int m_mL, .int m_mS, .int m_mM, .ref m_yro, .ref m_yhe, .ref m_ygr, .int m_mF, .int m_mC, .int m_mY, .ref m_yta, .int (nI (z)), .int (nI (m_mf)), .int (nI (m_mt)), .int m_mv, .int m_mw, .ref m_ywa, .ref m_ybi, .ref m_ysi, .ref m_ynu, .ref m_ymo])), (m_yt, .inl (cI, 7, .inl m_mq)), (m_ybi, .inl (cI, 4, .inl m_bi)), (m_ysi, .inl (cI, 4, .inl m_sq)), (m_ynu, .inl (cJ, 160, .inr (.inl m_nb))), (m_ymo, .inl (cJ, 40, .inr (.inl m_mv9))), (h0, .inr (8, [.ref qh, .ref qk, .ref qd, .int b0, .ref qa, .ref qm, .ref qs, .ref qp, .ref ql, .ref qt, .ref qz, .ref qf])), (qf, .inl (cI, 7, .inl f2_7))] tl) H := hP
      have hD : va_D A (@HAppend.hAppend va_W va_W va_W _ [(qz, .inl (cS, 4, .inr (.inr (.inr (.inr (xSh s0 s1 s2 s3)))))), (s0, .inr (4, [.int bt0, .int (nI (sz0)), .ref sn0])), (s1, .inr (4, [.int bt1, .int (nI (sz1)), .ref sn1])), (s2, .inr (4, [.int bt2, .int (nI (sz2)), .ref sn2])), (s3, .inr (4, [.int bt3, .int (nI (sz3)), .ref sn3])), (sn0, .inl (cJ, 40, .inr (.inl nu0))), (sn1, .inl (cJ, 40, .inr (.inl nu1))), (sn2, .inl (cJ, 40, .inr (.inl nu2))), (sn3, .inl (cJ, 40, .inr (.inl nu3))), (g0, .inr (9, [.ref m_ys, .ref m_yk, .ref m_yo, .ref m_yt, .int b0, .ref m_yfa, .ref m_yfe, .int m_mL, .int m_mS, .int m_mM, .ref m_yro, .ref m_yhe, .ref m_ygr, .int m_mF, .int m_mC, .int m_mY, .ref m_yta, .int (nI (z)), .int (nI (m_mf)), .int (nI (m_mt)), .int m_mv, .int m_mw, .ref m_ywa, .ref m_ybi, .ref m_ysi, .ref m_ynu, .ref m_ymo])), (m_yt, .inl (cI, 7, .inl m_mq)), (m_ybi, .inl (cI, 4, .inl m_bi)), (m_ysi, .inl (cI, 4, .inl m_sq)), (m_ynu, .inl (cJ, 160, .inr (.inl m_nb))), (m_ymo, .inl (cJ, 40, .inr (.inl m_mv9))), (h0, .inr (8, [.ref qh, .ref qk, .ref qd, .int b0, .ref qa, .ref qm, .ref qs, .ref qp, .ref ql, .ref qt, .ref qz, .ref qf])), (qf, .inl (cI, 7, .inl f2_7))] tl) := hD
      subst hw_r_6
      refine lv_aload_n hx hb dL_law_1307 rfl (lv_at hl 1 rfl) ?_
      refine lv_aload_n hx hb dL_law_1308 rfl (lv_at hl 3 rfl) ?_
      refine lv_iload_n hx hb dL_law_1309 rfl (lv_at hl 0 rfl) ?_
      refine lv_iconst (v := 1) hx hb dL_law_1310 (by decide) ?_
      refine lv_iadd hx hb dL_law_1311 ?_
      refine xl_i (y := nI (i + 1)) (nI_add i 1) ?_
      refine va_sld hx hb hX hbl hbA hS (x_si (k := 1) (by decide) hi hL) dL_law_1312 ?_
      refine xl_i (y := xs (i + 1)) (congrArg xs (x_sc (k := 1) (by decide) hi hL)) ?_
      refine lv_aload_n hx hb dL_law_1313 rfl (lv_at hl 3 rfl) ?_
      refine lv_iload_n hx hb dL_law_1314 rfl (lv_at hl 0 rfl) ?_
      refine lv_iconst (v := 2) hx hb dL_law_1315 (by decide) ?_
      refine lv_iadd hx hb dL_law_1316 ?_
      refine xl_i (y := nI (i + 2)) (nI_add i 2) ?_
      refine va_sld hx hb hX hbl hbA hS (x_si (k := 2) (by decide) hi hL) dL_law_1317 ?_
      refine xl_i (y := xs (i + 2)) (congrArg xs (x_sc (k := 2) (by decide) hi hL)) ?_
      refine lv_aload_n hx hb dL_law_1318 rfl (lv_at hl 3 rfl) ?_
      refine lv_iload_n hx hb dL_law_1319 rfl (lv_at hl 0 rfl) ?_
      refine lv_iconst (v := 3) hx hb dL_law_1320 (by decide) ?_
      refine lv_iadd hx hb dL_law_1321 ?_
      refine xl_i (y := nI (i + 3)) (nI_add i 3) ?_
      refine va_sld hx hb hX hbl hbA hS (x_si (k := 3) (by decide) hi hL) dL_law_1322 ?_
      refine xl_i (y := xs (i + 3)) (congrArg xs (x_sc (k := 3) (by decide) hi hL)) ?_
      refine xl_i (y := 0) eq3 ?_
      refine lv_aload_n hx hb dL_law_1323 rfl (lv_at hl 3 rfl) ?_
      refine lv_iload_n hx hb dL_law_1324 rfl (lv_at hl 0 rfl) ?_
      refine lv_iconst (v := 4) hx hb dL_law_1325 (by decide) ?_
      refine lv_iadd hx hb dL_law_1326 ?_
      refine xl_i (y := nI (i + 4)) (nI_add i 4) ?_
      refine va_sld hx hb hX hbl hbA hS (x_si (k := 4) (by decide) hi hL) dL_law_1327 ?_
      refine xl_i (y := xs (i + 4)) (congrArg xs (x_sc (k := 4) (by decide) hi hL)) ?_
      refine lv_aload_n hx hb dL_law_1328 rfl (lv_at hl 3 rfl) ?_
      refine lv_iload_n hx hb dL_law_1329 rfl (lv_at hl 0 rfl) ?_
      refine lv_iconst (v := 5) hx hb dL_law_1330 (by decide) ?_
      refine lv_iadd hx hb dL_law_1331 ?_
      refine xl_i (y := nI (i + 5)) (nI_add i 5) ?_
      refine va_sld hx hb hX hbl hbA hS (x_si (k := 5) (by decide) hi hL) dL_law_1332 ?_
      refine xl_i (y := xs (i + 5)) (congrArg xs (x_sc (k := 5) (by decide) hi hL)) ?_
      refine xc_ViT (wr := [(qz, .inl (cS, 4, .inr (.inr (.inr (.inr (xSh s0 s1 s2 s3)))))), (s0, .inr (4, [.int bt0, .int (nI (sz0)), .ref sn0])), (s1, .inr (4, [.int bt1, .int (nI (sz1)), .ref sn1])), (s2, .inr (4, [.int bt2, .int (nI (sz2)), .ref sn2])), (s3, .inr (4, [.int bt3, .int (nI (sz3)), .ref sn3])), (sn0, .inl (cJ, 40, .inr (.inl nu0))), (sn1, .inl (cJ, 40, .inr (.inl nu1))), (sn2, .inl (cJ, 40, .inr (.inl nu2))), (sn3, .inl (cJ, 40, .inr (.inl nu3))), (m_ybi, .inl (cI, 4, .inl m_bi)), (m_ysi, .inl (cI, 4, .inl m_sq)), (m_ynu, .inl (cJ, 160, .inr (.inl m_nb))), (m_ymo, .inl (cJ, 40, .inr (.inl m_mv9))), (h0, .inr (8, [.ref qh, .ref qk, .ref qd, .int b0, .ref qa, .ref qm, .ref qs, .ref qp, .ref ql, .ref qt, .ref qz, .ref qf])), (qf, .inl (cI, 7, .inl f2_7))]) hF (c_X9_copy_o l D cI cJ cZ cS ta sa sv H.size g0 m_ys m_yk m_yo m_yt b0 m_yfa m_yfe m_mL m_mS m_mM m_yro m_yhe m_ygr m_mF m_mC m_mY m_yta z m_mf m_mt m_mv m_mw m_ywa m_ybi m_ysi m_ynu m_ymo m_mq (xs (i + 1)) (xs (i + 2)) 0 (xs (i + 4)) (xs (i + 5)) oq1) kv_L_170 ⟨rfl, rfl, Nat.le_of_ble_eq_true rfl, Nat.le_of_ble_eq_true rfl⟩ ⟨Nat.le_of_ble_eq_true rfl, Nat.le_of_ble_eq_true rfl⟩ hK hN hZ hP hD hS hA [9, 10] [0, 1, 2, 3, 4, 5, 6, 7, 8, 11, 12, 13, 14, 15, 16] rfl rfl rfl (by decide +kernel) (by decide +kernel) 0 rfl rfl rfl rfl hl.1 rfl (Nat.le_of_ble_eq_true rfl) dL_law_1333 (fun r_8 u_r_8 H locs hw_r_8 hP hD hS => ?_)
      obtain ⟨mq2_9, rfl⟩ : ∃ z, z = u_r_8 := ⟨_, rfl⟩
      try dsimp only at hw_r_8
      have hP : va_P D vwCl (@HAppend.hAppend va_W va_W va_W _ [(qz, .inl (cS, 4, .inr (.inr (.inr (.inr (xSh s0 s1 s2 s3)))))), (s0, .inr (4, [.int bt0, .int (nI (sz0)), .ref sn0])), (s1, .inr (4, [.int bt1, .int (nI (sz1)), .ref sn1])), (s2, .inr (4, [.int bt2, .int (nI (sz2)), .ref sn2])), (s3, .inr (4, [.int bt3, .int (nI (sz3)), .ref sn3])), (sn0, .inl (cJ, 40, .inr (.inl nu0))), (sn1, .inl (cJ, 40, .inr (.inl nu1))), (sn2, .inl (cJ, 40, .inr (.inl nu2))), (sn3, .inl (cJ, 40, .inr (.inl nu3))), (m_ybi, .inl (cI, 4, .inl m_bi)), (m_ysi, .inl (cI, 4, .inl m_sq)), (m_ynu, .inl (cJ, 160, .inr (.inl m_nb))), (m_ymo, .inl (cJ, 40, .inr (.inl m_mv9))), (h0, .inr (8, [.ref qh, .ref qk, .ref qd, .int b0, .ref qa, .ref qm, .ref qs, .ref qp, .ref ql, .ref qt, .ref qz, .ref qf])), (qf, .inl (cI, 7, .inl f2_7)), (g0, .inr (9, [.ref m_ys, .ref m_yk, .ref m_yo, .ref m_yt, .int b0, .ref m_yfa, .ref m_yfe, .int m_mL, .int m_mS, .int m_mM, .ref m_yro, .ref m_yhe, .ref m_ygr, .int m_mF, .int m_mC, .int m_mY, .ref m_yta, .int (nI (z)), .int (nI (m_mf)), .int (nI (m_mt)), .int m_mv, .int m_mw, .ref m_ywa, .ref m_ybi, .ref m_ysi, .ref m_ynu, .ref m_ymo])), (m_yt, .inl (cI, 7, .inl mq2_9))] tl) H := hP
      have hD : va_D A (@HAppend.hAppend va_W va_W va_W _ [(qz, .inl (cS, 4, .inr (.inr (.inr (.inr (xSh s0 s1 s2 s3)))))), (s0, .inr (4, [.int bt0, .int (nI (sz0)), .ref sn0])), (s1, .inr (4, [.int bt1, .int (nI (sz1)), .ref sn1])), (s2, .inr (4, [.int bt2, .int (nI (sz2)), .ref sn2])), (s3, .inr (4, [.int bt3, .int (nI (sz3)), .ref sn3])), (sn0, .inl (cJ, 40, .inr (.inl nu0))), (sn1, .inl (cJ, 40, .inr (.inl nu1))), (sn2, .inl (cJ, 40, .inr (.inl nu2))), (sn3, .inl (cJ, 40, .inr (.inl nu3))), (m_ybi, .inl (cI, 4, .inl m_bi)), (m_ysi, .inl (cI, 4, .inl m_sq)), (m_ynu, .inl (cJ, 160, .inr (.inl m_nb))), (m_ymo, .inl (cJ, 40, .inr (.inl m_mv9))), (h0, .inr (8, [.ref qh, .ref qk, .ref qd, .int b0, .ref qa, .ref qm, .ref qs, .ref qp, .ref ql, .ref qt, .ref qz, .ref qf])), (qf, .inl (cI, 7, .inl f2_7)), (g0, .inr (9, [.ref m_ys, .ref m_yk, .ref m_yo, .ref m_yt, .int b0, .ref m_yfa, .ref m_yfe, .int m_mL, .int m_mS, .int m_mM, .ref m_yro, .ref m_yhe, .ref m_ygr, .int m_mF, .int m_mC, .int m_mY, .ref m_yta, .int (nI (z)), .int (nI (m_mf)), .int (nI (m_mt)), .int m_mv, .int m_mw, .ref m_ywa, .ref m_ybi, .ref m_ysi, .ref m_ynu, .ref m_ymo])), (m_yt, .inl (cI, 7, .inl mq2_9))] tl) := hD
      subst hw_r_8
      refine lv_icmp_eq (tgt := 1482) hx hb dL_law_1336 (by decide) (fun c_10 => ?_) (fun c_10 => absurd (by decide) c_10)
      exact kkx _ _ _ nu0 nu1 nu2 nu3 f2_7 mq2_9 m_nb m_mv9 (xt_P hP [13, 0, 1, 2, 3, 4, 5, 6, 7, 8, 14, 15, 16, 9, 10, 11, 12] rfl) (xt_D hD [13, 0, 1, 2, 3, 4, 5, 6, 7, 8, 14, 15, 16, 9, 10, 11, 12] (by decide +kernel) rfl) r_n0 r_n1 r_n2 r_n3 hS hl
    · skip
      refine lv_aload_n hx hb dL_law_1279 rfl (lv_at hl 3 rfl) ?_
      refine lv_iload_n hx hb dL_law_1280 rfl (lv_at hl 0 rfl) ?_
      refine lv_iconst (v := 1) hx hb dL_law_1281 (by decide) ?_
      refine lv_iadd hx hb dL_law_1282 ?_
      refine xl_i (y := nI (i + 1)) (nI_add i 1) ?_
      refine va_sld hx hb hX hbl hbA hS (x_si (k := 1) (by decide) hi hL) dL_law_1283 ?_
      refine xl_i (y := xs (i + 1)) (congrArg xs (x_sc (k := 1) (by decide) hi hL)) ?_
      refine lv_aload_n hx hb dL_law_1284 rfl (lv_at hl 3 rfl) ?_
      refine lv_iload_n hx hb dL_law_1285 rfl (lv_at hl 0 rfl) ?_
      refine lv_iconst (v := 2) hx hb dL_law_1286 (by decide) ?_
      refine lv_iadd hx hb dL_law_1287 ?_
      refine xl_i (y := nI (i + 2)) (nI_add i 2) ?_
      refine va_sld hx hb hX hbl hbA hS (x_si (k := 2) (by decide) hi hL) dL_law_1288 ?_
      refine xl_i (y := xs (i + 2)) (congrArg xs (x_sc (k := 2) (by decide) hi hL)) ?_
      refine lv_aload_n hx hb dL_law_1289 rfl (lv_at hl 3 rfl) ?_
      refine lv_iload_n hx hb dL_law_1290 rfl (lv_at hl 0 rfl) ?_
      refine lv_iconst (v := 3) hx hb dL_law_1291 (by decide) ?_
      refine lv_iadd hx hb dL_law_1292 ?_
      refine xl_i (y := nI (i + 3)) (nI_add i 3) ?_
      refine va_sld hx hb hX hbl hbA hS (x_si (k := 3) (by decide) hi hL) dL_law_1293 ?_
      refine xl_i (y := xs (i + 3)) (congrArg xs (x_sc (k := 3) (by decide) hi hL)) ?_
      refine xl_i (y := 1) eq3 ?_
      refine lv_aload_n hx hb dL_law_1294 rfl (lv_at hl 3 rfl) ?_
      refine lv_iload_n hx hb dL_law_1295 rfl (lv_at hl 0 rfl) ?_
      refine lv_iconst (v := 4) hx hb dL_law_1296 (by decide) ?_
      refine lv_iadd hx hb dL_law_1297 ?_
      refine xl_i (y := nI (i + 4)) (nI_add i 4) ?_
      refine va_sld hx hb hX hbl hbA hS (x_si (k := 4) (by decide) hi hL) dL_law_1298 ?_
      refine xl_i (y := xs (i + 4)) (congrArg xs (x_sc (k := 4) (by decide) hi hL)) ?_
      refine lv_aload_n hx hb dL_law_1299 rfl (lv_at hl 3 rfl) ?_
      refine lv_iload_n hx hb dL_law_1300 rfl (lv_at hl 0 rfl) ?_
      refine lv_iconst (v := 5) hx hb dL_law_1301 (by decide) ?_
      refine lv_iadd hx hb dL_law_1302 ?_
      refine xl_i (y := nI (i + 5)) (nI_add i 5) ?_
      refine va_sld hx hb hX hbl hbA hS (x_si (k := 5) (by decide) hi hL) dL_law_1303 ?_
      refine xl_i (y := xs (i + 5)) (congrArg xs (x_sc (k := 5) (by decide) hi hL)) ?_
      refine xc_ViT (wr := [(qz, .inl (cS, 4, .inr (.inr (.inr (.inr (xSh s0 s1 s2 s3)))))), (s0, .inr (4, [.int bt0, .int (nI (sz0)), .ref sn0])), (s1, .inr (4, [.int bt1, .int (nI (sz1)), .ref sn1])), (s2, .inr (4, [.int bt2, .int (nI (sz2)), .ref sn2])), (s3, .inr (4, [.int bt3, .int (nI (sz3)), .ref sn3])), (sn0, .inl (cJ, 40, .inr (.inl nu0))), (sn1, .inl (cJ, 40, .inr (.inl nu1))), (sn2, .inl (cJ, 40, .inr (.inl nu2))), (sn3, .inl (cJ, 40, .inr (.inl nu3))), (g0, .inr (9, [.ref m_ys, .ref m_yk, .ref m_yo, .ref m_yt, .int b0, .ref m_yfa, .ref m_yfe, .int m_mL, .int m_mS, .int m_mM, .ref m_yro, .ref m_yhe, .ref m_ygr, .int m_mF, .int m_mC, .int m_mY, .ref m_yta, .int (nI (z)), .int (nI (m_mf)), .int (nI (m_mt)), .int m_mv, .int m_mw, .ref m_ywa, .ref m_ybi, .ref m_ysi, .ref m_ynu, .ref m_ymo])), (m_yt, .inl (cI, 7, .inl m_mq)), (m_ybi, .inl (cI, 4, .inl m_bi)), (m_ysi, .inl (cI, 4, .inl m_sq)), (m_ynu, .inl (cJ, 160, .inr (.inl m_nb))), (m_ymo, .inl (cJ, 40, .inr (.inl m_mv9)))]) hF (c_X8_copy_o l D cI cJ cZ cS ta sa sv H.size h0 qh qk qd b0 qa qm qs qp ql qt qz qf ff (xs (i + 1)) (xs (i + 2)) 1 (xs (i + 4)) (xs (i + 5)) oq1) kv_L_166 ⟨rfl, rfl, Nat.le_of_ble_eq_true rfl, Nat.le_of_ble_eq_true rfl⟩ ⟨Nat.le_of_ble_eq_true rfl, Nat.le_of_ble_eq_true rfl⟩ hK hN hZ hP hD hS hA [0, 10] [1, 2, 3, 4, 5, 6, 7, 8, 9, 11, 12, 13, 14, 15, 16] rfl rfl rfl (by decide +kernel) (by decide +kernel) 0 rfl rfl rfl rfl hl.1 rfl (Nat.le_of_ble_eq_true rfl) dL_law_1304 (fun r_11 u_r_11 H locs hw_r_11 hP hD hS => ?_)
      obtain ⟨f2_12, rfl⟩ : ∃ z, z = u_r_11 := ⟨_, rfl⟩
      try dsimp only at hw_r_11
      have hP : va_P D vwCl (@HAppend.hAppend va_W va_W va_W _ [(qz, .inl (cS, 4, .inr (.inr (.inr (.inr (xSh s0 s1 s2 s3)))))), (s0, .inr (4, [.int bt0, .int (nI (sz0)), .ref sn0])), (s1, .inr (4, [.int bt1, .int (nI (sz1)), .ref sn1])), (s2, .inr (4, [.int bt2, .int (nI (sz2)), .ref sn2])), (s3, .inr (4, [.int bt3, .int (nI (sz3)), .ref sn3])), (sn0, .inl (cJ, 40, .inr (.inl nu0))), (sn1, .inl (cJ, 40, .inr (.inl nu1))), (sn2, .inl (cJ, 40, .inr (.inl nu2))), (sn3, .inl (cJ, 40, .inr (.inl nu3))), (g0, .inr (9, [.ref m_ys, .ref m_yk, .ref m_yo, .ref m_yt, .int b0, .ref m_yfa, .ref m_yfe, .int m_mL, .int m_mS, .int m_mM, .ref m_yro, .ref m_yhe, .ref m_ygr, .int m_mF, .int m_mC, .int m_mY, .ref m_yta, .int (nI (z)), .int (nI (m_mf)), .int (nI (m_mt)), .int m_mv, .int m_mw, .ref m_ywa, .ref m_ybi, .ref m_ysi, .ref m_ynu, .ref m_ymo])), (m_yt, .inl (cI, 7, .inl m_mq)), (m_ybi, .inl (cI, 4, .inl m_bi)), (m_ysi, .inl (cI, 4, .inl m_sq)), (m_ynu, .inl (cJ, 160, .inr (.inl m_nb))), (m_ymo, .inl (cJ, 40, .inr (.inl m_mv9))), (h0, .inr (8, [.ref qh, .ref qk, .ref qd, .int b0, .ref qa, .ref qm, .ref qs, .ref qp, .ref ql, .ref qt, .ref qz, .ref qf])), (qf, .inl (cI, 7, .inl f2_12))] tl) H := hP
      have hD : va_D A (@HAppend.hAppend va_W va_W va_W _ [(qz, .inl (cS, 4, .inr (.inr (.inr (.inr (xSh s0 s1 s2 s3)))))), (s0, .inr (4, [.int bt0, .int (nI (sz0)), .ref sn0])), (s1, .inr (4, [.int bt1, .int (nI (sz1)), .ref sn1])), (s2, .inr (4, [.int bt2, .int (nI (sz2)), .ref sn2])), (s3, .inr (4, [.int bt3, .int (nI (sz3)), .ref sn3])), (sn0, .inl (cJ, 40, .inr (.inl nu0))), (sn1, .inl (cJ, 40, .inr (.inl nu1))), (sn2, .inl (cJ, 40, .inr (.inl nu2))), (sn3, .inl (cJ, 40, .inr (.inl nu3))), (g0, .inr (9, [.ref m_ys, .ref m_yk, .ref m_yo, .ref m_yt, .int b0, .ref m_yfa, .ref m_yfe, .int m_mL, .int m_mS, .int m_mM, .ref m_yro, .ref m_yhe, .ref m_ygr, .int m_mF, .int m_mC, .int m_mY, .ref m_yta, .int (nI (z)), .int (nI (m_mf)), .int (nI (m_mt)), .int m_mv, .int m_mw, .ref m_ywa, .ref m_ybi, .ref m_ysi, .ref m_ynu, .ref m_ymo])), (m_yt, .inl (cI, 7, .inl m_mq)), (m_ybi, .inl (cI, 4, .inl m_bi)), (m_ysi, .inl (cI, 4, .inl m_sq)), (m_ynu, .inl (cJ, 160, .inr (.inl m_nb))), (m_ymo, .inl (cJ, 40, .inr (.inl m_mv9))), (h0, .inr (8, [.ref qh, .ref qk, .ref qd, .int b0, .ref qa, .ref qm, .ref qs, .ref qp, .ref ql, .ref qt, .ref qz, .ref qf])), (qf, .inl (cI, 7, .inl f2_12))] tl) := hD
      subst hw_r_11
      refine lv_aload_n hx hb dL_law_1307 rfl (lv_at hl 1 rfl) ?_
      refine lv_aload_n hx hb dL_law_1308 rfl (lv_at hl 3 rfl) ?_
      refine lv_iload_n hx hb dL_law_1309 rfl (lv_at hl 0 rfl) ?_
      refine lv_iconst (v := 1) hx hb dL_law_1310 (by decide) ?_
      refine lv_iadd hx hb dL_law_1311 ?_
      refine xl_i (y := nI (i + 1)) (nI_add i 1) ?_
      refine va_sld hx hb hX hbl hbA hS (x_si (k := 1) (by decide) hi hL) dL_law_1312 ?_
      refine xl_i (y := xs (i + 1)) (congrArg xs (x_sc (k := 1) (by decide) hi hL)) ?_
      refine lv_aload_n hx hb dL_law_1313 rfl (lv_at hl 3 rfl) ?_
      refine lv_iload_n hx hb dL_law_1314 rfl (lv_at hl 0 rfl) ?_
      refine lv_iconst (v := 2) hx hb dL_law_1315 (by decide) ?_
      refine lv_iadd hx hb dL_law_1316 ?_
      refine xl_i (y := nI (i + 2)) (nI_add i 2) ?_
      refine va_sld hx hb hX hbl hbA hS (x_si (k := 2) (by decide) hi hL) dL_law_1317 ?_
      refine xl_i (y := xs (i + 2)) (congrArg xs (x_sc (k := 2) (by decide) hi hL)) ?_
      refine lv_aload_n hx hb dL_law_1318 rfl (lv_at hl 3 rfl) ?_
      refine lv_iload_n hx hb dL_law_1319 rfl (lv_at hl 0 rfl) ?_
      refine lv_iconst (v := 3) hx hb dL_law_1320 (by decide) ?_
      refine lv_iadd hx hb dL_law_1321 ?_
      refine xl_i (y := nI (i + 3)) (nI_add i 3) ?_
      refine va_sld hx hb hX hbl hbA hS (x_si (k := 3) (by decide) hi hL) dL_law_1322 ?_
      refine xl_i (y := xs (i + 3)) (congrArg xs (x_sc (k := 3) (by decide) hi hL)) ?_
      refine xl_i (y := 1) eq3 ?_
      refine lv_aload_n hx hb dL_law_1323 rfl (lv_at hl 3 rfl) ?_
      refine lv_iload_n hx hb dL_law_1324 rfl (lv_at hl 0 rfl) ?_
      refine lv_iconst (v := 4) hx hb dL_law_1325 (by decide) ?_
      refine lv_iadd hx hb dL_law_1326 ?_
      refine xl_i (y := nI (i + 4)) (nI_add i 4) ?_
      refine va_sld hx hb hX hbl hbA hS (x_si (k := 4) (by decide) hi hL) dL_law_1327 ?_
      refine xl_i (y := xs (i + 4)) (congrArg xs (x_sc (k := 4) (by decide) hi hL)) ?_
      refine lv_aload_n hx hb dL_law_1328 rfl (lv_at hl 3 rfl) ?_
      refine lv_iload_n hx hb dL_law_1329 rfl (lv_at hl 0 rfl) ?_
      refine lv_iconst (v := 5) hx hb dL_law_1330 (by decide) ?_
      refine lv_iadd hx hb dL_law_1331 ?_
      refine xl_i (y := nI (i + 5)) (nI_add i 5) ?_
      refine va_sld hx hb hX hbl hbA hS (x_si (k := 5) (by decide) hi hL) dL_law_1332 ?_
      refine xl_i (y := xs (i + 5)) (congrArg xs (x_sc (k := 5) (by decide) hi hL)) ?_
      refine xc_ViT (wr := [(qz, .inl (cS, 4, .inr (.inr (.inr (.inr (xSh s0 s1 s2 s3)))))), (s0, .inr (4, [.int bt0, .int (nI (sz0)), .ref sn0])), (s1, .inr (4, [.int bt1, .int (nI (sz1)), .ref sn1])), (s2, .inr (4, [.int bt2, .int (nI (sz2)), .ref sn2])), (s3, .inr (4, [.int bt3, .int (nI (sz3)), .ref sn3])), (sn0, .inl (cJ, 40, .inr (.inl nu0))), (sn1, .inl (cJ, 40, .inr (.inl nu1))), (sn2, .inl (cJ, 40, .inr (.inl nu2))), (sn3, .inl (cJ, 40, .inr (.inl nu3))), (m_ybi, .inl (cI, 4, .inl m_bi)), (m_ysi, .inl (cI, 4, .inl m_sq)), (m_ynu, .inl (cJ, 160, .inr (.inl m_nb))), (m_ymo, .inl (cJ, 40, .inr (.inl m_mv9))), (h0, .inr (8, [.ref qh, .ref qk, .ref qd, .int b0, .ref qa, .ref qm, .ref qs, .ref qp, .ref ql, .ref qt, .ref qz, .ref qf])), (qf, .inl (cI, 7, .inl f2_12))]) hF (c_X9_copy_o l D cI cJ cZ cS ta sa sv H.size g0 m_ys m_yk m_yo m_yt b0 m_yfa m_yfe m_mL m_mS m_mM m_yro m_yhe m_ygr m_mF m_mC m_mY m_yta z m_mf m_mt m_mv m_mw m_ywa m_ybi m_ysi m_ynu m_ymo m_mq (xs (i + 1)) (xs (i + 2)) 1 (xs (i + 4)) (xs (i + 5)) oq1) kv_L_170 ⟨rfl, rfl, Nat.le_of_ble_eq_true rfl, Nat.le_of_ble_eq_true rfl⟩ ⟨Nat.le_of_ble_eq_true rfl, Nat.le_of_ble_eq_true rfl⟩ hK hN hZ hP hD hS hA [9, 10] [0, 1, 2, 3, 4, 5, 6, 7, 8, 11, 12, 13, 14, 15, 16] rfl rfl rfl (by decide +kernel) (by decide +kernel) 0 rfl rfl rfl rfl hl.1 rfl (Nat.le_of_ble_eq_true rfl) dL_law_1333 (fun r_13 u_r_13 H locs hw_r_13 hP hD hS => ?_)
      obtain ⟨mq2_14, rfl⟩ : ∃ z, z = u_r_13 := ⟨_, rfl⟩
      try dsimp only at hw_r_13
      have hP : va_P D vwCl (@HAppend.hAppend va_W va_W va_W _ [(qz, .inl (cS, 4, .inr (.inr (.inr (.inr (xSh s0 s1 s2 s3)))))), (s0, .inr (4, [.int bt0, .int (nI (sz0)), .ref sn0])), (s1, .inr (4, [.int bt1, .int (nI (sz1)), .ref sn1])), (s2, .inr (4, [.int bt2, .int (nI (sz2)), .ref sn2])), (s3, .inr (4, [.int bt3, .int (nI (sz3)), .ref sn3])), (sn0, .inl (cJ, 40, .inr (.inl nu0))), (sn1, .inl (cJ, 40, .inr (.inl nu1))), (sn2, .inl (cJ, 40, .inr (.inl nu2))), (sn3, .inl (cJ, 40, .inr (.inl nu3))), (m_ybi, .inl (cI, 4, .inl m_bi)), (m_ysi, .inl (cI, 4, .inl m_sq)), (m_ynu, .inl (cJ, 160, .inr (.inl m_nb))), (m_ymo, .inl (cJ, 40, .inr (.inl m_mv9))), (h0, .inr (8, [.ref qh, .ref qk, .ref qd, .int b0, .ref qa, .ref qm, .ref qs, .ref qp, .ref ql, .ref qt, .ref qz, .ref qf])), (qf, .inl (cI, 7, .inl f2_12)), (g0, .inr (9, [.ref m_ys, .ref m_yk, .ref m_yo, .ref m_yt, .int b0, .ref m_yfa, .ref m_yfe, .int m_mL, .int m_mS, .int m_mM, .ref m_yro, .ref m_yhe, .ref m_ygr, .int m_mF, .int m_mC, .int m_mY, .ref m_yta, .int (nI (z)), .int (nI (m_mf)), .int (nI (m_mt)), .int m_mv, .int m_mw, .ref m_ywa, .ref m_ybi, .ref m_ysi, .ref m_ynu, .ref m_ymo])), (m_yt, .inl (cI, 7, .inl mq2_14))] tl) H := hP
      have hD : va_D A (@HAppend.hAppend va_W va_W va_W _ [(qz, .inl (cS, 4, .inr (.inr (.inr (.inr (xSh s0 s1 s2 s3)))))), (s0, .inr (4, [.int bt0, .int (nI (sz0)), .ref sn0])), (s1, .inr (4, [.int bt1, .int (nI (sz1)), .ref sn1])), (s2, .inr (4, [.int bt2, .int (nI (sz2)), .ref sn2])), (s3, .inr (4, [.int bt3, .int (nI (sz3)), .ref sn3])), (sn0, .inl (cJ, 40, .inr (.inl nu0))), (sn1, .inl (cJ, 40, .inr (.inl nu1))), (sn2, .inl (cJ, 40, .inr (.inl nu2))), (sn3, .inl (cJ, 40, .inr (.inl nu3))), (m_ybi, .inl (cI, 4, .inl m_bi)), (m_ysi, .inl (cI, 4, .inl m_sq)), (m_ynu, .inl (cJ, 160, .inr (.inl m_nb))), (m_ymo, .inl (cJ, 40, .inr (.inl m_mv9))), (h0, .inr (8, [.ref qh, .ref qk, .ref qd, .int b0, .ref qa, .ref qm, .ref qs, .ref qp, .ref ql, .ref qt, .ref qz, .ref qf])), (qf, .inl (cI, 7, .inl f2_12)), (g0, .inr (9, [.ref m_ys, .ref m_yk, .ref m_yo, .ref m_yt, .int b0, .ref m_yfa, .ref m_yfe, .int m_mL, .int m_mS, .int m_mM, .ref m_yro, .ref m_yhe, .ref m_ygr, .int m_mF, .int m_mC, .int m_mY, .ref m_yta, .int (nI (z)), .int (nI (m_mf)), .int (nI (m_mt)), .int m_mv, .int m_mw, .ref m_ywa, .ref m_ybi, .ref m_ysi, .ref m_ynu, .ref m_ymo])), (m_yt, .inl (cI, 7, .inl mq2_14))] tl) := hD
      subst hw_r_13
      refine lv_icmp_eq (tgt := 1482) hx hb dL_law_1336 (by decide) (fun c_15 => ?_) (fun c_15 => absurd (by decide) c_15)
      exact kkx _ _ _ nu0 nu1 nu2 nu3 f2_12 mq2_14 m_nb m_mv9 (xt_P hP [13, 0, 1, 2, 3, 4, 5, 6, 7, 8, 14, 15, 16, 9, 10, 11, 12] rfl) (xt_D hD [13, 0, 1, 2, 3, 4, 5, 6, 7, 8, 14, 15, 16, 9, 10, 11, 12] (by decide +kernel) rfl) r_n0 r_n1 r_n2 r_n3 hS hl
    · skip
      refine lv_aload_n hx hb dL_law_1279 rfl (lv_at hl 3 rfl) ?_
      refine lv_iload_n hx hb dL_law_1280 rfl (lv_at hl 0 rfl) ?_
      refine lv_iconst (v := 1) hx hb dL_law_1281 (by decide) ?_
      refine lv_iadd hx hb dL_law_1282 ?_
      refine xl_i (y := nI (i + 1)) (nI_add i 1) ?_
      refine va_sld hx hb hX hbl hbA hS (x_si (k := 1) (by decide) hi hL) dL_law_1283 ?_
      refine xl_i (y := xs (i + 1)) (congrArg xs (x_sc (k := 1) (by decide) hi hL)) ?_
      refine lv_aload_n hx hb dL_law_1284 rfl (lv_at hl 3 rfl) ?_
      refine lv_iload_n hx hb dL_law_1285 rfl (lv_at hl 0 rfl) ?_
      refine lv_iconst (v := 2) hx hb dL_law_1286 (by decide) ?_
      refine lv_iadd hx hb dL_law_1287 ?_
      refine xl_i (y := nI (i + 2)) (nI_add i 2) ?_
      refine va_sld hx hb hX hbl hbA hS (x_si (k := 2) (by decide) hi hL) dL_law_1288 ?_
      refine xl_i (y := xs (i + 2)) (congrArg xs (x_sc (k := 2) (by decide) hi hL)) ?_
      refine lv_aload_n hx hb dL_law_1289 rfl (lv_at hl 3 rfl) ?_
      refine lv_iload_n hx hb dL_law_1290 rfl (lv_at hl 0 rfl) ?_
      refine lv_iconst (v := 3) hx hb dL_law_1291 (by decide) ?_
      refine lv_iadd hx hb dL_law_1292 ?_
      refine xl_i (y := nI (i + 3)) (nI_add i 3) ?_
      refine va_sld hx hb hX hbl hbA hS (x_si (k := 3) (by decide) hi hL) dL_law_1293 ?_
      refine xl_i (y := xs (i + 3)) (congrArg xs (x_sc (k := 3) (by decide) hi hL)) ?_
      refine xl_i (y := 2) eq3 ?_
      refine lv_aload_n hx hb dL_law_1294 rfl (lv_at hl 3 rfl) ?_
      refine lv_iload_n hx hb dL_law_1295 rfl (lv_at hl 0 rfl) ?_
      refine lv_iconst (v := 4) hx hb dL_law_1296 (by decide) ?_
      refine lv_iadd hx hb dL_law_1297 ?_
      refine xl_i (y := nI (i + 4)) (nI_add i 4) ?_
      refine va_sld hx hb hX hbl hbA hS (x_si (k := 4) (by decide) hi hL) dL_law_1298 ?_
      refine xl_i (y := xs (i + 4)) (congrArg xs (x_sc (k := 4) (by decide) hi hL)) ?_
      refine lv_aload_n hx hb dL_law_1299 rfl (lv_at hl 3 rfl) ?_
      refine lv_iload_n hx hb dL_law_1300 rfl (lv_at hl 0 rfl) ?_
      refine lv_iconst (v := 5) hx hb dL_law_1301 (by decide) ?_
      refine lv_iadd hx hb dL_law_1302 ?_
      refine xl_i (y := nI (i + 5)) (nI_add i 5) ?_
      refine va_sld hx hb hX hbl hbA hS (x_si (k := 5) (by decide) hi hL) dL_law_1303 ?_
      refine xl_i (y := xs (i + 5)) (congrArg xs (x_sc (k := 5) (by decide) hi hL)) ?_
      refine xc_ViT (wr := [(qz, .inl (cS, 4, .inr (.inr (.inr (.inr (xSh s0 s1 s2 s3)))))), (s0, .inr (4, [.int bt0, .int (nI (sz0)), .ref sn0])), (s1, .inr (4, [.int bt1, .int (nI (sz1)), .ref sn1])), (s2, .inr (4, [.int bt2, .int (nI (sz2)), .ref sn2])), (s3, .inr (4, [.int bt3, .int (nI (sz3)), .ref sn3])), (sn0, .inl (cJ, 40, .inr (.inl nu0))), (sn1, .inl (cJ, 40, .inr (.inl nu1))), (sn2, .inl (cJ, 40, .inr (.inl nu2))), (sn3, .inl (cJ, 40, .inr (.inl nu3))), (g0, .inr (9, [.ref m_ys, .ref m_yk, .ref m_yo, .ref m_yt, .int b0, .ref m_yfa, .ref m_yfe, .int m_mL, .int m_mS, .int m_mM, .ref m_yro, .ref m_yhe, .ref m_ygr, .int m_mF, .int m_mC, .int m_mY, .ref m_yta, .int (nI (z)), .int (nI (m_mf)), .int (nI (m_mt)), .int m_mv, .int m_mw, .ref m_ywa, .ref m_ybi, .ref m_ysi, .ref m_ynu, .ref m_ymo])), (m_yt, .inl (cI, 7, .inl m_mq)), (m_ybi, .inl (cI, 4, .inl m_bi)), (m_ysi, .inl (cI, 4, .inl m_sq)), (m_ynu, .inl (cJ, 160, .inr (.inl m_nb))), (m_ymo, .inl (cJ, 40, .inr (.inl m_mv9)))]) hF (c_X8_copy_o l D cI cJ cZ cS ta sa sv H.size h0 qh qk qd b0 qa qm qs qp ql qt qz qf ff (xs (i + 1)) (xs (i + 2)) 2 (xs (i + 4)) (xs (i + 5)) oq1) kv_L_166 ⟨rfl, rfl, Nat.le_of_ble_eq_true rfl, Nat.le_of_ble_eq_true rfl⟩ ⟨Nat.le_of_ble_eq_true rfl, Nat.le_of_ble_eq_true rfl⟩ hK hN hZ hP hD hS hA [0, 10] [1, 2, 3, 4, 5, 6, 7, 8, 9, 11, 12, 13, 14, 15, 16] rfl rfl rfl (by decide +kernel) (by decide +kernel) 0 rfl rfl rfl rfl hl.1 rfl (Nat.le_of_ble_eq_true rfl) dL_law_1304 (fun r_16 u_r_16 H locs hw_r_16 hP hD hS => ?_)
      obtain ⟨f2_17, rfl⟩ : ∃ z, z = u_r_16 := ⟨_, rfl⟩
      try dsimp only at hw_r_16
      have hP : va_P D vwCl (@HAppend.hAppend va_W va_W va_W _ [(qz, .inl (cS, 4, .inr (.inr (.inr (.inr (xSh s0 s1 s2 s3)))))), (s0, .inr (4, [.int bt0, .int (nI (sz0)), .ref sn0])), (s1, .inr (4, [.int bt1, .int (nI (sz1)), .ref sn1])), (s2, .inr (4, [.int bt2, .int (nI (sz2)), .ref sn2])), (s3, .inr (4, [.int bt3, .int (nI (sz3)), .ref sn3])), (sn0, .inl (cJ, 40, .inr (.inl nu0))), (sn1, .inl (cJ, 40, .inr (.inl nu1))), (sn2, .inl (cJ, 40, .inr (.inl nu2))), (sn3, .inl (cJ, 40, .inr (.inl nu3))), (g0, .inr (9, [.ref m_ys, .ref m_yk, .ref m_yo, .ref m_yt, .int b0, .ref m_yfa, .ref m_yfe, .int m_mL, .int m_mS, .int m_mM, .ref m_yro, .ref m_yhe, .ref m_ygr, .int m_mF, .int m_mC, .int m_mY, .ref m_yta, .int (nI (z)), .int (nI (m_mf)), .int (nI (m_mt)), .int m_mv, .int m_mw, .ref m_ywa, .ref m_ybi, .ref m_ysi, .ref m_ynu, .ref m_ymo])), (m_yt, .inl (cI, 7, .inl m_mq)), (m_ybi, .inl (cI, 4, .inl m_bi)), (m_ysi, .inl (cI, 4, .inl m_sq)), (m_ynu, .inl (cJ, 160, .inr (.inl m_nb))), (m_ymo, .inl (cJ, 40, .inr (.inl m_mv9))), (h0, .inr (8, [.ref qh, .ref qk, .ref qd, .int b0, .ref qa, .ref qm, .ref qs, .ref qp, .ref ql, .ref qt, .ref qz, .ref qf])), (qf, .inl (cI, 7, .inl f2_17))] tl) H := hP
      have hD : va_D A (@HAppend.hAppend va_W va_W va_W _ [(qz, .inl (cS, 4, .inr (.inr (.inr (.inr (xSh s0 s1 s2 s3)))))), (s0, .inr (4, [.int bt0, .int (nI (sz0)), .ref sn0])), (s1, .inr (4, [.int bt1, .int (nI (sz1)), .ref sn1])), (s2, .inr (4, [.int bt2, .int (nI (sz2)), .ref sn2])), (s3, .inr (4, [.int bt3, .int (nI (sz3)), .ref sn3])), (sn0, .inl (cJ, 40, .inr (.inl nu0))), (sn1, .inl (cJ, 40, .inr (.inl nu1))), (sn2, .inl (cJ, 40, .inr (.inl nu2))), (sn3, .inl (cJ, 40, .inr (.inl nu3))), (g0, .inr (9, [.ref m_ys, .ref m_yk, .ref m_yo, .ref m_yt, .int b0, .ref m_yfa, .ref m_yfe, .int m_mL, .int m_mS, .int m_mM, .ref m_yro, .ref m_yhe, .ref m_ygr, .int m_mF, .int m_mC, .int m_mY, .ref m_yta, .int (nI (z)), .int (nI (m_mf)), .int (nI (m_mt)), .int m_mv, .int m_mw, .ref m_ywa, .ref m_ybi, .ref m_ysi, .ref m_ynu, .ref m_ymo])), (m_yt, .inl (cI, 7, .inl m_mq)), (m_ybi, .inl (cI, 4, .inl m_bi)), (m_ysi, .inl (cI, 4, .inl m_sq)), (m_ynu, .inl (cJ, 160, .inr (.inl m_nb))), (m_ymo, .inl (cJ, 40, .inr (.inl m_mv9))), (h0, .inr (8, [.ref qh, .ref qk, .ref qd, .int b0, .ref qa, .ref qm, .ref qs, .ref qp, .ref ql, .ref qt, .ref qz, .ref qf])), (qf, .inl (cI, 7, .inl f2_17))] tl) := hD
      subst hw_r_16
      refine lv_aload_n hx hb dL_law_1307 rfl (lv_at hl 1 rfl) ?_
      refine lv_aload_n hx hb dL_law_1308 rfl (lv_at hl 3 rfl) ?_
      refine lv_iload_n hx hb dL_law_1309 rfl (lv_at hl 0 rfl) ?_
      refine lv_iconst (v := 1) hx hb dL_law_1310 (by decide) ?_
      refine lv_iadd hx hb dL_law_1311 ?_
      refine xl_i (y := nI (i + 1)) (nI_add i 1) ?_
      refine va_sld hx hb hX hbl hbA hS (x_si (k := 1) (by decide) hi hL) dL_law_1312 ?_
      refine xl_i (y := xs (i + 1)) (congrArg xs (x_sc (k := 1) (by decide) hi hL)) ?_
      refine lv_aload_n hx hb dL_law_1313 rfl (lv_at hl 3 rfl) ?_
      refine lv_iload_n hx hb dL_law_1314 rfl (lv_at hl 0 rfl) ?_
      refine lv_iconst (v := 2) hx hb dL_law_1315 (by decide) ?_
      refine lv_iadd hx hb dL_law_1316 ?_
      refine xl_i (y := nI (i + 2)) (nI_add i 2) ?_
      refine va_sld hx hb hX hbl hbA hS (x_si (k := 2) (by decide) hi hL) dL_law_1317 ?_
      refine xl_i (y := xs (i + 2)) (congrArg xs (x_sc (k := 2) (by decide) hi hL)) ?_
      refine lv_aload_n hx hb dL_law_1318 rfl (lv_at hl 3 rfl) ?_
      refine lv_iload_n hx hb dL_law_1319 rfl (lv_at hl 0 rfl) ?_
      refine lv_iconst (v := 3) hx hb dL_law_1320 (by decide) ?_
      refine lv_iadd hx hb dL_law_1321 ?_
      refine xl_i (y := nI (i + 3)) (nI_add i 3) ?_
      refine va_sld hx hb hX hbl hbA hS (x_si (k := 3) (by decide) hi hL) dL_law_1322 ?_
      refine xl_i (y := xs (i + 3)) (congrArg xs (x_sc (k := 3) (by decide) hi hL)) ?_
      refine xl_i (y := 2) eq3 ?_
      refine lv_aload_n hx hb dL_law_1323 rfl (lv_at hl 3 rfl) ?_
      refine lv_iload_n hx hb dL_law_1324 rfl (lv_at hl 0 rfl) ?_
      refine lv_iconst (v := 4) hx hb dL_law_1325 (by decide) ?_
      refine lv_iadd hx hb dL_law_1326 ?_
      refine xl_i (y := nI (i + 4)) (nI_add i 4) ?_
      refine va_sld hx hb hX hbl hbA hS (x_si (k := 4) (by decide) hi hL) dL_law_1327 ?_
      refine xl_i (y := xs (i + 4)) (congrArg xs (x_sc (k := 4) (by decide) hi hL)) ?_
      refine lv_aload_n hx hb dL_law_1328 rfl (lv_at hl 3 rfl) ?_
      refine lv_iload_n hx hb dL_law_1329 rfl (lv_at hl 0 rfl) ?_
      refine lv_iconst (v := 5) hx hb dL_law_1330 (by decide) ?_
      refine lv_iadd hx hb dL_law_1331 ?_
      refine xl_i (y := nI (i + 5)) (nI_add i 5) ?_
      refine va_sld hx hb hX hbl hbA hS (x_si (k := 5) (by decide) hi hL) dL_law_1332 ?_
      refine xl_i (y := xs (i + 5)) (congrArg xs (x_sc (k := 5) (by decide) hi hL)) ?_
      refine xc_ViT (wr := [(qz, .inl (cS, 4, .inr (.inr (.inr (.inr (xSh s0 s1 s2 s3)))))), (s0, .inr (4, [.int bt0, .int (nI (sz0)), .ref sn0])), (s1, .inr (4, [.int bt1, .int (nI (sz1)), .ref sn1])), (s2, .inr (4, [.int bt2, .int (nI (sz2)), .ref sn2])), (s3, .inr (4, [.int bt3, .int (nI (sz3)), .ref sn3])), (sn0, .inl (cJ, 40, .inr (.inl nu0))), (sn1, .inl (cJ, 40, .inr (.inl nu1))), (sn2, .inl (cJ, 40, .inr (.inl nu2))), (sn3, .inl (cJ, 40, .inr (.inl nu3))), (m_ybi, .inl (cI, 4, .inl m_bi)), (m_ysi, .inl (cI, 4, .inl m_sq)), (m_ynu, .inl (cJ, 160, .inr (.inl m_nb))), (m_ymo, .inl (cJ, 40, .inr (.inl m_mv9))), (h0, .inr (8, [.ref qh, .ref qk, .ref qd, .int b0, .ref qa, .ref qm, .ref qs, .ref qp, .ref ql, .ref qt, .ref qz, .ref qf])), (qf, .inl (cI, 7, .inl f2_17))]) hF (c_X9_copy_o l D cI cJ cZ cS ta sa sv H.size g0 m_ys m_yk m_yo m_yt b0 m_yfa m_yfe m_mL m_mS m_mM m_yro m_yhe m_ygr m_mF m_mC m_mY m_yta z m_mf m_mt m_mv m_mw m_ywa m_ybi m_ysi m_ynu m_ymo m_mq (xs (i + 1)) (xs (i + 2)) 2 (xs (i + 4)) (xs (i + 5)) oq1) kv_L_170 ⟨rfl, rfl, Nat.le_of_ble_eq_true rfl, Nat.le_of_ble_eq_true rfl⟩ ⟨Nat.le_of_ble_eq_true rfl, Nat.le_of_ble_eq_true rfl⟩ hK hN hZ hP hD hS hA [9, 10] [0, 1, 2, 3, 4, 5, 6, 7, 8, 11, 12, 13, 14, 15, 16] rfl rfl rfl (by decide +kernel) (by decide +kernel) 0 rfl rfl rfl rfl hl.1 rfl (Nat.le_of_ble_eq_true rfl) dL_law_1333 (fun r_18 u_r_18 H locs hw_r_18 hP hD hS => ?_)
      obtain ⟨mq2_19, rfl⟩ : ∃ z, z = u_r_18 := ⟨_, rfl⟩
      try dsimp only at hw_r_18
      have hP : va_P D vwCl (@HAppend.hAppend va_W va_W va_W _ [(qz, .inl (cS, 4, .inr (.inr (.inr (.inr (xSh s0 s1 s2 s3)))))), (s0, .inr (4, [.int bt0, .int (nI (sz0)), .ref sn0])), (s1, .inr (4, [.int bt1, .int (nI (sz1)), .ref sn1])), (s2, .inr (4, [.int bt2, .int (nI (sz2)), .ref sn2])), (s3, .inr (4, [.int bt3, .int (nI (sz3)), .ref sn3])), (sn0, .inl (cJ, 40, .inr (.inl nu0))), (sn1, .inl (cJ, 40, .inr (.inl nu1))), (sn2, .inl (cJ, 40, .inr (.inl nu2))), (sn3, .inl (cJ, 40, .inr (.inl nu3))), (m_ybi, .inl (cI, 4, .inl m_bi)), (m_ysi, .inl (cI, 4, .inl m_sq)), (m_ynu, .inl (cJ, 160, .inr (.inl m_nb))), (m_ymo, .inl (cJ, 40, .inr (.inl m_mv9))), (h0, .inr (8, [.ref qh, .ref qk, .ref qd, .int b0, .ref qa, .ref qm, .ref qs, .ref qp, .ref ql, .ref qt, .ref qz, .ref qf])), (qf, .inl (cI, 7, .inl f2_17)), (g0, .inr (9, [.ref m_ys, .ref m_yk, .ref m_yo, .ref m_yt, .int b0, .ref m_yfa, .ref m_yfe, .int m_mL, .int m_mS, .int m_mM, .ref m_yro, .ref m_yhe, .ref m_ygr, .int m_mF, .int m_mC, .int m_mY, .ref m_yta, .int (nI (z)), .int (nI (m_mf)), .int (nI (m_mt)), .int m_mv, .int m_mw, .ref m_ywa, .ref m_ybi, .ref m_ysi, .ref m_ynu, .ref m_ymo])), (m_yt, .inl (cI, 7, .inl mq2_19))] tl) H := hP
      have hD : va_D A (@HAppend.hAppend va_W va_W va_W _ [(qz, .inl (cS, 4, .inr (.inr (.inr (.inr (xSh s0 s1 s2 s3)))))), (s0, .inr (4, [.int bt0, .int (nI (sz0)), .ref sn0])), (s1, .inr (4, [.int bt1, .int (nI (sz1)), .ref sn1])), (s2, .inr (4, [.int bt2, .int (nI (sz2)), .ref sn2])), (s3, .inr (4, [.int bt3, .int (nI (sz3)), .ref sn3])), (sn0, .inl (cJ, 40, .inr (.inl nu0))), (sn1, .inl (cJ, 40, .inr (.inl nu1))), (sn2, .inl (cJ, 40, .inr (.inl nu2))), (sn3, .inl (cJ, 40, .inr (.inl nu3))), (m_ybi, .inl (cI, 4, .inl m_bi)), (m_ysi, .inl (cI, 4, .inl m_sq)), (m_ynu, .inl (cJ, 160, .inr (.inl m_nb))), (m_ymo, .inl (cJ, 40, .inr (.inl m_mv9))), (h0, .inr (8, [.ref qh, .ref qk, .ref qd, .int b0, .ref qa, .ref qm, .ref qs, .ref qp, .ref ql, .ref qt, .ref qz, .ref qf])), (qf, .inl (cI, 7, .inl f2_17)), (g0, .inr (9, [.ref m_ys, .ref m_yk, .ref m_yo, .ref m_yt, .int b0, .ref m_yfa, .ref m_yfe, .int m_mL, .int m_mS, .int m_mM, .ref m_yro, .ref m_yhe, .ref m_ygr, .int m_mF, .int m_mC, .int m_mY, .ref m_yta, .int (nI (z)), .int (nI (m_mf)), .int (nI (m_mt)), .int m_mv, .int m_mw, .ref m_ywa, .ref m_ybi, .ref m_ysi, .ref m_ynu, .ref m_ymo])), (m_yt, .inl (cI, 7, .inl mq2_19))] tl) := hD
      subst hw_r_18
      refine lv_icmp_eq (tgt := 1482) hx hb dL_law_1336 (by decide) (fun c_20 => ?_) (fun c_20 => absurd (by decide) c_20)
      exact kkx _ _ _ nu0 nu1 nu2 nu3 f2_17 mq2_19 m_nb m_mv9 (xt_P hP [13, 0, 1, 2, 3, 4, 5, 6, 7, 8, 14, 15, 16, 9, 10, 11, 12] rfl) (xt_D hD [13, 0, 1, 2, 3, 4, 5, 6, 7, 8, 14, 15, 16, 9, 10, 11, 12] (by decide +kernel) rfl) r_n0 r_n1 r_n2 r_n3 hS hl
    · skip
      refine lv_aload_n hx hb dL_law_1279 rfl (lv_at hl 3 rfl) ?_
      refine lv_iload_n hx hb dL_law_1280 rfl (lv_at hl 0 rfl) ?_
      refine lv_iconst (v := 1) hx hb dL_law_1281 (by decide) ?_
      refine lv_iadd hx hb dL_law_1282 ?_
      refine xl_i (y := nI (i + 1)) (nI_add i 1) ?_
      refine va_sld hx hb hX hbl hbA hS (x_si (k := 1) (by decide) hi hL) dL_law_1283 ?_
      refine xl_i (y := xs (i + 1)) (congrArg xs (x_sc (k := 1) (by decide) hi hL)) ?_
      refine lv_aload_n hx hb dL_law_1284 rfl (lv_at hl 3 rfl) ?_
      refine lv_iload_n hx hb dL_law_1285 rfl (lv_at hl 0 rfl) ?_
      refine lv_iconst (v := 2) hx hb dL_law_1286 (by decide) ?_
      refine lv_iadd hx hb dL_law_1287 ?_
      refine xl_i (y := nI (i + 2)) (nI_add i 2) ?_
      refine va_sld hx hb hX hbl hbA hS (x_si (k := 2) (by decide) hi hL) dL_law_1288 ?_
      refine xl_i (y := xs (i + 2)) (congrArg xs (x_sc (k := 2) (by decide) hi hL)) ?_
      refine lv_aload_n hx hb dL_law_1289 rfl (lv_at hl 3 rfl) ?_
      refine lv_iload_n hx hb dL_law_1290 rfl (lv_at hl 0 rfl) ?_
      refine lv_iconst (v := 3) hx hb dL_law_1291 (by decide) ?_
      refine lv_iadd hx hb dL_law_1292 ?_
      refine xl_i (y := nI (i + 3)) (nI_add i 3) ?_
      refine va_sld hx hb hX hbl hbA hS (x_si (k := 3) (by decide) hi hL) dL_law_1293 ?_
      refine xl_i (y := xs (i + 3)) (congrArg xs (x_sc (k := 3) (by decide) hi hL)) ?_
      refine xl_i (y := 3) eq3 ?_
      refine lv_aload_n hx hb dL_law_1294 rfl (lv_at hl 3 rfl) ?_
      refine lv_iload_n hx hb dL_law_1295 rfl (lv_at hl 0 rfl) ?_
      refine lv_iconst (v := 4) hx hb dL_law_1296 (by decide) ?_
      refine lv_iadd hx hb dL_law_1297 ?_
      refine xl_i (y := nI (i + 4)) (nI_add i 4) ?_
      refine va_sld hx hb hX hbl hbA hS (x_si (k := 4) (by decide) hi hL) dL_law_1298 ?_
      refine xl_i (y := xs (i + 4)) (congrArg xs (x_sc (k := 4) (by decide) hi hL)) ?_
      refine lv_aload_n hx hb dL_law_1299 rfl (lv_at hl 3 rfl) ?_
      refine lv_iload_n hx hb dL_law_1300 rfl (lv_at hl 0 rfl) ?_
      refine lv_iconst (v := 5) hx hb dL_law_1301 (by decide) ?_
      refine lv_iadd hx hb dL_law_1302 ?_
      refine xl_i (y := nI (i + 5)) (nI_add i 5) ?_
      refine va_sld hx hb hX hbl hbA hS (x_si (k := 5) (by decide) hi hL) dL_law_1303 ?_
      refine xl_i (y := xs (i + 5)) (congrArg xs (x_sc (k := 5) (by decide) hi hL)) ?_
      refine xc_ViT (wr := [(qz, .inl (cS, 4, .inr (.inr (.inr (.inr (xSh s0 s1 s2 s3)))))), (s0, .inr (4, [.int bt0, .int (nI (sz0)), .ref sn0])), (s1, .inr (4, [.int bt1, .int (nI (sz1)), .ref sn1])), (s2, .inr (4, [.int bt2, .int (nI (sz2)), .ref sn2])), (s3, .inr (4, [.int bt3, .int (nI (sz3)), .ref sn3])), (sn0, .inl (cJ, 40, .inr (.inl nu0))), (sn1, .inl (cJ, 40, .inr (.inl nu1))), (sn2, .inl (cJ, 40, .inr (.inl nu2))), (sn3, .inl (cJ, 40, .inr (.inl nu3))), (g0, .inr (9, [.ref m_ys, .ref m_yk, .ref m_yo, .ref m_yt, .int b0, .ref m_yfa, .ref m_yfe, .int m_mL, .int m_mS, .int m_mM, .ref m_yro, .ref m_yhe, .ref m_ygr, .int m_mF, .int m_mC, .int m_mY, .ref m_yta, .int (nI (z)), .int (nI (m_mf)), .int (nI (m_mt)), .int m_mv, .int m_mw, .ref m_ywa, .ref m_ybi, .ref m_ysi, .ref m_ynu, .ref m_ymo])), (m_yt, .inl (cI, 7, .inl m_mq)), (m_ybi, .inl (cI, 4, .inl m_bi)), (m_ysi, .inl (cI, 4, .inl m_sq)), (m_ynu, .inl (cJ, 160, .inr (.inl m_nb))), (m_ymo, .inl (cJ, 40, .inr (.inl m_mv9)))]) hF (c_X8_copy_o l D cI cJ cZ cS ta sa sv H.size h0 qh qk qd b0 qa qm qs qp ql qt qz qf ff (xs (i + 1)) (xs (i + 2)) 3 (xs (i + 4)) (xs (i + 5)) oq1) kv_L_166 ⟨rfl, rfl, Nat.le_of_ble_eq_true rfl, Nat.le_of_ble_eq_true rfl⟩ ⟨Nat.le_of_ble_eq_true rfl, Nat.le_of_ble_eq_true rfl⟩ hK hN hZ hP hD hS hA [0, 10] [1, 2, 3, 4, 5, 6, 7, 8, 9, 11, 12, 13, 14, 15, 16] rfl rfl rfl (by decide +kernel) (by decide +kernel) 0 rfl rfl rfl rfl hl.1 rfl (Nat.le_of_ble_eq_true rfl) dL_law_1304 (fun r_21 u_r_21 H locs hw_r_21 hP hD hS => ?_)
      obtain ⟨f2_22, rfl⟩ : ∃ z, z = u_r_21 := ⟨_, rfl⟩
      try dsimp only at hw_r_21
      have hP : va_P D vwCl (@HAppend.hAppend va_W va_W va_W _ [(qz, .inl (cS, 4, .inr (.inr (.inr (.inr (xSh s0 s1 s2 s3)))))), (s0, .inr (4, [.int bt0, .int (nI (sz0)), .ref sn0])), (s1, .inr (4, [.int bt1, .int (nI (sz1)), .ref sn1])), (s2, .inr (4, [.int bt2, .int (nI (sz2)), .ref sn2])), (s3, .inr (4, [.int bt3, .int (nI (sz3)), .ref sn3])), (sn0, .inl (cJ, 40, .inr (.inl nu0))), (sn1, .inl (cJ, 40, .inr (.inl nu1))), (sn2, .inl (cJ, 40, .inr (.inl nu2))), (sn3, .inl (cJ, 40, .inr (.inl nu3))), (g0, .inr (9, [.ref m_ys, .ref m_yk, .ref m_yo, .ref m_yt, .int b0, .ref m_yfa, .ref m_yfe, .int m_mL, .int m_mS, .int m_mM, .ref m_yro, .ref m_yhe, .ref m_ygr, .int m_mF, .int m_mC, .int m_mY, .ref m_yta, .int (nI (z)), .int (nI (m_mf)), .int (nI (m_mt)), .int m_mv, .int m_mw, .ref m_ywa, .ref m_ybi, .ref m_ysi, .ref m_ynu, .ref m_ymo])), (m_yt, .inl (cI, 7, .inl m_mq)), (m_ybi, .inl (cI, 4, .inl m_bi)), (m_ysi, .inl (cI, 4, .inl m_sq)), (m_ynu, .inl (cJ, 160, .inr (.inl m_nb))), (m_ymo, .inl (cJ, 40, .inr (.inl m_mv9))), (h0, .inr (8, [.ref qh, .ref qk, .ref qd, .int b0, .ref qa, .ref qm, .ref qs, .ref qp, .ref ql, .ref qt, .ref qz, .ref qf])), (qf, .inl (cI, 7, .inl f2_22))] tl) H := hP
      have hD : va_D A (@HAppend.hAppend va_W va_W va_W _ [(qz, .inl (cS, 4, .inr (.inr (.inr (.inr (xSh s0 s1 s2 s3)))))), (s0, .inr (4, [.int bt0, .int (nI (sz0)), .ref sn0])), (s1, .inr (4, [.int bt1, .int (nI (sz1)), .ref sn1])), (s2, .inr (4, [.int bt2, .int (nI (sz2)), .ref sn2])), (s3, .inr (4, [.int bt3, .int (nI (sz3)), .ref sn3])), (sn0, .inl (cJ, 40, .inr (.inl nu0))), (sn1, .inl (cJ, 40, .inr (.inl nu1))), (sn2, .inl (cJ, 40, .inr (.inl nu2))), (sn3, .inl (cJ, 40, .inr (.inl nu3))), (g0, .inr (9, [.ref m_ys, .ref m_yk, .ref m_yo, .ref m_yt, .int b0, .ref m_yfa, .ref m_yfe, .int m_mL, .int m_mS, .int m_mM, .ref m_yro, .ref m_yhe, .ref m_ygr, .int m_mF, .int m_mC, .int m_mY, .ref m_yta, .int (nI (z)), .int (nI (m_mf)), .int (nI (m_mt)), .int m_mv, .int m_mw, .ref m_ywa, .ref m_ybi, .ref m_ysi, .ref m_ynu, .ref m_ymo])), (m_yt, .inl (cI, 7, .inl m_mq)), (m_ybi, .inl (cI, 4, .inl m_bi)), (m_ysi, .inl (cI, 4, .inl m_sq)), (m_ynu, .inl (cJ, 160, .inr (.inl m_nb))), (m_ymo, .inl (cJ, 40, .inr (.inl m_mv9))), (h0, .inr (8, [.ref qh, .ref qk, .ref qd, .int b0, .ref qa, .ref qm, .ref qs, .ref qp, .ref ql, .ref qt, .ref qz, .ref qf])), (qf, .inl (cI, 7, .inl f2_22))] tl) := hD
      subst hw_r_21
      refine lv_aload_n hx hb dL_law_1307 rfl (lv_at hl 1 rfl) ?_
      refine lv_aload_n hx hb dL_law_1308 rfl (lv_at hl 3 rfl) ?_
      refine lv_iload_n hx hb dL_law_1309 rfl (lv_at hl 0 rfl) ?_
      refine lv_iconst (v := 1) hx hb dL_law_1310 (by decide) ?_
      refine lv_iadd hx hb dL_law_1311 ?_
      refine xl_i (y := nI (i + 1)) (nI_add i 1) ?_
      refine va_sld hx hb hX hbl hbA hS (x_si (k := 1) (by decide) hi hL) dL_law_1312 ?_
      refine xl_i (y := xs (i + 1)) (congrArg xs (x_sc (k := 1) (by decide) hi hL)) ?_
      refine lv_aload_n hx hb dL_law_1313 rfl (lv_at hl 3 rfl) ?_
      refine lv_iload_n hx hb dL_law_1314 rfl (lv_at hl 0 rfl) ?_
      refine lv_iconst (v := 2) hx hb dL_law_1315 (by decide) ?_
      refine lv_iadd hx hb dL_law_1316 ?_
      refine xl_i (y := nI (i + 2)) (nI_add i 2) ?_
      refine va_sld hx hb hX hbl hbA hS (x_si (k := 2) (by decide) hi hL) dL_law_1317 ?_
      refine xl_i (y := xs (i + 2)) (congrArg xs (x_sc (k := 2) (by decide) hi hL)) ?_
      refine lv_aload_n hx hb dL_law_1318 rfl (lv_at hl 3 rfl) ?_
      refine lv_iload_n hx hb dL_law_1319 rfl (lv_at hl 0 rfl) ?_
      refine lv_iconst (v := 3) hx hb dL_law_1320 (by decide) ?_
      refine lv_iadd hx hb dL_law_1321 ?_
      refine xl_i (y := nI (i + 3)) (nI_add i 3) ?_
      refine va_sld hx hb hX hbl hbA hS (x_si (k := 3) (by decide) hi hL) dL_law_1322 ?_
      refine xl_i (y := xs (i + 3)) (congrArg xs (x_sc (k := 3) (by decide) hi hL)) ?_
      refine xl_i (y := 3) eq3 ?_
      refine lv_aload_n hx hb dL_law_1323 rfl (lv_at hl 3 rfl) ?_
      refine lv_iload_n hx hb dL_law_1324 rfl (lv_at hl 0 rfl) ?_
      refine lv_iconst (v := 4) hx hb dL_law_1325 (by decide) ?_
      refine lv_iadd hx hb dL_law_1326 ?_
      refine xl_i (y := nI (i + 4)) (nI_add i 4) ?_
      refine va_sld hx hb hX hbl hbA hS (x_si (k := 4) (by decide) hi hL) dL_law_1327 ?_
      refine xl_i (y := xs (i + 4)) (congrArg xs (x_sc (k := 4) (by decide) hi hL)) ?_
      refine lv_aload_n hx hb dL_law_1328 rfl (lv_at hl 3 rfl) ?_
      refine lv_iload_n hx hb dL_law_1329 rfl (lv_at hl 0 rfl) ?_
      refine lv_iconst (v := 5) hx hb dL_law_1330 (by decide) ?_
      refine lv_iadd hx hb dL_law_1331 ?_
      refine xl_i (y := nI (i + 5)) (nI_add i 5) ?_
      refine va_sld hx hb hX hbl hbA hS (x_si (k := 5) (by decide) hi hL) dL_law_1332 ?_
      refine xl_i (y := xs (i + 5)) (congrArg xs (x_sc (k := 5) (by decide) hi hL)) ?_
      refine xc_ViT (wr := [(qz, .inl (cS, 4, .inr (.inr (.inr (.inr (xSh s0 s1 s2 s3)))))), (s0, .inr (4, [.int bt0, .int (nI (sz0)), .ref sn0])), (s1, .inr (4, [.int bt1, .int (nI (sz1)), .ref sn1])), (s2, .inr (4, [.int bt2, .int (nI (sz2)), .ref sn2])), (s3, .inr (4, [.int bt3, .int (nI (sz3)), .ref sn3])), (sn0, .inl (cJ, 40, .inr (.inl nu0))), (sn1, .inl (cJ, 40, .inr (.inl nu1))), (sn2, .inl (cJ, 40, .inr (.inl nu2))), (sn3, .inl (cJ, 40, .inr (.inl nu3))), (m_ybi, .inl (cI, 4, .inl m_bi)), (m_ysi, .inl (cI, 4, .inl m_sq)), (m_ynu, .inl (cJ, 160, .inr (.inl m_nb))), (m_ymo, .inl (cJ, 40, .inr (.inl m_mv9))), (h0, .inr (8, [.ref qh, .ref qk, .ref qd, .int b0, .ref qa, .ref qm, .ref qs, .ref qp, .ref ql, .ref qt, .ref qz, .ref qf])), (qf, .inl (cI, 7, .inl f2_22))]) hF (c_X9_copy_o l D cI cJ cZ cS ta sa sv H.size g0 m_ys m_yk m_yo m_yt b0 m_yfa m_yfe m_mL m_mS m_mM m_yro m_yhe m_ygr m_mF m_mC m_mY m_yta z m_mf m_mt m_mv m_mw m_ywa m_ybi m_ysi m_ynu m_ymo m_mq (xs (i + 1)) (xs (i + 2)) 3 (xs (i + 4)) (xs (i + 5)) oq1) kv_L_170 ⟨rfl, rfl, Nat.le_of_ble_eq_true rfl, Nat.le_of_ble_eq_true rfl⟩ ⟨Nat.le_of_ble_eq_true rfl, Nat.le_of_ble_eq_true rfl⟩ hK hN hZ hP hD hS hA [9, 10] [0, 1, 2, 3, 4, 5, 6, 7, 8, 11, 12, 13, 14, 15, 16] rfl rfl rfl (by decide +kernel) (by decide +kernel) 0 rfl rfl rfl rfl hl.1 rfl (Nat.le_of_ble_eq_true rfl) dL_law_1333 (fun r_23 u_r_23 H locs hw_r_23 hP hD hS => ?_)
      obtain ⟨mq2_24, rfl⟩ : ∃ z, z = u_r_23 := ⟨_, rfl⟩
      try dsimp only at hw_r_23
      have hP : va_P D vwCl (@HAppend.hAppend va_W va_W va_W _ [(qz, .inl (cS, 4, .inr (.inr (.inr (.inr (xSh s0 s1 s2 s3)))))), (s0, .inr (4, [.int bt0, .int (nI (sz0)), .ref sn0])), (s1, .inr (4, [.int bt1, .int (nI (sz1)), .ref sn1])), (s2, .inr (4, [.int bt2, .int (nI (sz2)), .ref sn2])), (s3, .inr (4, [.int bt3, .int (nI (sz3)), .ref sn3])), (sn0, .inl (cJ, 40, .inr (.inl nu0))), (sn1, .inl (cJ, 40, .inr (.inl nu1))), (sn2, .inl (cJ, 40, .inr (.inl nu2))), (sn3, .inl (cJ, 40, .inr (.inl nu3))), (m_ybi, .inl (cI, 4, .inl m_bi)), (m_ysi, .inl (cI, 4, .inl m_sq)), (m_ynu, .inl (cJ, 160, .inr (.inl m_nb))), (m_ymo, .inl (cJ, 40, .inr (.inl m_mv9))), (h0, .inr (8, [.ref qh, .ref qk, .ref qd, .int b0, .ref qa, .ref qm, .ref qs, .ref qp, .ref ql, .ref qt, .ref qz, .ref qf])), (qf, .inl (cI, 7, .inl f2_22)), (g0, .inr (9, [.ref m_ys, .ref m_yk, .ref m_yo, .ref m_yt, .int b0, .ref m_yfa, .ref m_yfe, .int m_mL, .int m_mS, .int m_mM, .ref m_yro, .ref m_yhe, .ref m_ygr, .int m_mF, .int m_mC, .int m_mY, .ref m_yta, .int (nI (z)), .int (nI (m_mf)), .int (nI (m_mt)), .int m_mv, .int m_mw, .ref m_ywa, .ref m_ybi, .ref m_ysi, .ref m_ynu, .ref m_ymo])), (m_yt, .inl (cI, 7, .inl mq2_24))] tl) H := hP
      have hD : va_D A (@HAppend.hAppend va_W va_W va_W _ [(qz, .inl (cS, 4, .inr (.inr (.inr (.inr (xSh s0 s1 s2 s3)))))), (s0, .inr (4, [.int bt0, .int (nI (sz0)), .ref sn0])), (s1, .inr (4, [.int bt1, .int (nI (sz1)), .ref sn1])), (s2, .inr (4, [.int bt2, .int (nI (sz2)), .ref sn2])), (s3, .inr (4, [.int bt3, .int (nI (sz3)), .ref sn3])), (sn0, .inl (cJ, 40, .inr (.inl nu0))), (sn1, .inl (cJ, 40, .inr (.inl nu1))), (sn2, .inl (cJ, 40, .inr (.inl nu2))), (sn3, .inl (cJ, 40, .inr (.inl nu3))), (m_ybi, .inl (cI, 4, .inl m_bi)), (m_ysi, .inl (cI, 4, .inl m_sq)), (m_ynu, .inl (cJ, 160, .inr (.inl m_nb))), (m_ymo, .inl (cJ, 40, .inr (.inl m_mv9))), (h0, .inr (8, [.ref qh, .ref qk, .ref qd, .int b0, .ref qa, .ref qm, .ref qs, .ref qp, .ref ql, .ref qt, .ref qz, .ref qf])), (qf, .inl (cI, 7, .inl f2_22)), (g0, .inr (9, [.ref m_ys, .ref m_yk, .ref m_yo, .ref m_yt, .int b0, .ref m_yfa, .ref m_yfe, .int m_mL, .int m_mS, .int m_mM, .ref m_yro, .ref m_yhe, .ref m_ygr, .int m_mF, .int m_mC, .int m_mY, .ref m_yta, .int (nI (z)), .int (nI (m_mf)), .int (nI (m_mt)), .int m_mv, .int m_mw, .ref m_ywa, .ref m_ybi, .ref m_ysi, .ref m_ynu, .ref m_ymo])), (m_yt, .inl (cI, 7, .inl mq2_24))] tl) := hD
      subst hw_r_23
      refine lv_icmp_eq (tgt := 1482) hx hb dL_law_1336 (by decide) (fun c_25 => ?_) (fun c_25 => absurd (by decide) c_25)
      exact kkx _ _ _ nu0 nu1 nu2 nu3 f2_22 mq2_24 m_nb m_mv9 (xt_P hP [13, 0, 1, 2, 3, 4, 5, 6, 7, 8, 14, 15, 16, 9, 10, 11, 12] rfl) (xt_D hD [13, 0, 1, 2, 3, 4, 5, 6, 7, 8, 14, 15, 16, 9, 10, 11, 12] (by decide +kernel) rfl) r_n0 r_n1 r_n2 r_n3 hS hl
  · skip
    refine lv_aload_n hx hb dL_law_1278 rfl (lv_at hl 2 rfl) ?_
    rcases x_sh4 (xs (i + 3)) with oq3 | eq3 | eq3 | eq3 | eq3
    · skip
      refine lv_aload_n hx hb dL_law_1279 rfl (lv_at hl 3 rfl) ?_
      refine lv_iload_n hx hb dL_law_1280 rfl (lv_at hl 0 rfl) ?_
      refine lv_iconst (v := 1) hx hb dL_law_1281 (by decide) ?_
      refine lv_iadd hx hb dL_law_1282 ?_
      refine xl_i (y := nI (i + 1)) (nI_add i 1) ?_
      refine va_sld hx hb hX hbl hbA hS (x_si (k := 1) (by decide) hi hL) dL_law_1283 ?_
      refine xl_i (y := xs (i + 1)) (congrArg xs (x_sc (k := 1) (by decide) hi hL)) ?_
      refine xl_i (y := 0) eq1 ?_
      refine lv_aload_n hx hb dL_law_1284 rfl (lv_at hl 3 rfl) ?_
      refine lv_iload_n hx hb dL_law_1285 rfl (lv_at hl 0 rfl) ?_
      refine lv_iconst (v := 2) hx hb dL_law_1286 (by decide) ?_
      refine lv_iadd hx hb dL_law_1287 ?_
      refine xl_i (y := nI (i + 2)) (nI_add i 2) ?_
      refine va_sld hx hb hX hbl hbA hS (x_si (k := 2) (by decide) hi hL) dL_law_1288 ?_
      refine xl_i (y := xs (i + 2)) (congrArg xs (x_sc (k := 2) (by decide) hi hL)) ?_
      refine lv_aload_n hx hb dL_law_1289 rfl (lv_at hl 3 rfl) ?_
      refine lv_iload_n hx hb dL_law_1290 rfl (lv_at hl 0 rfl) ?_
      refine lv_iconst (v := 3) hx hb dL_law_1291 (by decide) ?_
      refine lv_iadd hx hb dL_law_1292 ?_
      refine xl_i (y := nI (i + 3)) (nI_add i 3) ?_
      refine va_sld hx hb hX hbl hbA hS (x_si (k := 3) (by decide) hi hL) dL_law_1293 ?_
      refine xl_i (y := xs (i + 3)) (congrArg xs (x_sc (k := 3) (by decide) hi hL)) ?_
      refine lv_aload_n hx hb dL_law_1294 rfl (lv_at hl 3 rfl) ?_
      refine lv_iload_n hx hb dL_law_1295 rfl (lv_at hl 0 rfl) ?_
      refine lv_iconst (v := 4) hx hb dL_law_1296 (by decide) ?_
      refine lv_iadd hx hb dL_law_1297 ?_
      refine xl_i (y := nI (i + 4)) (nI_add i 4) ?_
      refine va_sld hx hb hX hbl hbA hS (x_si (k := 4) (by decide) hi hL) dL_law_1298 ?_
      refine xl_i (y := xs (i + 4)) (congrArg xs (x_sc (k := 4) (by decide) hi hL)) ?_
      refine lv_aload_n hx hb dL_law_1299 rfl (lv_at hl 3 rfl) ?_
      refine lv_iload_n hx hb dL_law_1300 rfl (lv_at hl 0 rfl) ?_
      refine lv_iconst (v := 5) hx hb dL_law_1301 (by decide) ?_
      refine lv_iadd hx hb dL_law_1302 ?_
      refine xl_i (y := nI (i + 5)) (nI_add i 5) ?_
      refine va_sld hx hb hX hbl hbA hS (x_si (k := 5) (by decide) hi hL) dL_law_1303 ?_
      refine xl_i (y := xs (i + 5)) (congrArg xs (x_sc (k := 5) (by decide) hi hL)) ?_
      refine xc_ViT (wr := [(qz, .inl (cS, 4, .inr (.inr (.inr (.inr (xSh s0 s1 s2 s3)))))), (s0, .inr (4, [.int bt0, .int (nI (sz0)), .ref sn0])), (s1, .inr (4, [.int bt1, .int (nI (sz1)), .ref sn1])), (s2, .inr (4, [.int bt2, .int (nI (sz2)), .ref sn2])), (s3, .inr (4, [.int bt3, .int (nI (sz3)), .ref sn3])), (sn0, .inl (cJ, 40, .inr (.inl nu0))), (sn1, .inl (cJ, 40, .inr (.inl nu1))), (sn2, .inl (cJ, 40, .inr (.inl nu2))), (sn3, .inl (cJ, 40, .inr (.inl nu3))), (g0, .inr (9, [.ref m_ys, .ref m_yk, .ref m_yo, .ref m_yt, .int b0, .ref m_yfa, .ref m_yfe, .int m_mL, .int m_mS, .int m_mM, .ref m_yro, .ref m_yhe, .ref m_ygr, .int m_mF, .int m_mC, .int m_mY, .ref m_yta, .int (nI (z)), .int (nI (m_mf)), .int (nI (m_mt)), .int m_mv, .int m_mw, .ref m_ywa, .ref m_ybi, .ref m_ysi, .ref m_ynu, .ref m_ymo])), (m_yt, .inl (cI, 7, .inl m_mq)), (m_ybi, .inl (cI, 4, .inl m_bi)), (m_ysi, .inl (cI, 4, .inl m_sq)), (m_ynu, .inl (cJ, 160, .inr (.inl m_nb))), (m_ymo, .inl (cJ, 40, .inr (.inl m_mv9)))]) hF (c_X8_copy_0o l D cI cJ cZ cS ta sa sv H.size h0 qh qk qd b0 qa qm qs qp ql qt qz qf ff (xs (i + 2)) (xs (i + 3)) (xs (i + 4)) (xs (i + 5)) oq3) kv_L_166 ⟨rfl, rfl, Nat.le_of_ble_eq_true rfl, Nat.le_of_ble_eq_true rfl⟩ ⟨Nat.le_of_ble_eq_true rfl, Nat.le_of_ble_eq_true rfl⟩ hK hN hZ hP hD hS hA [0, 10] [1, 2, 3, 4, 5, 6, 7, 8, 9, 11, 12, 13, 14, 15, 16] rfl rfl rfl (by decide +kernel) (by decide +kernel) 0 rfl rfl rfl rfl hl.1 rfl (Nat.le_of_ble_eq_true rfl) dL_law_1304 (fun r_26 u_r_26 H locs hw_r_26 hP hD hS => ?_)
      obtain ⟨f2_27, rfl⟩ : ∃ z, z = u_r_26 := ⟨_, rfl⟩
      try dsimp only at hw_r_26
      have hP : va_P D vwCl (@HAppend.hAppend va_W va_W va_W _ [(qz, .inl (cS, 4, .inr (.inr (.inr (.inr (xSh s0 s1 s2 s3)))))), (s0, .inr (4, [.int bt0, .int (nI (sz0)), .ref sn0])), (s1, .inr (4, [.int bt1, .int (nI (sz1)), .ref sn1])), (s2, .inr (4, [.int bt2, .int (nI (sz2)), .ref sn2])), (s3, .inr (4, [.int bt3, .int (nI (sz3)), .ref sn3])), (sn0, .inl (cJ, 40, .inr (.inl nu0))), (sn1, .inl (cJ, 40, .inr (.inl nu1))), (sn2, .inl (cJ, 40, .inr (.inl nu2))), (sn3, .inl (cJ, 40, .inr (.inl nu3))), (g0, .inr (9, [.ref m_ys, .ref m_yk, .ref m_yo, .ref m_yt, .int b0, .ref m_yfa, .ref m_yfe, .int m_mL, .int m_mS, .int m_mM, .ref m_yro, .ref m_yhe, .ref m_ygr, .int m_mF, .int m_mC, .int m_mY, .ref m_yta, .int (nI (z)), .int (nI (m_mf)), .int (nI (m_mt)), .int m_mv, .int m_mw, .ref m_ywa, .ref m_ybi, .ref m_ysi, .ref m_ynu, .ref m_ymo])), (m_yt, .inl (cI, 7, .inl m_mq)), (m_ybi, .inl (cI, 4, .inl m_bi)), (m_ysi, .inl (cI, 4, .inl m_sq)), (m_ynu, .inl (cJ, 160, .inr (.inl m_nb))), (m_ymo, .inl (cJ, 40, .inr (.inl m_mv9))), (h0, .inr (8, [.ref qh, .ref qk, .ref qd, .int b0, .ref qa, .ref qm, .ref qs, .ref qp, .ref ql, .ref qt, .ref qz, .ref qf])), (qf, .inl (cI, 7, .inl f2_27))] tl) H := hP
      have hD : va_D A (@HAppend.hAppend va_W va_W va_W _ [(qz, .inl (cS, 4, .inr (.inr (.inr (.inr (xSh s0 s1 s2 s3)))))), (s0, .inr (4, [.int bt0, .int (nI (sz0)), .ref sn0])), (s1, .inr (4, [.int bt1, .int (nI (sz1)), .ref sn1])), (s2, .inr (4, [.int bt2, .int (nI (sz2)), .ref sn2])), (s3, .inr (4, [.int bt3, .int (nI (sz3)), .ref sn3])), (sn0, .inl (cJ, 40, .inr (.inl nu0))), (sn1, .inl (cJ, 40, .inr (.inl nu1))), (sn2, .inl (cJ, 40, .inr (.inl nu2))), (sn3, .inl (cJ, 40, .inr (.inl nu3))), (g0, .inr (9, [.ref m_ys, .ref m_yk, .ref m_yo, .ref m_yt, .int b0, .ref m_yfa, .ref m_yfe, .int m_mL, .int m_mS, .int m_mM, .ref m_yro, .ref m_yhe, .ref m_ygr, .int m_mF, .int m_mC, .int m_mY, .ref m_yta, .int (nI (z)), .int (nI (m_mf)), .int (nI (m_mt)), .int m_mv, .int m_mw, .ref m_ywa, .ref m_ybi, .ref m_ysi, .ref m_ynu, .ref m_ymo])), (m_yt, .inl (cI, 7, .inl m_mq)), (m_ybi, .inl (cI, 4, .inl m_bi)), (m_ysi, .inl (cI, 4, .inl m_sq)), (m_ynu, .inl (cJ, 160, .inr (.inl m_nb))), (m_ymo, .inl (cJ, 40, .inr (.inl m_mv9))), (h0, .inr (8, [.ref qh, .ref qk, .ref qd, .int b0, .ref qa, .ref qm, .ref qs, .ref qp, .ref ql, .ref qt, .ref qz, .ref qf])), (qf, .inl (cI, 7, .inl f2_27))] tl) := hD
      subst hw_r_26
      refine lv_aload_n hx hb dL_law_1307 rfl (lv_at hl 1 rfl) ?_
      refine lv_aload_n hx hb dL_law_1308 rfl (lv_at hl 3 rfl) ?_
      refine lv_iload_n hx hb dL_law_1309 rfl (lv_at hl 0 rfl) ?_
      refine lv_iconst (v := 1) hx hb dL_law_1310 (by decide) ?_
      refine lv_iadd hx hb dL_law_1311 ?_
      refine xl_i (y := nI (i + 1)) (nI_add i 1) ?_
      refine va_sld hx hb hX hbl hbA hS (x_si (k := 1) (by decide) hi hL) dL_law_1312 ?_
      refine xl_i (y := xs (i + 1)) (congrArg xs (x_sc (k := 1) (by decide) hi hL)) ?_
      refine xl_i (y := 0) eq1 ?_
      refine lv_aload_n hx hb dL_law_1313 rfl (lv_at hl 3 rfl) ?_
      refine lv_iload_n hx hb dL_law_1314 rfl (lv_at hl 0 rfl) ?_
      refine lv_iconst (v := 2) hx hb dL_law_1315 (by decide) ?_
      refine lv_iadd hx hb dL_law_1316 ?_
      refine xl_i (y := nI (i + 2)) (nI_add i 2) ?_
      refine va_sld hx hb hX hbl hbA hS (x_si (k := 2) (by decide) hi hL) dL_law_1317 ?_
      refine xl_i (y := xs (i + 2)) (congrArg xs (x_sc (k := 2) (by decide) hi hL)) ?_
      refine lv_aload_n hx hb dL_law_1318 rfl (lv_at hl 3 rfl) ?_
      refine lv_iload_n hx hb dL_law_1319 rfl (lv_at hl 0 rfl) ?_
      refine lv_iconst (v := 3) hx hb dL_law_1320 (by decide) ?_
      refine lv_iadd hx hb dL_law_1321 ?_
      refine xl_i (y := nI (i + 3)) (nI_add i 3) ?_
      refine va_sld hx hb hX hbl hbA hS (x_si (k := 3) (by decide) hi hL) dL_law_1322 ?_
      refine xl_i (y := xs (i + 3)) (congrArg xs (x_sc (k := 3) (by decide) hi hL)) ?_
      refine lv_aload_n hx hb dL_law_1323 rfl (lv_at hl 3 rfl) ?_
      refine lv_iload_n hx hb dL_law_1324 rfl (lv_at hl 0 rfl) ?_
      refine lv_iconst (v := 4) hx hb dL_law_1325 (by decide) ?_
      refine lv_iadd hx hb dL_law_1326 ?_
      refine xl_i (y := nI (i + 4)) (nI_add i 4) ?_
      refine va_sld hx hb hX hbl hbA hS (x_si (k := 4) (by decide) hi hL) dL_law_1327 ?_
      refine xl_i (y := xs (i + 4)) (congrArg xs (x_sc (k := 4) (by decide) hi hL)) ?_
      refine lv_aload_n hx hb dL_law_1328 rfl (lv_at hl 3 rfl) ?_
      refine lv_iload_n hx hb dL_law_1329 rfl (lv_at hl 0 rfl) ?_
      refine lv_iconst (v := 5) hx hb dL_law_1330 (by decide) ?_
      refine lv_iadd hx hb dL_law_1331 ?_
      refine xl_i (y := nI (i + 5)) (nI_add i 5) ?_
      refine va_sld hx hb hX hbl hbA hS (x_si (k := 5) (by decide) hi hL) dL_law_1332 ?_
      refine xl_i (y := xs (i + 5)) (congrArg xs (x_sc (k := 5) (by decide) hi hL)) ?_
      refine xc_ViT (wr := [(qz, .inl (cS, 4, .inr (.inr (.inr (.inr (xSh s0 s1 s2 s3)))))), (s0, .inr (4, [.int bt0, .int (nI (sz0)), .ref sn0])), (s1, .inr (4, [.int bt1, .int (nI (sz1)), .ref sn1])), (s2, .inr (4, [.int bt2, .int (nI (sz2)), .ref sn2])), (s3, .inr (4, [.int bt3, .int (nI (sz3)), .ref sn3])), (sn0, .inl (cJ, 40, .inr (.inl nu0))), (sn1, .inl (cJ, 40, .inr (.inl nu1))), (sn2, .inl (cJ, 40, .inr (.inl nu2))), (sn3, .inl (cJ, 40, .inr (.inl nu3))), (m_ybi, .inl (cI, 4, .inl m_bi)), (m_ysi, .inl (cI, 4, .inl m_sq)), (m_ynu, .inl (cJ, 160, .inr (.inl m_nb))), (m_ymo, .inl (cJ, 40, .inr (.inl m_mv9))), (h0, .inr (8, [.ref qh, .ref qk, .ref qd, .int b0, .ref qa, .ref qm, .ref qs, .ref qp, .ref ql, .ref qt, .ref qz, .ref qf])), (qf, .inl (cI, 7, .inl f2_27))]) hF (c_X9_copy_0o l D cI cJ cZ cS ta sa sv H.size g0 m_ys m_yk m_yo m_yt b0 m_yfa m_yfe m_mL m_mS m_mM m_yro m_yhe m_ygr m_mF m_mC m_mY m_yta z m_mf m_mt m_mv m_mw m_ywa m_ybi m_ysi m_ynu m_ymo m_mq (xs (i + 2)) (xs (i + 3)) (xs (i + 4)) (xs (i + 5)) oq3) kv_L_170 ⟨rfl, rfl, Nat.le_of_ble_eq_true rfl, Nat.le_of_ble_eq_true rfl⟩ ⟨Nat.le_of_ble_eq_true rfl, Nat.le_of_ble_eq_true rfl⟩ hK hN hZ hP hD hS hA [9, 10] [0, 1, 2, 3, 4, 5, 6, 7, 8, 11, 12, 13, 14, 15, 16] rfl rfl rfl (by decide +kernel) (by decide +kernel) 0 rfl rfl rfl rfl hl.1 rfl (Nat.le_of_ble_eq_true rfl) dL_law_1333 (fun r_28 u_r_28 H locs hw_r_28 hP hD hS => ?_)
      obtain ⟨mq2_29, rfl⟩ : ∃ z, z = u_r_28 := ⟨_, rfl⟩
      try dsimp only at hw_r_28
      have hP : va_P D vwCl (@HAppend.hAppend va_W va_W va_W _ [(qz, .inl (cS, 4, .inr (.inr (.inr (.inr (xSh s0 s1 s2 s3)))))), (s0, .inr (4, [.int bt0, .int (nI (sz0)), .ref sn0])), (s1, .inr (4, [.int bt1, .int (nI (sz1)), .ref sn1])), (s2, .inr (4, [.int bt2, .int (nI (sz2)), .ref sn2])), (s3, .inr (4, [.int bt3, .int (nI (sz3)), .ref sn3])), (sn0, .inl (cJ, 40, .inr (.inl nu0))), (sn1, .inl (cJ, 40, .inr (.inl nu1))), (sn2, .inl (cJ, 40, .inr (.inl nu2))), (sn3, .inl (cJ, 40, .inr (.inl nu3))), (m_ybi, .inl (cI, 4, .inl m_bi)), (m_ysi, .inl (cI, 4, .inl m_sq)), (m_ynu, .inl (cJ, 160, .inr (.inl m_nb))), (m_ymo, .inl (cJ, 40, .inr (.inl m_mv9))), (h0, .inr (8, [.ref qh, .ref qk, .ref qd, .int b0, .ref qa, .ref qm, .ref qs, .ref qp, .ref ql, .ref qt, .ref qz, .ref qf])), (qf, .inl (cI, 7, .inl f2_27)), (g0, .inr (9, [.ref m_ys, .ref m_yk, .ref m_yo, .ref m_yt, .int b0, .ref m_yfa, .ref m_yfe, .int m_mL, .int m_mS, .int m_mM, .ref m_yro, .ref m_yhe, .ref m_ygr, .int m_mF, .int m_mC, .int m_mY, .ref m_yta, .int (nI (z)), .int (nI (m_mf)), .int (nI (m_mt)), .int m_mv, .int m_mw, .ref m_ywa, .ref m_ybi, .ref m_ysi, .ref m_ynu, .ref m_ymo])), (m_yt, .inl (cI, 7, .inl mq2_29))] tl) H := hP
      have hD : va_D A (@HAppend.hAppend va_W va_W va_W _ [(qz, .inl (cS, 4, .inr (.inr (.inr (.inr (xSh s0 s1 s2 s3)))))), (s0, .inr (4, [.int bt0, .int (nI (sz0)), .ref sn0])), (s1, .inr (4, [.int bt1, .int (nI (sz1)), .ref sn1])), (s2, .inr (4, [.int bt2, .int (nI (sz2)), .ref sn2])), (s3, .inr (4, [.int bt3, .int (nI (sz3)), .ref sn3])), (sn0, .inl (cJ, 40, .inr (.inl nu0))), (sn1, .inl (cJ, 40, .inr (.inl nu1))), (sn2, .inl (cJ, 40, .inr (.inl nu2))), (sn3, .inl (cJ, 40, .inr (.inl nu3))), (m_ybi, .inl (cI, 4, .inl m_bi)), (m_ysi, .inl (cI, 4, .inl m_sq)), (m_ynu, .inl (cJ, 160, .inr (.inl m_nb))), (m_ymo, .inl (cJ, 40, .inr (.inl m_mv9))), (h0, .inr (8, [.ref qh, .ref qk, .ref qd, .int b0, .ref qa, .ref qm, .ref qs, .ref qp, .ref ql, .ref qt, .ref qz, .ref qf])), (qf, .inl (cI, 7, .inl f2_27)), (g0, .inr (9, [.ref m_ys, .ref m_yk, .ref m_yo, .ref m_yt, .int b0, .ref m_yfa, .ref m_yfe, .int m_mL, .int m_mS, .int m_mM, .ref m_yro, .ref m_yhe, .ref m_ygr, .int m_mF, .int m_mC, .int m_mY, .ref m_yta, .int (nI (z)), .int (nI (m_mf)), .int (nI (m_mt)), .int m_mv, .int m_mw, .ref m_ywa, .ref m_ybi, .ref m_ysi, .ref m_ynu, .ref m_ymo])), (m_yt, .inl (cI, 7, .inl mq2_29))] tl) := hD
      subst hw_r_28
      refine lv_icmp_eq (tgt := 1482) hx hb dL_law_1336 (by decide) (fun c_30 => ?_) (fun c_30 => absurd (by decide) c_30)
      exact kkx _ _ _ nu0 nu1 nu2 nu3 f2_27 mq2_29 m_nb m_mv9 (xt_P hP [13, 0, 1, 2, 3, 4, 5, 6, 7, 8, 14, 15, 16, 9, 10, 11, 12] rfl) (xt_D hD [13, 0, 1, 2, 3, 4, 5, 6, 7, 8, 14, 15, 16, 9, 10, 11, 12] (by decide +kernel) rfl) r_n0 r_n1 r_n2 r_n3 hS hl
    · skip
      refine lv_aload_n hx hb dL_law_1279 rfl (lv_at hl 3 rfl) ?_
      refine lv_iload_n hx hb dL_law_1280 rfl (lv_at hl 0 rfl) ?_
      refine lv_iconst (v := 1) hx hb dL_law_1281 (by decide) ?_
      refine lv_iadd hx hb dL_law_1282 ?_
      refine xl_i (y := nI (i + 1)) (nI_add i 1) ?_
      refine va_sld hx hb hX hbl hbA hS (x_si (k := 1) (by decide) hi hL) dL_law_1283 ?_
      refine xl_i (y := xs (i + 1)) (congrArg xs (x_sc (k := 1) (by decide) hi hL)) ?_
      refine xl_i (y := 0) eq1 ?_
      refine lv_aload_n hx hb dL_law_1284 rfl (lv_at hl 3 rfl) ?_
      refine lv_iload_n hx hb dL_law_1285 rfl (lv_at hl 0 rfl) ?_
      refine lv_iconst (v := 2) hx hb dL_law_1286 (by decide) ?_
      refine lv_iadd hx hb dL_law_1287 ?_
      refine xl_i (y := nI (i + 2)) (nI_add i 2) ?_
      refine va_sld hx hb hX hbl hbA hS (x_si (k := 2) (by decide) hi hL) dL_law_1288 ?_
      refine xl_i (y := xs (i + 2)) (congrArg xs (x_sc (k := 2) (by decide) hi hL)) ?_
      refine lv_aload_n hx hb dL_law_1289 rfl (lv_at hl 3 rfl) ?_
      refine lv_iload_n hx hb dL_law_1290 rfl (lv_at hl 0 rfl) ?_
      refine lv_iconst (v := 3) hx hb dL_law_1291 (by decide) ?_
      refine lv_iadd hx hb dL_law_1292 ?_
      refine xl_i (y := nI (i + 3)) (nI_add i 3) ?_
      refine va_sld hx hb hX hbl hbA hS (x_si (k := 3) (by decide) hi hL) dL_law_1293 ?_
      refine xl_i (y := xs (i + 3)) (congrArg xs (x_sc (k := 3) (by decide) hi hL)) ?_
      refine xl_i (y := 0) eq3 ?_
      refine lv_aload_n hx hb dL_law_1294 rfl (lv_at hl 3 rfl) ?_
      refine lv_iload_n hx hb dL_law_1295 rfl (lv_at hl 0 rfl) ?_
      refine lv_iconst (v := 4) hx hb dL_law_1296 (by decide) ?_
      refine lv_iadd hx hb dL_law_1297 ?_
      refine xl_i (y := nI (i + 4)) (nI_add i 4) ?_
      refine va_sld hx hb hX hbl hbA hS (x_si (k := 4) (by decide) hi hL) dL_law_1298 ?_
      refine xl_i (y := xs (i + 4)) (congrArg xs (x_sc (k := 4) (by decide) hi hL)) ?_
      refine lv_aload_n hx hb dL_law_1299 rfl (lv_at hl 3 rfl) ?_
      refine lv_iload_n hx hb dL_law_1300 rfl (lv_at hl 0 rfl) ?_
      refine lv_iconst (v := 5) hx hb dL_law_1301 (by decide) ?_
      refine lv_iadd hx hb dL_law_1302 ?_
      refine xl_i (y := nI (i + 5)) (nI_add i 5) ?_
      refine va_sld hx hb hX hbl hbA hS (x_si (k := 5) (by decide) hi hL) dL_law_1303 ?_
      refine xl_i (y := xs (i + 5)) (congrArg xs (x_sc (k := 5) (by decide) hi hL)) ?_
      refine xc_ViT (wr := [(g0, .inr (9, [.ref m_ys, .ref m_yk, .ref m_yo, .ref m_yt, .int b0, .ref m_yfa, .ref m_yfe, .int m_mL, .int m_mS, .int m_mM, .ref m_yro, .ref m_yhe, .ref m_ygr, .int m_mF, .int m_mC, .int m_mY, .ref m_yta, .int (nI (z)), .int (nI (m_mf)), .int (nI (m_mt)), .int m_mv, .int m_mw, .ref m_ywa, .ref m_ybi, .ref m_ysi, .ref m_ynu, .ref m_ymo])), (m_yt, .inl (cI, 7, .inl m_mq)), (m_ybi, .inl (cI, 4, .inl m_bi)), (m_ysi, .inl (cI, 4, .inl m_sq)), (m_ynu, .inl (cJ, 160, .inr (.inl m_nb))), (m_ymo, .inl (cJ, 40, .inr (.inl m_mv9)))]) hF (c_X8_copy_00 l D cI cJ cZ cS ta sa sv H.size h0 qh qk qd b0 qa qm qs qp ql qt qz qf s0 s1 s2 s3 bt0 sz0 sn0 bt1 sz1 sn1 bt2 sz2 sn2 bt3 sz3 sn3 nu0 nu1 nu2 nu3 ff (xs (i + 2)) (xs (i + 4)) (xs (i + 5)) hsz0 hsz1 hsz2 hsz3) kv_L_166 ⟨rfl, rfl, Nat.le_of_ble_eq_true rfl, Nat.le_of_ble_eq_true rfl⟩ ⟨Nat.le_of_ble_eq_true rfl, Nat.le_of_ble_eq_true rfl⟩ hK hN hZ hP hD hS hA [0, 1, 2, 3, 4, 5, 6, 7, 8, 9, 10] [11, 12, 13, 14, 15, 16] rfl rfl (by decide +kernel) (by decide +kernel) (by decide +kernel) 0 rfl rfl rfl rfl hl.1 rfl (Nat.le_of_ble_eq_true rfl) dL_law_1304 (fun r_31 u_r_31 H locs hw_r_31 hP hD hS => ?_)
      obtain ⟨nv_32, f2_33⟩ := u_r_31
      try dsimp only at hw_r_31
      obtain ⟨hw_r_31, i_34⟩ := hw_r_31
      have hP : va_P D vwCl (@HAppend.hAppend va_W va_W va_W _ [(g0, .inr (9, [.ref m_ys, .ref m_yk, .ref m_yo, .ref m_yt, .int b0, .ref m_yfa, .ref m_yfe, .int m_mL, .int m_mS, .int m_mM, .ref m_yro, .ref m_yhe, .ref m_ygr, .int m_mF, .int m_mC, .int m_mY, .ref m_yta, .int (nI (z)), .int (nI (m_mf)), .int (nI (m_mt)), .int m_mv, .int m_mw, .ref m_ywa, .ref m_ybi, .ref m_ysi, .ref m_ynu, .ref m_ymo])), (m_yt, .inl (cI, 7, .inl m_mq)), (m_ybi, .inl (cI, 4, .inl m_bi)), (m_ysi, .inl (cI, 4, .inl m_sq)), (m_ynu, .inl (cJ, 160, .inr (.inl m_nb))), (m_ymo, .inl (cJ, 40, .inr (.inl m_mv9))), (h0, .inr (8, [.ref qh, .ref qk, .ref qd, .int b0, .ref qa, .ref qm, .ref qs, .ref qp, .ref ql, .ref qt, .ref qz, .ref qf])), (qz, .inl (cS, 4, .inr (.inr (.inr (.inr (xSh s0 s1 s2 s3)))))), (s0, .inr (4, [.int bt0, .int (nI (sz0)), .ref sn0])), (s1, .inr (4, [.int bt1, .int (nI (sz1)), .ref sn1])), (s2, .inr (4, [.int bt2, .int (nI (sz2)), .ref sn2])), (s3, .inr (4, [.int bt3, .int (nI (sz3)), .ref sn3])), (sn0, .inl (cJ, 40, .inr (.inl nv_32))), (sn1, .inl (cJ, 40, .inr (.inl nu1))), (sn2, .inl (cJ, 40, .inr (.inl nu2))), (sn3, .inl (cJ, 40, .inr (.inl nu3))), (qf, .inl (cI, 7, .inl f2_33))] tl) H := hP
      have hD : va_D A (@HAppend.hAppend va_W va_W va_W _ [(g0, .inr (9, [.ref m_ys, .ref m_yk, .ref m_yo, .ref m_yt, .int b0, .ref m_yfa, .ref m_yfe, .int m_mL, .int m_mS, .int m_mM, .ref m_yro, .ref m_yhe, .ref m_ygr, .int m_mF, .int m_mC, .int m_mY, .ref m_yta, .int (nI (z)), .int (nI (m_mf)), .int (nI (m_mt)), .int m_mv, .int m_mw, .ref m_ywa, .ref m_ybi, .ref m_ysi, .ref m_ynu, .ref m_ymo])), (m_yt, .inl (cI, 7, .inl m_mq)), (m_ybi, .inl (cI, 4, .inl m_bi)), (m_ysi, .inl (cI, 4, .inl m_sq)), (m_ynu, .inl (cJ, 160, .inr (.inl m_nb))), (m_ymo, .inl (cJ, 40, .inr (.inl m_mv9))), (h0, .inr (8, [.ref qh, .ref qk, .ref qd, .int b0, .ref qa, .ref qm, .ref qs, .ref qp, .ref ql, .ref qt, .ref qz, .ref qf])), (qz, .inl (cS, 4, .inr (.inr (.inr (.inr (xSh s0 s1 s2 s3)))))), (s0, .inr (4, [.int bt0, .int (nI (sz0)), .ref sn0])), (s1, .inr (4, [.int bt1, .int (nI (sz1)), .ref sn1])), (s2, .inr (4, [.int bt2, .int (nI (sz2)), .ref sn2])), (s3, .inr (4, [.int bt3, .int (nI (sz3)), .ref sn3])), (sn0, .inl (cJ, 40, .inr (.inl nv_32))), (sn1, .inl (cJ, 40, .inr (.inl nu1))), (sn2, .inl (cJ, 40, .inr (.inl nu2))), (sn3, .inl (cJ, 40, .inr (.inl nu3))), (qf, .inl (cI, 7, .inl f2_33))] tl) := hD
      subst hw_r_31
      refine lv_aload_n hx hb dL_law_1307 rfl (lv_at hl 1 rfl) ?_
      refine lv_aload_n hx hb dL_law_1308 rfl (lv_at hl 3 rfl) ?_
      refine lv_iload_n hx hb dL_law_1309 rfl (lv_at hl 0 rfl) ?_
      refine lv_iconst (v := 1) hx hb dL_law_1310 (by decide) ?_
      refine lv_iadd hx hb dL_law_1311 ?_
      refine xl_i (y := nI (i + 1)) (nI_add i 1) ?_
      refine va_sld hx hb hX hbl hbA hS (x_si (k := 1) (by decide) hi hL) dL_law_1312 ?_
      refine xl_i (y := xs (i + 1)) (congrArg xs (x_sc (k := 1) (by decide) hi hL)) ?_
      refine xl_i (y := 0) eq1 ?_
      refine lv_aload_n hx hb dL_law_1313 rfl (lv_at hl 3 rfl) ?_
      refine lv_iload_n hx hb dL_law_1314 rfl (lv_at hl 0 rfl) ?_
      refine lv_iconst (v := 2) hx hb dL_law_1315 (by decide) ?_
      refine lv_iadd hx hb dL_law_1316 ?_
      refine xl_i (y := nI (i + 2)) (nI_add i 2) ?_
      refine va_sld hx hb hX hbl hbA hS (x_si (k := 2) (by decide) hi hL) dL_law_1317 ?_
      refine xl_i (y := xs (i + 2)) (congrArg xs (x_sc (k := 2) (by decide) hi hL)) ?_
      refine lv_aload_n hx hb dL_law_1318 rfl (lv_at hl 3 rfl) ?_
      refine lv_iload_n hx hb dL_law_1319 rfl (lv_at hl 0 rfl) ?_
      refine lv_iconst (v := 3) hx hb dL_law_1320 (by decide) ?_
      refine lv_iadd hx hb dL_law_1321 ?_
      refine xl_i (y := nI (i + 3)) (nI_add i 3) ?_
      refine va_sld hx hb hX hbl hbA hS (x_si (k := 3) (by decide) hi hL) dL_law_1322 ?_
      refine xl_i (y := xs (i + 3)) (congrArg xs (x_sc (k := 3) (by decide) hi hL)) ?_
      refine xl_i (y := 0) eq3 ?_
      refine lv_aload_n hx hb dL_law_1323 rfl (lv_at hl 3 rfl) ?_
      refine lv_iload_n hx hb dL_law_1324 rfl (lv_at hl 0 rfl) ?_
      refine lv_iconst (v := 4) hx hb dL_law_1325 (by decide) ?_
      refine lv_iadd hx hb dL_law_1326 ?_
      refine xl_i (y := nI (i + 4)) (nI_add i 4) ?_
      refine va_sld hx hb hX hbl hbA hS (x_si (k := 4) (by decide) hi hL) dL_law_1327 ?_
      refine xl_i (y := xs (i + 4)) (congrArg xs (x_sc (k := 4) (by decide) hi hL)) ?_
      refine lv_aload_n hx hb dL_law_1328 rfl (lv_at hl 3 rfl) ?_
      refine lv_iload_n hx hb dL_law_1329 rfl (lv_at hl 0 rfl) ?_
      refine lv_iconst (v := 5) hx hb dL_law_1330 (by decide) ?_
      refine lv_iadd hx hb dL_law_1331 ?_
      refine xl_i (y := nI (i + 5)) (nI_add i 5) ?_
      refine va_sld hx hb hX hbl hbA hS (x_si (k := 5) (by decide) hi hL) dL_law_1332 ?_
      refine xl_i (y := xs (i + 5)) (congrArg xs (x_sc (k := 5) (by decide) hi hL)) ?_
      refine xc_ViT (wr := [(h0, .inr (8, [.ref qh, .ref qk, .ref qd, .int b0, .ref qa, .ref qm, .ref qs, .ref qp, .ref ql, .ref qt, .ref qz, .ref qf])), (qz, .inl (cS, 4, .inr (.inr (.inr (.inr (xSh s0 s1 s2 s3)))))), (s0, .inr (4, [.int bt0, .int (nI (sz0)), .ref sn0])), (s1, .inr (4, [.int bt1, .int (nI (sz1)), .ref sn1])), (s2, .inr (4, [.int bt2, .int (nI (sz2)), .ref sn2])), (s3, .inr (4, [.int bt3, .int (nI (sz3)), .ref sn3])), (sn0, .inl (cJ, 40, .inr (.inl nv_32))), (sn1, .inl (cJ, 40, .inr (.inl nu1))), (sn2, .inl (cJ, 40, .inr (.inl nu2))), (sn3, .inl (cJ, 40, .inr (.inl nu3))), (qf, .inl (cI, 7, .inl f2_33))]) hF (c_X9_copy_00 l D cI cJ cZ cS ta sa sv H.size g0 m_ys m_yk m_yo m_yt b0 m_yfa m_yfe m_mL m_mS m_mM m_yro m_yhe m_ygr m_mF m_mC m_mY m_yta z m_mf m_mt m_mv m_mw m_ywa m_ybi m_ysi m_ynu m_ymo m_bi m_sq m_nb m_mv9 m_mq (xs (i + 2)) (xs (i + 4)) (xs (i + 5)) sz0 sz0 r_z0 hsz0 r_z0 hsz0 m_hsq) kv_L_170 ⟨rfl, rfl, Nat.le_of_ble_eq_true rfl, Nat.le_of_ble_eq_true rfl⟩ ⟨Nat.le_of_ble_eq_true rfl, Nat.le_of_ble_eq_true rfl⟩ hK hN hZ hP hD hS hA [0, 2, 3, 4, 5, 1] [6, 7, 8, 9, 10, 11, 12, 13, 14, 15, 16] rfl rfl (by decide +kernel) (by decide +kernel) (by decide +kernel) 0 rfl rfl rfl rfl hl.1 rfl (Nat.le_of_ble_eq_true rfl) dL_law_1333 (fun r_35 u_r_35 H locs hw_r_35 hP hD hS => ?_)
      obtain ⟨nb2_36, mv2_37, mq2_38⟩ := u_r_35
      try dsimp only at hw_r_35
      obtain ⟨hw_r_35, i_39, i_40⟩ := hw_r_35
      have hP : va_P D vwCl (@HAppend.hAppend va_W va_W va_W _ [(h0, .inr (8, [.ref qh, .ref qk, .ref qd, .int b0, .ref qa, .ref qm, .ref qs, .ref qp, .ref ql, .ref qt, .ref qz, .ref qf])), (qz, .inl (cS, 4, .inr (.inr (.inr (.inr (xSh s0 s1 s2 s3)))))), (s0, .inr (4, [.int bt0, .int (nI (sz0)), .ref sn0])), (s1, .inr (4, [.int bt1, .int (nI (sz1)), .ref sn1])), (s2, .inr (4, [.int bt2, .int (nI (sz2)), .ref sn2])), (s3, .inr (4, [.int bt3, .int (nI (sz3)), .ref sn3])), (sn0, .inl (cJ, 40, .inr (.inl nv_32))), (sn1, .inl (cJ, 40, .inr (.inl nu1))), (sn2, .inl (cJ, 40, .inr (.inl nu2))), (sn3, .inl (cJ, 40, .inr (.inl nu3))), (qf, .inl (cI, 7, .inl f2_33)), (g0, .inr (9, [.ref m_ys, .ref m_yk, .ref m_yo, .ref m_yt, .int b0, .ref m_yfa, .ref m_yfe, .int m_mL, .int m_mS, .int m_mM, .ref m_yro, .ref m_yhe, .ref m_ygr, .int m_mF, .int m_mC, .int m_mY, .ref m_yta, .int (nI (z)), .int (nI (m_mf)), .int (nI (m_mt)), .int m_mv, .int m_mw, .ref m_ywa, .ref m_ybi, .ref m_ysi, .ref m_ynu, .ref m_ymo])), (m_ybi, .inl (cI, 4, .inl m_bi)), (m_ysi, .inl (cI, 4, .inl m_sq)), (m_ynu, .inl (cJ, 160, .inr (.inl nb2_36))), (m_ymo, .inl (cJ, 40, .inr (.inl mv2_37))), (m_yt, .inl (cI, 7, .inl mq2_38))] tl) H := hP
      have hD : va_D A (@HAppend.hAppend va_W va_W va_W _ [(h0, .inr (8, [.ref qh, .ref qk, .ref qd, .int b0, .ref qa, .ref qm, .ref qs, .ref qp, .ref ql, .ref qt, .ref qz, .ref qf])), (qz, .inl (cS, 4, .inr (.inr (.inr (.inr (xSh s0 s1 s2 s3)))))), (s0, .inr (4, [.int bt0, .int (nI (sz0)), .ref sn0])), (s1, .inr (4, [.int bt1, .int (nI (sz1)), .ref sn1])), (s2, .inr (4, [.int bt2, .int (nI (sz2)), .ref sn2])), (s3, .inr (4, [.int bt3, .int (nI (sz3)), .ref sn3])), (sn0, .inl (cJ, 40, .inr (.inl nv_32))), (sn1, .inl (cJ, 40, .inr (.inl nu1))), (sn2, .inl (cJ, 40, .inr (.inl nu2))), (sn3, .inl (cJ, 40, .inr (.inl nu3))), (qf, .inl (cI, 7, .inl f2_33)), (g0, .inr (9, [.ref m_ys, .ref m_yk, .ref m_yo, .ref m_yt, .int b0, .ref m_yfa, .ref m_yfe, .int m_mL, .int m_mS, .int m_mM, .ref m_yro, .ref m_yhe, .ref m_ygr, .int m_mF, .int m_mC, .int m_mY, .ref m_yta, .int (nI (z)), .int (nI (m_mf)), .int (nI (m_mt)), .int m_mv, .int m_mw, .ref m_ywa, .ref m_ybi, .ref m_ysi, .ref m_ynu, .ref m_ymo])), (m_ybi, .inl (cI, 4, .inl m_bi)), (m_ysi, .inl (cI, 4, .inl m_sq)), (m_ynu, .inl (cJ, 160, .inr (.inl nb2_36))), (m_ymo, .inl (cJ, 40, .inr (.inl mv2_37))), (m_yt, .inl (cI, 7, .inl mq2_38))] tl) := hD
      subst hw_r_35
      refine lv_icmp_eq (tgt := 1482) hx hb dL_law_1336 (by decide) (fun c_41 => ?_) (fun c_41 => absurd (sp_creq r_b0 r_b0) c_41)
      exact kkx _ _ _ nv_32 nu1 nu2 nu3 f2_33 mq2_38 nb2_36 mv2_37 (xt_P hP [0, 1, 2, 3, 4, 5, 6, 7, 8, 9, 10, 11, 16, 12, 13, 14, 15] rfl) (xt_D hD [0, 1, 2, 3, 4, 5, 6, 7, 8, 9, 10, 11, 16, 12, 13, 14, 15] (by decide +kernel) rfl) (fun j hj => (i_39 j).trans ((sp_cneq r_b0 r_b0 r_n0 (by omega) (r_n0 j hj)).trans (i_34 j).symm)) (fun j hj => (i_40 (40 + j) (by omega)).trans (r_n1 j hj)) (fun j hj => (i_40 (80 + j) (by omega)).trans (r_n2 j hj)) (fun j hj => (i_40 (120 + j) (by omega)).trans (r_n3 j hj)) hS hl
    · skip
      refine lv_aload_n hx hb dL_law_1279 rfl (lv_at hl 3 rfl) ?_
      refine lv_iload_n hx hb dL_law_1280 rfl (lv_at hl 0 rfl) ?_
      refine lv_iconst (v := 1) hx hb dL_law_1281 (by decide) ?_
      refine lv_iadd hx hb dL_law_1282 ?_
      refine xl_i (y := nI (i + 1)) (nI_add i 1) ?_
      refine va_sld hx hb hX hbl hbA hS (x_si (k := 1) (by decide) hi hL) dL_law_1283 ?_
      refine xl_i (y := xs (i + 1)) (congrArg xs (x_sc (k := 1) (by decide) hi hL)) ?_
      refine xl_i (y := 0) eq1 ?_
      refine lv_aload_n hx hb dL_law_1284 rfl (lv_at hl 3 rfl) ?_
      refine lv_iload_n hx hb dL_law_1285 rfl (lv_at hl 0 rfl) ?_
      refine lv_iconst (v := 2) hx hb dL_law_1286 (by decide) ?_
      refine lv_iadd hx hb dL_law_1287 ?_
      refine xl_i (y := nI (i + 2)) (nI_add i 2) ?_
      refine va_sld hx hb hX hbl hbA hS (x_si (k := 2) (by decide) hi hL) dL_law_1288 ?_
      refine xl_i (y := xs (i + 2)) (congrArg xs (x_sc (k := 2) (by decide) hi hL)) ?_
      refine lv_aload_n hx hb dL_law_1289 rfl (lv_at hl 3 rfl) ?_
      refine lv_iload_n hx hb dL_law_1290 rfl (lv_at hl 0 rfl) ?_
      refine lv_iconst (v := 3) hx hb dL_law_1291 (by decide) ?_
      refine lv_iadd hx hb dL_law_1292 ?_
      refine xl_i (y := nI (i + 3)) (nI_add i 3) ?_
      refine va_sld hx hb hX hbl hbA hS (x_si (k := 3) (by decide) hi hL) dL_law_1293 ?_
      refine xl_i (y := xs (i + 3)) (congrArg xs (x_sc (k := 3) (by decide) hi hL)) ?_
      refine xl_i (y := 1) eq3 ?_
      refine lv_aload_n hx hb dL_law_1294 rfl (lv_at hl 3 rfl) ?_
      refine lv_iload_n hx hb dL_law_1295 rfl (lv_at hl 0 rfl) ?_
      refine lv_iconst (v := 4) hx hb dL_law_1296 (by decide) ?_
      refine lv_iadd hx hb dL_law_1297 ?_
      refine xl_i (y := nI (i + 4)) (nI_add i 4) ?_
      refine va_sld hx hb hX hbl hbA hS (x_si (k := 4) (by decide) hi hL) dL_law_1298 ?_
      refine xl_i (y := xs (i + 4)) (congrArg xs (x_sc (k := 4) (by decide) hi hL)) ?_
      refine lv_aload_n hx hb dL_law_1299 rfl (lv_at hl 3 rfl) ?_
      refine lv_iload_n hx hb dL_law_1300 rfl (lv_at hl 0 rfl) ?_
      refine lv_iconst (v := 5) hx hb dL_law_1301 (by decide) ?_
      refine lv_iadd hx hb dL_law_1302 ?_
      refine xl_i (y := nI (i + 5)) (nI_add i 5) ?_
      refine va_sld hx hb hX hbl hbA hS (x_si (k := 5) (by decide) hi hL) dL_law_1303 ?_
      refine xl_i (y := xs (i + 5)) (congrArg xs (x_sc (k := 5) (by decide) hi hL)) ?_
      refine xc_ViT (wr := [(g0, .inr (9, [.ref m_ys, .ref m_yk, .ref m_yo, .ref m_yt, .int b0, .ref m_yfa, .ref m_yfe, .int m_mL, .int m_mS, .int m_mM, .ref m_yro, .ref m_yhe, .ref m_ygr, .int m_mF, .int m_mC, .int m_mY, .ref m_yta, .int (nI (z)), .int (nI (m_mf)), .int (nI (m_mt)), .int m_mv, .int m_mw, .ref m_ywa, .ref m_ybi, .ref m_ysi, .ref m_ynu, .ref m_ymo])), (m_yt, .inl (cI, 7, .inl m_mq)), (m_ybi, .inl (cI, 4, .inl m_bi)), (m_ysi, .inl (cI, 4, .inl m_sq)), (m_ynu, .inl (cJ, 160, .inr (.inl m_nb))), (m_ymo, .inl (cJ, 40, .inr (.inl m_mv9)))]) hF (c_X8_copy_01 l D cI cJ cZ cS ta sa sv H.size h0 qh qk qd b0 qa qm qs qp ql qt qz qf s0 s1 s2 s3 bt0 sz0 sn0 bt1 sz1 sn1 bt2 sz2 sn2 bt3 sz3 sn3 nu0 nu1 nu2 nu3 ff (xs (i + 2)) (xs (i + 4)) (xs (i + 5)) hsz0 hsz1 hsz2 hsz3) kv_L_166 ⟨rfl, rfl, Nat.le_of_ble_eq_true rfl, Nat.le_of_ble_eq_true rfl⟩ ⟨Nat.le_of_ble_eq_true rfl, Nat.le_of_ble_eq_true rfl⟩ hK hN hZ hP hD hS hA [0, 1, 2, 3, 4, 5, 6, 7, 8, 9, 10] [11, 12, 13, 14, 15, 16] rfl rfl (by decide +kernel) (by decide +kernel) (by decide +kernel) 0 rfl rfl rfl rfl hl.1 rfl (Nat.le_of_ble_eq_true rfl) dL_law_1304 (fun r_42 u_r_42 H locs hw_r_42 hP hD hS => ?_)
      obtain ⟨nv_43, f2_44⟩ := u_r_42
      try dsimp only at hw_r_42
      obtain ⟨hw_r_42, i_45⟩ := hw_r_42
      have hP : va_P D vwCl (@HAppend.hAppend va_W va_W va_W _ [(g0, .inr (9, [.ref m_ys, .ref m_yk, .ref m_yo, .ref m_yt, .int b0, .ref m_yfa, .ref m_yfe, .int m_mL, .int m_mS, .int m_mM, .ref m_yro, .ref m_yhe, .ref m_ygr, .int m_mF, .int m_mC, .int m_mY, .ref m_yta, .int (nI (z)), .int (nI (m_mf)), .int (nI (m_mt)), .int m_mv, .int m_mw, .ref m_ywa, .ref m_ybi, .ref m_ysi, .ref m_ynu, .ref m_ymo])), (m_yt, .inl (cI, 7, .inl m_mq)), (m_ybi, .inl (cI, 4, .inl m_bi)), (m_ysi, .inl (cI, 4, .inl m_sq)), (m_ynu, .inl (cJ, 160, .inr (.inl m_nb))), (m_ymo, .inl (cJ, 40, .inr (.inl m_mv9))), (h0, .inr (8, [.ref qh, .ref qk, .ref qd, .int b0, .ref qa, .ref qm, .ref qs, .ref qp, .ref ql, .ref qt, .ref qz, .ref qf])), (qz, .inl (cS, 4, .inr (.inr (.inr (.inr (xSh s0 s1 s2 s3)))))), (s0, .inr (4, [.int bt0, .int (nI (sz0)), .ref sn0])), (s1, .inr (4, [.int bt1, .int (nI (sz1)), .ref sn1])), (s2, .inr (4, [.int bt2, .int (nI (sz2)), .ref sn2])), (s3, .inr (4, [.int bt3, .int (nI (sz3)), .ref sn3])), (sn0, .inl (cJ, 40, .inr (.inl nu0))), (sn1, .inl (cJ, 40, .inr (.inl nv_43))), (sn2, .inl (cJ, 40, .inr (.inl nu2))), (sn3, .inl (cJ, 40, .inr (.inl nu3))), (qf, .inl (cI, 7, .inl f2_44))] tl) H := hP
      have hD : va_D A (@HAppend.hAppend va_W va_W va_W _ [(g0, .inr (9, [.ref m_ys, .ref m_yk, .ref m_yo, .ref m_yt, .int b0, .ref m_yfa, .ref m_yfe, .int m_mL, .int m_mS, .int m_mM, .ref m_yro, .ref m_yhe, .ref m_ygr, .int m_mF, .int m_mC, .int m_mY, .ref m_yta, .int (nI (z)), .int (nI (m_mf)), .int (nI (m_mt)), .int m_mv, .int m_mw, .ref m_ywa, .ref m_ybi, .ref m_ysi, .ref m_ynu, .ref m_ymo])), (m_yt, .inl (cI, 7, .inl m_mq)), (m_ybi, .inl (cI, 4, .inl m_bi)), (m_ysi, .inl (cI, 4, .inl m_sq)), (m_ynu, .inl (cJ, 160, .inr (.inl m_nb))), (m_ymo, .inl (cJ, 40, .inr (.inl m_mv9))), (h0, .inr (8, [.ref qh, .ref qk, .ref qd, .int b0, .ref qa, .ref qm, .ref qs, .ref qp, .ref ql, .ref qt, .ref qz, .ref qf])), (qz, .inl (cS, 4, .inr (.inr (.inr (.inr (xSh s0 s1 s2 s3)))))), (s0, .inr (4, [.int bt0, .int (nI (sz0)), .ref sn0])), (s1, .inr (4, [.int bt1, .int (nI (sz1)), .ref sn1])), (s2, .inr (4, [.int bt2, .int (nI (sz2)), .ref sn2])), (s3, .inr (4, [.int bt3, .int (nI (sz3)), .ref sn3])), (sn0, .inl (cJ, 40, .inr (.inl nu0))), (sn1, .inl (cJ, 40, .inr (.inl nv_43))), (sn2, .inl (cJ, 40, .inr (.inl nu2))), (sn3, .inl (cJ, 40, .inr (.inl nu3))), (qf, .inl (cI, 7, .inl f2_44))] tl) := hD
      subst hw_r_42
      refine lv_aload_n hx hb dL_law_1307 rfl (lv_at hl 1 rfl) ?_
      refine lv_aload_n hx hb dL_law_1308 rfl (lv_at hl 3 rfl) ?_
      refine lv_iload_n hx hb dL_law_1309 rfl (lv_at hl 0 rfl) ?_
      refine lv_iconst (v := 1) hx hb dL_law_1310 (by decide) ?_
      refine lv_iadd hx hb dL_law_1311 ?_
      refine xl_i (y := nI (i + 1)) (nI_add i 1) ?_
      refine va_sld hx hb hX hbl hbA hS (x_si (k := 1) (by decide) hi hL) dL_law_1312 ?_
      refine xl_i (y := xs (i + 1)) (congrArg xs (x_sc (k := 1) (by decide) hi hL)) ?_
      refine xl_i (y := 0) eq1 ?_
      refine lv_aload_n hx hb dL_law_1313 rfl (lv_at hl 3 rfl) ?_
      refine lv_iload_n hx hb dL_law_1314 rfl (lv_at hl 0 rfl) ?_
      refine lv_iconst (v := 2) hx hb dL_law_1315 (by decide) ?_
      refine lv_iadd hx hb dL_law_1316 ?_
      refine xl_i (y := nI (i + 2)) (nI_add i 2) ?_
      refine va_sld hx hb hX hbl hbA hS (x_si (k := 2) (by decide) hi hL) dL_law_1317 ?_
      refine xl_i (y := xs (i + 2)) (congrArg xs (x_sc (k := 2) (by decide) hi hL)) ?_
      refine lv_aload_n hx hb dL_law_1318 rfl (lv_at hl 3 rfl) ?_
      refine lv_iload_n hx hb dL_law_1319 rfl (lv_at hl 0 rfl) ?_
      refine lv_iconst (v := 3) hx hb dL_law_1320 (by decide) ?_
      refine lv_iadd hx hb dL_law_1321 ?_
      refine xl_i (y := nI (i + 3)) (nI_add i 3) ?_
      refine va_sld hx hb hX hbl hbA hS (x_si (k := 3) (by decide) hi hL) dL_law_1322 ?_
      refine xl_i (y := xs (i + 3)) (congrArg xs (x_sc (k := 3) (by decide) hi hL)) ?_
      refine xl_i (y := 1) eq3 ?_
      refine lv_aload_n hx hb dL_law_1323 rfl (lv_at hl 3 rfl) ?_
      refine lv_iload_n hx hb dL_law_1324 rfl (lv_at hl 0 rfl) ?_
      refine lv_iconst (v := 4) hx hb dL_law_1325 (by decide) ?_
      refine lv_iadd hx hb dL_law_1326 ?_
      refine xl_i (y := nI (i + 4)) (nI_add i 4) ?_
      refine va_sld hx hb hX hbl hbA hS (x_si (k := 4) (by decide) hi hL) dL_law_1327 ?_
      refine xl_i (y := xs (i + 4)) (congrArg xs (x_sc (k := 4) (by decide) hi hL)) ?_
      refine lv_aload_n hx hb dL_law_1328 rfl (lv_at hl 3 rfl) ?_
      refine lv_iload_n hx hb dL_law_1329 rfl (lv_at hl 0 rfl) ?_
      refine lv_iconst (v := 5) hx hb dL_law_1330 (by decide) ?_
      refine lv_iadd hx hb dL_law_1331 ?_
      refine xl_i (y := nI (i + 5)) (nI_add i 5) ?_
      refine va_sld hx hb hX hbl hbA hS (x_si (k := 5) (by decide) hi hL) dL_law_1332 ?_
      refine xl_i (y := xs (i + 5)) (congrArg xs (x_sc (k := 5) (by decide) hi hL)) ?_
      refine xc_ViT (wr := [(h0, .inr (8, [.ref qh, .ref qk, .ref qd, .int b0, .ref qa, .ref qm, .ref qs, .ref qp, .ref ql, .ref qt, .ref qz, .ref qf])), (qz, .inl (cS, 4, .inr (.inr (.inr (.inr (xSh s0 s1 s2 s3)))))), (s0, .inr (4, [.int bt0, .int (nI (sz0)), .ref sn0])), (s1, .inr (4, [.int bt1, .int (nI (sz1)), .ref sn1])), (s2, .inr (4, [.int bt2, .int (nI (sz2)), .ref sn2])), (s3, .inr (4, [.int bt3, .int (nI (sz3)), .ref sn3])), (sn0, .inl (cJ, 40, .inr (.inl nu0))), (sn1, .inl (cJ, 40, .inr (.inl nv_43))), (sn2, .inl (cJ, 40, .inr (.inl nu2))), (sn3, .inl (cJ, 40, .inr (.inl nu3))), (qf, .inl (cI, 7, .inl f2_44))]) hF (c_X9_copy_01 l D cI cJ cZ cS ta sa sv H.size g0 m_ys m_yk m_yo m_yt b0 m_yfa m_yfe m_mL m_mS m_mM m_yro m_yhe m_ygr m_mF m_mC m_mY m_yta z m_mf m_mt m_mv m_mw m_ywa m_ybi m_ysi m_ynu m_ymo m_bi m_sq m_nb m_mv9 m_mq (xs (i + 2)) (xs (i + 4)) (xs (i + 5)) sz0 sz1 r_z0 hsz0 r_z1 hsz1 m_hsq) kv_L_170 ⟨rfl, rfl, Nat.le_of_ble_eq_true rfl, Nat.le_of_ble_eq_true rfl⟩ ⟨Nat.le_of_ble_eq_true rfl, Nat.le_of_ble_eq_true rfl⟩ hK hN hZ hP hD hS hA [0, 2, 3, 4, 5, 1] [6, 7, 8, 9, 10, 11, 12, 13, 14, 15, 16] rfl rfl (by decide +kernel) (by decide +kernel) (by decide +kernel) 0 rfl rfl rfl rfl hl.1 rfl (Nat.le_of_ble_eq_true rfl) dL_law_1333 (fun r_46 u_r_46 H locs hw_r_46 hP hD hS => ?_)
      obtain ⟨nb2_47, mv2_48, mq2_49⟩ := u_r_46
      try dsimp only at hw_r_46
      obtain ⟨hw_r_46, i_50, i_51⟩ := hw_r_46
      have hP : va_P D vwCl (@HAppend.hAppend va_W va_W va_W _ [(h0, .inr (8, [.ref qh, .ref qk, .ref qd, .int b0, .ref qa, .ref qm, .ref qs, .ref qp, .ref ql, .ref qt, .ref qz, .ref qf])), (qz, .inl (cS, 4, .inr (.inr (.inr (.inr (xSh s0 s1 s2 s3)))))), (s0, .inr (4, [.int bt0, .int (nI (sz0)), .ref sn0])), (s1, .inr (4, [.int bt1, .int (nI (sz1)), .ref sn1])), (s2, .inr (4, [.int bt2, .int (nI (sz2)), .ref sn2])), (s3, .inr (4, [.int bt3, .int (nI (sz3)), .ref sn3])), (sn0, .inl (cJ, 40, .inr (.inl nu0))), (sn1, .inl (cJ, 40, .inr (.inl nv_43))), (sn2, .inl (cJ, 40, .inr (.inl nu2))), (sn3, .inl (cJ, 40, .inr (.inl nu3))), (qf, .inl (cI, 7, .inl f2_44)), (g0, .inr (9, [.ref m_ys, .ref m_yk, .ref m_yo, .ref m_yt, .int b0, .ref m_yfa, .ref m_yfe, .int m_mL, .int m_mS, .int m_mM, .ref m_yro, .ref m_yhe, .ref m_ygr, .int m_mF, .int m_mC, .int m_mY, .ref m_yta, .int (nI (z)), .int (nI (m_mf)), .int (nI (m_mt)), .int m_mv, .int m_mw, .ref m_ywa, .ref m_ybi, .ref m_ysi, .ref m_ynu, .ref m_ymo])), (m_ybi, .inl (cI, 4, .inl m_bi)), (m_ysi, .inl (cI, 4, .inl m_sq)), (m_ynu, .inl (cJ, 160, .inr (.inl nb2_47))), (m_ymo, .inl (cJ, 40, .inr (.inl mv2_48))), (m_yt, .inl (cI, 7, .inl mq2_49))] tl) H := hP
      have hD : va_D A (@HAppend.hAppend va_W va_W va_W _ [(h0, .inr (8, [.ref qh, .ref qk, .ref qd, .int b0, .ref qa, .ref qm, .ref qs, .ref qp, .ref ql, .ref qt, .ref qz, .ref qf])), (qz, .inl (cS, 4, .inr (.inr (.inr (.inr (xSh s0 s1 s2 s3)))))), (s0, .inr (4, [.int bt0, .int (nI (sz0)), .ref sn0])), (s1, .inr (4, [.int bt1, .int (nI (sz1)), .ref sn1])), (s2, .inr (4, [.int bt2, .int (nI (sz2)), .ref sn2])), (s3, .inr (4, [.int bt3, .int (nI (sz3)), .ref sn3])), (sn0, .inl (cJ, 40, .inr (.inl nu0))), (sn1, .inl (cJ, 40, .inr (.inl nv_43))), (sn2, .inl (cJ, 40, .inr (.inl nu2))), (sn3, .inl (cJ, 40, .inr (.inl nu3))), (qf, .inl (cI, 7, .inl f2_44)), (g0, .inr (9, [.ref m_ys, .ref m_yk, .ref m_yo, .ref m_yt, .int b0, .ref m_yfa, .ref m_yfe, .int m_mL, .int m_mS, .int m_mM, .ref m_yro, .ref m_yhe, .ref m_ygr, .int m_mF, .int m_mC, .int m_mY, .ref m_yta, .int (nI (z)), .int (nI (m_mf)), .int (nI (m_mt)), .int m_mv, .int m_mw, .ref m_ywa, .ref m_ybi, .ref m_ysi, .ref m_ynu, .ref m_ymo])), (m_ybi, .inl (cI, 4, .inl m_bi)), (m_ysi, .inl (cI, 4, .inl m_sq)), (m_ynu, .inl (cJ, 160, .inr (.inl nb2_47))), (m_ymo, .inl (cJ, 40, .inr (.inl mv2_48))), (m_yt, .inl (cI, 7, .inl mq2_49))] tl) := hD
      subst hw_r_46
      refine lv_icmp_eq (tgt := 1482) hx hb dL_law_1336 (by decide) (fun c_52 => ?_) (fun c_52 => absurd (sp_creq r_b0 r_b1) c_52)
      exact kkx _ _ _ nu0 nv_43 nu2 nu3 f2_44 mq2_49 nb2_47 mv2_48 (xt_P hP [0, 1, 2, 3, 4, 5, 6, 7, 8, 9, 10, 11, 16, 12, 13, 14, 15] rfl) (xt_D hD [0, 1, 2, 3, 4, 5, 6, 7, 8, 9, 10, 11, 16, 12, 13, 14, 15] (by decide +kernel) rfl) (fun j hj => (i_51 (0 + j) (by omega)).trans (r_n0 j hj)) (fun j hj => (i_50 j).trans ((sp_cneq r_b0 r_b1 r_n0 (by omega) (r_n1 j hj)).trans (i_45 j).symm)) (fun j hj => (i_51 (80 + j) (by omega)).trans (r_n2 j hj)) (fun j hj => (i_51 (120 + j) (by omega)).trans (r_n3 j hj)) hS hl
    · skip
      refine lv_aload_n hx hb dL_law_1279 rfl (lv_at hl 3 rfl) ?_
      refine lv_iload_n hx hb dL_law_1280 rfl (lv_at hl 0 rfl) ?_
      refine lv_iconst (v := 1) hx hb dL_law_1281 (by decide) ?_
      refine lv_iadd hx hb dL_law_1282 ?_
      refine xl_i (y := nI (i + 1)) (nI_add i 1) ?_
      refine va_sld hx hb hX hbl hbA hS (x_si (k := 1) (by decide) hi hL) dL_law_1283 ?_
      refine xl_i (y := xs (i + 1)) (congrArg xs (x_sc (k := 1) (by decide) hi hL)) ?_
      refine xl_i (y := 0) eq1 ?_
      refine lv_aload_n hx hb dL_law_1284 rfl (lv_at hl 3 rfl) ?_
      refine lv_iload_n hx hb dL_law_1285 rfl (lv_at hl 0 rfl) ?_
      refine lv_iconst (v := 2) hx hb dL_law_1286 (by decide) ?_
      refine lv_iadd hx hb dL_law_1287 ?_
      refine xl_i (y := nI (i + 2)) (nI_add i 2) ?_
      refine va_sld hx hb hX hbl hbA hS (x_si (k := 2) (by decide) hi hL) dL_law_1288 ?_
      refine xl_i (y := xs (i + 2)) (congrArg xs (x_sc (k := 2) (by decide) hi hL)) ?_
      refine lv_aload_n hx hb dL_law_1289 rfl (lv_at hl 3 rfl) ?_
      refine lv_iload_n hx hb dL_law_1290 rfl (lv_at hl 0 rfl) ?_
      refine lv_iconst (v := 3) hx hb dL_law_1291 (by decide) ?_
      refine lv_iadd hx hb dL_law_1292 ?_
      refine xl_i (y := nI (i + 3)) (nI_add i 3) ?_
      refine va_sld hx hb hX hbl hbA hS (x_si (k := 3) (by decide) hi hL) dL_law_1293 ?_
      refine xl_i (y := xs (i + 3)) (congrArg xs (x_sc (k := 3) (by decide) hi hL)) ?_
      refine xl_i (y := 2) eq3 ?_
      refine lv_aload_n hx hb dL_law_1294 rfl (lv_at hl 3 rfl) ?_
      refine lv_iload_n hx hb dL_law_1295 rfl (lv_at hl 0 rfl) ?_
      refine lv_iconst (v := 4) hx hb dL_law_1296 (by decide) ?_
      refine lv_iadd hx hb dL_law_1297 ?_
      refine xl_i (y := nI (i + 4)) (nI_add i 4) ?_
      refine va_sld hx hb hX hbl hbA hS (x_si (k := 4) (by decide) hi hL) dL_law_1298 ?_
      refine xl_i (y := xs (i + 4)) (congrArg xs (x_sc (k := 4) (by decide) hi hL)) ?_
      refine lv_aload_n hx hb dL_law_1299 rfl (lv_at hl 3 rfl) ?_
      refine lv_iload_n hx hb dL_law_1300 rfl (lv_at hl 0 rfl) ?_
      refine lv_iconst (v := 5) hx hb dL_law_1301 (by decide) ?_
      refine lv_iadd hx hb dL_law_1302 ?_
      refine xl_i (y := nI (i + 5)) (nI_add i 5) ?_
      refine va_sld hx hb hX hbl hbA hS (x_si (k := 5) (by decide) hi hL) dL_law_1303 ?_
      refine xl_i (y := xs (i + 5)) (congrArg xs (x_sc (k := 5) (by decide) hi hL)) ?_
      refine xc_ViT (wr := [(g0, .inr (9, [.ref m_ys, .ref m_yk, .ref m_yo, .ref m_yt, .int b0, .ref m_yfa, .ref m_yfe, .int m_mL, .int m_mS, .int m_mM, .ref m_yro, .ref m_yhe, .ref m_ygr, .int m_mF, .int m_mC, .int m_mY, .ref m_yta, .int (nI (z)), .int (nI (m_mf)), .int (nI (m_mt)), .int m_mv, .int m_mw, .ref m_ywa, .ref m_ybi, .ref m_ysi, .ref m_ynu, .ref m_ymo])), (m_yt, .inl (cI, 7, .inl m_mq)), (m_ybi, .inl (cI, 4, .inl m_bi)), (m_ysi, .inl (cI, 4, .inl m_sq)), (m_ynu, .inl (cJ, 160, .inr (.inl m_nb))), (m_ymo, .inl (cJ, 40, .inr (.inl m_mv9)))]) hF (c_X8_copy_02 l D cI cJ cZ cS ta sa sv H.size h0 qh qk qd b0 qa qm qs qp ql qt qz qf s0 s1 s2 s3 bt0 sz0 sn0 bt1 sz1 sn1 bt2 sz2 sn2 bt3 sz3 sn3 nu0 nu1 nu2 nu3 ff (xs (i + 2)) (xs (i + 4)) (xs (i + 5)) hsz0 hsz1 hsz2 hsz3) kv_L_166 ⟨rfl, rfl, Nat.le_of_ble_eq_true rfl, Nat.le_of_ble_eq_true rfl⟩ ⟨Nat.le_of_ble_eq_true rfl, Nat.le_of_ble_eq_true rfl⟩ hK hN hZ hP hD hS hA [0, 1, 2, 3, 4, 5, 6, 7, 8, 9, 10] [11, 12, 13, 14, 15, 16] rfl rfl (by decide +kernel) (by decide +kernel) (by decide +kernel) 0 rfl rfl rfl rfl hl.1 rfl (Nat.le_of_ble_eq_true rfl) dL_law_1304 (fun r_53 u_r_53 H locs hw_r_53 hP hD hS => ?_)
      obtain ⟨nv_54, f2_55⟩ := u_r_53
      try dsimp only at hw_r_53
      obtain ⟨hw_r_53, i_56⟩ := hw_r_53
      have hP : va_P D vwCl (@HAppend.hAppend va_W va_W va_W _ [(g0, .inr (9, [.ref m_ys, .ref m_yk, .ref m_yo, .ref m_yt, .int b0, .ref m_yfa, .ref m_yfe, .int m_mL, .int m_mS, .int m_mM, .ref m_yro, .ref m_yhe, .ref m_ygr, .int m_mF, .int m_mC, .int m_mY, .ref m_yta, .int (nI (z)), .int (nI (m_mf)), .int (nI (m_mt)), .int m_mv, .int m_mw, .ref m_ywa, .ref m_ybi, .ref m_ysi, .ref m_ynu, .ref m_ymo])), (m_yt, .inl (cI, 7, .inl m_mq)), (m_ybi, .inl (cI, 4, .inl m_bi)), (m_ysi, .inl (cI, 4, .inl m_sq)), (m_ynu, .inl (cJ, 160, .inr (.inl m_nb))), (m_ymo, .inl (cJ, 40, .inr (.inl m_mv9))), (h0, .inr (8, [.ref qh, .ref qk, .ref qd, .int b0, .ref qa, .ref qm, .ref qs, .ref qp, .ref ql, .ref qt, .ref qz, .ref qf])), (qz, .inl (cS, 4, .inr (.inr (.inr (.inr (xSh s0 s1 s2 s3)))))), (s0, .inr (4, [.int bt0, .int (nI (sz0)), .ref sn0])), (s1, .inr (4, [.int bt1, .int (nI (sz1)), .ref sn1])), (s2, .inr (4, [.int bt2, .int (nI (sz2)), .ref sn2])), (s3, .inr (4, [.int bt3, .int (nI (sz3)), .ref sn3])), (sn0, .inl (cJ, 40, .inr (.inl nu0))), (sn1, .inl (cJ, 40, .inr (.inl nu1))), (sn2, .inl (cJ, 40, .inr (.inl nv_54))), (sn3, .inl (cJ, 40, .inr (.inl nu3))), (qf, .inl (cI, 7, .inl f2_55))] tl) H := hP
      have hD : va_D A (@HAppend.hAppend va_W va_W va_W _ [(g0, .inr (9, [.ref m_ys, .ref m_yk, .ref m_yo, .ref m_yt, .int b0, .ref m_yfa, .ref m_yfe, .int m_mL, .int m_mS, .int m_mM, .ref m_yro, .ref m_yhe, .ref m_ygr, .int m_mF, .int m_mC, .int m_mY, .ref m_yta, .int (nI (z)), .int (nI (m_mf)), .int (nI (m_mt)), .int m_mv, .int m_mw, .ref m_ywa, .ref m_ybi, .ref m_ysi, .ref m_ynu, .ref m_ymo])), (m_yt, .inl (cI, 7, .inl m_mq)), (m_ybi, .inl (cI, 4, .inl m_bi)), (m_ysi, .inl (cI, 4, .inl m_sq)), (m_ynu, .inl (cJ, 160, .inr (.inl m_nb))), (m_ymo, .inl (cJ, 40, .inr (.inl m_mv9))), (h0, .inr (8, [.ref qh, .ref qk, .ref qd, .int b0, .ref qa, .ref qm, .ref qs, .ref qp, .ref ql, .ref qt, .ref qz, .ref qf])), (qz, .inl (cS, 4, .inr (.inr (.inr (.inr (xSh s0 s1 s2 s3)))))), (s0, .inr (4, [.int bt0, .int (nI (sz0)), .ref sn0])), (s1, .inr (4, [.int bt1, .int (nI (sz1)), .ref sn1])), (s2, .inr (4, [.int bt2, .int (nI (sz2)), .ref sn2])), (s3, .inr (4, [.int bt3, .int (nI (sz3)), .ref sn3])), (sn0, .inl (cJ, 40, .inr (.inl nu0))), (sn1, .inl (cJ, 40, .inr (.inl nu1))), (sn2, .inl (cJ, 40, .inr (.inl nv_54))), (sn3, .inl (cJ, 40, .inr (.inl nu3))), (qf, .inl (cI, 7, .inl f2_55))] tl) := hD
      subst hw_r_53
      refine lv_aload_n hx hb dL_law_1307 rfl (lv_at hl 1 rfl) ?_
      refine lv_aload_n hx hb dL_law_1308 rfl (lv_at hl 3 rfl) ?_
      refine lv_iload_n hx hb dL_law_1309 rfl (lv_at hl 0 rfl) ?_
      refine lv_iconst (v := 1) hx hb dL_law_1310 (by decide) ?_
      refine lv_iadd hx hb dL_law_1311 ?_
      refine xl_i (y := nI (i + 1)) (nI_add i 1) ?_
      refine va_sld hx hb hX hbl hbA hS (x_si (k := 1) (by decide) hi hL) dL_law_1312 ?_
      refine xl_i (y := xs (i + 1)) (congrArg xs (x_sc (k := 1) (by decide) hi hL)) ?_
      refine xl_i (y := 0) eq1 ?_
      refine lv_aload_n hx hb dL_law_1313 rfl (lv_at hl 3 rfl) ?_
      refine lv_iload_n hx hb dL_law_1314 rfl (lv_at hl 0 rfl) ?_
      refine lv_iconst (v := 2) hx hb dL_law_1315 (by decide) ?_
      refine lv_iadd hx hb dL_law_1316 ?_
      refine xl_i (y := nI (i + 2)) (nI_add i 2) ?_
      refine va_sld hx hb hX hbl hbA hS (x_si (k := 2) (by decide) hi hL) dL_law_1317 ?_
      refine xl_i (y := xs (i + 2)) (congrArg xs (x_sc (k := 2) (by decide) hi hL)) ?_
      refine lv_aload_n hx hb dL_law_1318 rfl (lv_at hl 3 rfl) ?_
      refine lv_iload_n hx hb dL_law_1319 rfl (lv_at hl 0 rfl) ?_
      refine lv_iconst (v := 3) hx hb dL_law_1320 (by decide) ?_
      refine lv_iadd hx hb dL_law_1321 ?_
      refine xl_i (y := nI (i + 3)) (nI_add i 3) ?_
      refine va_sld hx hb hX hbl hbA hS (x_si (k := 3) (by decide) hi hL) dL_law_1322 ?_
      refine xl_i (y := xs (i + 3)) (congrArg xs (x_sc (k := 3) (by decide) hi hL)) ?_
      refine xl_i (y := 2) eq3 ?_
      refine lv_aload_n hx hb dL_law_1323 rfl (lv_at hl 3 rfl) ?_
      refine lv_iload_n hx hb dL_law_1324 rfl (lv_at hl 0 rfl) ?_
      refine lv_iconst (v := 4) hx hb dL_law_1325 (by decide) ?_
      refine lv_iadd hx hb dL_law_1326 ?_
      refine xl_i (y := nI (i + 4)) (nI_add i 4) ?_
      refine va_sld hx hb hX hbl hbA hS (x_si (k := 4) (by decide) hi hL) dL_law_1327 ?_
      refine xl_i (y := xs (i + 4)) (congrArg xs (x_sc (k := 4) (by decide) hi hL)) ?_
      refine lv_aload_n hx hb dL_law_1328 rfl (lv_at hl 3 rfl) ?_
      refine lv_iload_n hx hb dL_law_1329 rfl (lv_at hl 0 rfl) ?_
      refine lv_iconst (v := 5) hx hb dL_law_1330 (by decide) ?_
      refine lv_iadd hx hb dL_law_1331 ?_
      refine xl_i (y := nI (i + 5)) (nI_add i 5) ?_
      refine va_sld hx hb hX hbl hbA hS (x_si (k := 5) (by decide) hi hL) dL_law_1332 ?_
      refine xl_i (y := xs (i + 5)) (congrArg xs (x_sc (k := 5) (by decide) hi hL)) ?_
      refine xc_ViT (wr := [(h0, .inr (8, [.ref qh, .ref qk, .ref qd, .int b0, .ref qa, .ref qm, .ref qs, .ref qp, .ref ql, .ref qt, .ref qz, .ref qf])), (qz, .inl (cS, 4, .inr (.inr (.inr (.inr (xSh s0 s1 s2 s3)))))), (s0, .inr (4, [.int bt0, .int (nI (sz0)), .ref sn0])), (s1, .inr (4, [.int bt1, .int (nI (sz1)), .ref sn1])), (s2, .inr (4, [.int bt2, .int (nI (sz2)), .ref sn2])), (s3, .inr (4, [.int bt3, .int (nI (sz3)), .ref sn3])), (sn0, .inl (cJ, 40, .inr (.inl nu0))), (sn1, .inl (cJ, 40, .inr (.inl nu1))), (sn2, .inl (cJ, 40, .inr (.inl nv_54))), (sn3, .inl (cJ, 40, .inr (.inl nu3))), (qf, .inl (cI, 7, .inl f2_55))]) hF (c_X9_copy_02 l D cI cJ cZ cS ta sa sv H.size g0 m_ys m_yk m_yo m_yt b0 m_yfa m_yfe m_mL m_mS m_mM m_yro m_yhe m_ygr m_mF m_mC m_mY m_yta z m_mf m_mt m_mv m_mw m_ywa m_ybi m_ysi m_ynu m_ymo m_bi m_sq m_nb m_mv9 m_mq (xs (i + 2)) (xs (i + 4)) (xs (i + 5)) sz0 sz2 r_z0 hsz0 r_z2 hsz2 m_hsq) kv_L_170 ⟨rfl, rfl, Nat.le_of_ble_eq_true rfl, Nat.le_of_ble_eq_true rfl⟩ ⟨Nat.le_of_ble_eq_true rfl, Nat.le_of_ble_eq_true rfl⟩ hK hN hZ hP hD hS hA [0, 2, 3, 4, 5, 1] [6, 7, 8, 9, 10, 11, 12, 13, 14, 15, 16] rfl rfl (by decide +kernel) (by decide +kernel) (by decide +kernel) 0 rfl rfl rfl rfl hl.1 rfl (Nat.le_of_ble_eq_true rfl) dL_law_1333 (fun r_57 u_r_57 H locs hw_r_57 hP hD hS => ?_)
      obtain ⟨nb2_58, mv2_59, mq2_60⟩ := u_r_57
      try dsimp only at hw_r_57
      obtain ⟨hw_r_57, i_61, i_62⟩ := hw_r_57
      have hP : va_P D vwCl (@HAppend.hAppend va_W va_W va_W _ [(h0, .inr (8, [.ref qh, .ref qk, .ref qd, .int b0, .ref qa, .ref qm, .ref qs, .ref qp, .ref ql, .ref qt, .ref qz, .ref qf])), (qz, .inl (cS, 4, .inr (.inr (.inr (.inr (xSh s0 s1 s2 s3)))))), (s0, .inr (4, [.int bt0, .int (nI (sz0)), .ref sn0])), (s1, .inr (4, [.int bt1, .int (nI (sz1)), .ref sn1])), (s2, .inr (4, [.int bt2, .int (nI (sz2)), .ref sn2])), (s3, .inr (4, [.int bt3, .int (nI (sz3)), .ref sn3])), (sn0, .inl (cJ, 40, .inr (.inl nu0))), (sn1, .inl (cJ, 40, .inr (.inl nu1))), (sn2, .inl (cJ, 40, .inr (.inl nv_54))), (sn3, .inl (cJ, 40, .inr (.inl nu3))), (qf, .inl (cI, 7, .inl f2_55)), (g0, .inr (9, [.ref m_ys, .ref m_yk, .ref m_yo, .ref m_yt, .int b0, .ref m_yfa, .ref m_yfe, .int m_mL, .int m_mS, .int m_mM, .ref m_yro, .ref m_yhe, .ref m_ygr, .int m_mF, .int m_mC, .int m_mY, .ref m_yta, .int (nI (z)), .int (nI (m_mf)), .int (nI (m_mt)), .int m_mv, .int m_mw, .ref m_ywa, .ref m_ybi, .ref m_ysi, .ref m_ynu, .ref m_ymo])), (m_ybi, .inl (cI, 4, .inl m_bi)), (m_ysi, .inl (cI, 4, .inl m_sq)), (m_ynu, .inl (cJ, 160, .inr (.inl nb2_58))), (m_ymo, .inl (cJ, 40, .inr (.inl mv2_59))), (m_yt, .inl (cI, 7, .inl mq2_60))] tl) H := hP
      have hD : va_D A (@HAppend.hAppend va_W va_W va_W _ [(h0, .inr (8, [.ref qh, .ref qk, .ref qd, .int b0, .ref qa, .ref qm, .ref qs, .ref qp, .ref ql, .ref qt, .ref qz, .ref qf])), (qz, .inl (cS, 4, .inr (.inr (.inr (.inr (xSh s0 s1 s2 s3)))))), (s0, .inr (4, [.int bt0, .int (nI (sz0)), .ref sn0])), (s1, .inr (4, [.int bt1, .int (nI (sz1)), .ref sn1])), (s2, .inr (4, [.int bt2, .int (nI (sz2)), .ref sn2])), (s3, .inr (4, [.int bt3, .int (nI (sz3)), .ref sn3])), (sn0, .inl (cJ, 40, .inr (.inl nu0))), (sn1, .inl (cJ, 40, .inr (.inl nu1))), (sn2, .inl (cJ, 40, .inr (.inl nv_54))), (sn3, .inl (cJ, 40, .inr (.inl nu3))), (qf, .inl (cI, 7, .inl f2_55)), (g0, .inr (9, [.ref m_ys, .ref m_yk, .ref m_yo, .ref m_yt, .int b0, .ref m_yfa, .ref m_yfe, .int m_mL, .int m_mS, .int m_mM, .ref m_yro, .ref m_yhe, .ref m_ygr, .int m_mF, .int m_mC, .int m_mY, .ref m_yta, .int (nI (z)), .int (nI (m_mf)), .int (nI (m_mt)), .int m_mv, .int m_mw, .ref m_ywa, .ref m_ybi, .ref m_ysi, .ref m_ynu, .ref m_ymo])), (m_ybi, .inl (cI, 4, .inl m_bi)), (m_ysi, .inl (cI, 4, .inl m_sq)), (m_ynu, .inl (cJ, 160, .inr (.inl nb2_58))), (m_ymo, .inl (cJ, 40, .inr (.inl mv2_59))), (m_yt, .inl (cI, 7, .inl mq2_60))] tl) := hD
      subst hw_r_57
      refine lv_icmp_eq (tgt := 1482) hx hb dL_law_1336 (by decide) (fun c_63 => ?_) (fun c_63 => absurd (sp_creq r_b0 r_b2) c_63)
      exact kkx _ _ _ nu0 nu1 nv_54 nu3 f2_55 mq2_60 nb2_58 mv2_59 (xt_P hP [0, 1, 2, 3, 4, 5, 6, 7, 8, 9, 10, 11, 16, 12, 13, 14, 15] rfl) (xt_D hD [0, 1, 2, 3, 4, 5, 6, 7, 8, 9, 10, 11, 16, 12, 13, 14, 15] (by decide +kernel) rfl) (fun j hj => (i_62 (0 + j) (by omega)).trans (r_n0 j hj)) (fun j hj => (i_62 (40 + j) (by omega)).trans (r_n1 j hj)) (fun j hj => (i_61 j).trans ((sp_cneq r_b0 r_b2 r_n0 (by omega) (r_n2 j hj)).trans (i_56 j).symm)) (fun j hj => (i_62 (120 + j) (by omega)).trans (r_n3 j hj)) hS hl
    · skip
      refine lv_aload_n hx hb dL_law_1279 rfl (lv_at hl 3 rfl) ?_
      refine lv_iload_n hx hb dL_law_1280 rfl (lv_at hl 0 rfl) ?_
      refine lv_iconst (v := 1) hx hb dL_law_1281 (by decide) ?_
      refine lv_iadd hx hb dL_law_1282 ?_
      refine xl_i (y := nI (i + 1)) (nI_add i 1) ?_
      refine va_sld hx hb hX hbl hbA hS (x_si (k := 1) (by decide) hi hL) dL_law_1283 ?_
      refine xl_i (y := xs (i + 1)) (congrArg xs (x_sc (k := 1) (by decide) hi hL)) ?_
      refine xl_i (y := 0) eq1 ?_
      refine lv_aload_n hx hb dL_law_1284 rfl (lv_at hl 3 rfl) ?_
      refine lv_iload_n hx hb dL_law_1285 rfl (lv_at hl 0 rfl) ?_
      refine lv_iconst (v := 2) hx hb dL_law_1286 (by decide) ?_
      refine lv_iadd hx hb dL_law_1287 ?_
      refine xl_i (y := nI (i + 2)) (nI_add i 2) ?_
      refine va_sld hx hb hX hbl hbA hS (x_si (k := 2) (by decide) hi hL) dL_law_1288 ?_
      refine xl_i (y := xs (i + 2)) (congrArg xs (x_sc (k := 2) (by decide) hi hL)) ?_
      refine lv_aload_n hx hb dL_law_1289 rfl (lv_at hl 3 rfl) ?_
      refine lv_iload_n hx hb dL_law_1290 rfl (lv_at hl 0 rfl) ?_
      refine lv_iconst (v := 3) hx hb dL_law_1291 (by decide) ?_
      refine lv_iadd hx hb dL_law_1292 ?_
      refine xl_i (y := nI (i + 3)) (nI_add i 3) ?_
      refine va_sld hx hb hX hbl hbA hS (x_si (k := 3) (by decide) hi hL) dL_law_1293 ?_
      refine xl_i (y := xs (i + 3)) (congrArg xs (x_sc (k := 3) (by decide) hi hL)) ?_
      refine xl_i (y := 3) eq3 ?_
      refine lv_aload_n hx hb dL_law_1294 rfl (lv_at hl 3 rfl) ?_
      refine lv_iload_n hx hb dL_law_1295 rfl (lv_at hl 0 rfl) ?_
      refine lv_iconst (v := 4) hx hb dL_law_1296 (by decide) ?_
      refine lv_iadd hx hb dL_law_1297 ?_
      refine xl_i (y := nI (i + 4)) (nI_add i 4) ?_
      refine va_sld hx hb hX hbl hbA hS (x_si (k := 4) (by decide) hi hL) dL_law_1298 ?_
      refine xl_i (y := xs (i + 4)) (congrArg xs (x_sc (k := 4) (by decide) hi hL)) ?_
      refine lv_aload_n hx hb dL_law_1299 rfl (lv_at hl 3 rfl) ?_
      refine lv_iload_n hx hb dL_law_1300 rfl (lv_at hl 0 rfl) ?_
      refine lv_iconst (v := 5) hx hb dL_law_1301 (by decide) ?_
      refine lv_iadd hx hb dL_law_1302 ?_
      refine xl_i (y := nI (i + 5)) (nI_add i 5) ?_
      refine va_sld hx hb hX hbl hbA hS (x_si (k := 5) (by decide) hi hL) dL_law_1303 ?_
      refine xl_i (y := xs (i + 5)) (congrArg xs (x_sc (k := 5) (by decide) hi hL)) ?_
      refine xc_ViT (wr := [(g0, .inr (9, [.ref m_ys, .ref m_yk, .ref m_yo, .ref m_yt, .int b0, .ref m_yfa, .ref m_yfe, .int m_mL, .int m_mS, .int m_mM, .ref m_yro, .ref m_yhe, .ref m_ygr, .int m_mF, .int m_mC, .int m_mY, .ref m_yta, .int (nI (z)), .int (nI (m_mf)), .int (nI (m_mt)), .int m_mv, .int m_mw, .ref m_ywa, .ref m_ybi, .ref m_ysi, .ref m_ynu, .ref m_ymo])), (m_yt, .inl (cI, 7, .inl m_mq)), (m_ybi, .inl (cI, 4, .inl m_bi)), (m_ysi, .inl (cI, 4, .inl m_sq)), (m_ynu, .inl (cJ, 160, .inr (.inl m_nb))), (m_ymo, .inl (cJ, 40, .inr (.inl m_mv9)))]) hF (c_X8_copy_03 l D cI cJ cZ cS ta sa sv H.size h0 qh qk qd b0 qa qm qs qp ql qt qz qf s0 s1 s2 s3 bt0 sz0 sn0 bt1 sz1 sn1 bt2 sz2 sn2 bt3 sz3 sn3 nu0 nu1 nu2 nu3 ff (xs (i + 2)) (xs (i + 4)) (xs (i + 5)) hsz0 hsz1 hsz2 hsz3) kv_L_166 ⟨rfl, rfl, Nat.le_of_ble_eq_true rfl, Nat.le_of_ble_eq_true rfl⟩ ⟨Nat.le_of_ble_eq_true rfl, Nat.le_of_ble_eq_true rfl⟩ hK hN hZ hP hD hS hA [0, 1, 2, 3, 4, 5, 6, 7, 8, 9, 10] [11, 12, 13, 14, 15, 16] rfl rfl (by decide +kernel) (by decide +kernel) (by decide +kernel) 0 rfl rfl rfl rfl hl.1 rfl (Nat.le_of_ble_eq_true rfl) dL_law_1304 (fun r_64 u_r_64 H locs hw_r_64 hP hD hS => ?_)
      obtain ⟨nv_65, f2_66⟩ := u_r_64
      try dsimp only at hw_r_64
      obtain ⟨hw_r_64, i_67⟩ := hw_r_64
      have hP : va_P D vwCl (@HAppend.hAppend va_W va_W va_W _ [(g0, .inr (9, [.ref m_ys, .ref m_yk, .ref m_yo, .ref m_yt, .int b0, .ref m_yfa, .ref m_yfe, .int m_mL, .int m_mS, .int m_mM, .ref m_yro, .ref m_yhe, .ref m_ygr, .int m_mF, .int m_mC, .int m_mY, .ref m_yta, .int (nI (z)), .int (nI (m_mf)), .int (nI (m_mt)), .int m_mv, .int m_mw, .ref m_ywa, .ref m_ybi, .ref m_ysi, .ref m_ynu, .ref m_ymo])), (m_yt, .inl (cI, 7, .inl m_mq)), (m_ybi, .inl (cI, 4, .inl m_bi)), (m_ysi, .inl (cI, 4, .inl m_sq)), (m_ynu, .inl (cJ, 160, .inr (.inl m_nb))), (m_ymo, .inl (cJ, 40, .inr (.inl m_mv9))), (h0, .inr (8, [.ref qh, .ref qk, .ref qd, .int b0, .ref qa, .ref qm, .ref qs, .ref qp, .ref ql, .ref qt, .ref qz, .ref qf])), (qz, .inl (cS, 4, .inr (.inr (.inr (.inr (xSh s0 s1 s2 s3)))))), (s0, .inr (4, [.int bt0, .int (nI (sz0)), .ref sn0])), (s1, .inr (4, [.int bt1, .int (nI (sz1)), .ref sn1])), (s2, .inr (4, [.int bt2, .int (nI (sz2)), .ref sn2])), (s3, .inr (4, [.int bt3, .int (nI (sz3)), .ref sn3])), (sn0, .inl (cJ, 40, .inr (.inl nu0))), (sn1, .inl (cJ, 40, .inr (.inl nu1))), (sn2, .inl (cJ, 40, .inr (.inl nu2))), (sn3, .inl (cJ, 40, .inr (.inl nv_65))), (qf, .inl (cI, 7, .inl f2_66))] tl) H := hP
      have hD : va_D A (@HAppend.hAppend va_W va_W va_W _ [(g0, .inr (9, [.ref m_ys, .ref m_yk, .ref m_yo, .ref m_yt, .int b0, .ref m_yfa, .ref m_yfe, .int m_mL, .int m_mS, .int m_mM, .ref m_yro, .ref m_yhe, .ref m_ygr, .int m_mF, .int m_mC, .int m_mY, .ref m_yta, .int (nI (z)), .int (nI (m_mf)), .int (nI (m_mt)), .int m_mv, .int m_mw, .ref m_ywa, .ref m_ybi, .ref m_ysi, .ref m_ynu, .ref m_ymo])), (m_yt, .inl (cI, 7, .inl m_mq)), (m_ybi, .inl (cI, 4, .inl m_bi)), (m_ysi, .inl (cI, 4, .inl m_sq)), (m_ynu, .inl (cJ, 160, .inr (.inl m_nb))), (m_ymo, .inl (cJ, 40, .inr (.inl m_mv9))), (h0, .inr (8, [.ref qh, .ref qk, .ref qd, .int b0, .ref qa, .ref qm, .ref qs, .ref qp, .ref ql, .ref qt, .ref qz, .ref qf])), (qz, .inl (cS, 4, .inr (.inr (.inr (.inr (xSh s0 s1 s2 s3)))))), (s0, .inr (4, [.int bt0, .int (nI (sz0)), .ref sn0])), (s1, .inr (4, [.int bt1, .int (nI (sz1)), .ref sn1])), (s2, .inr (4, [.int bt2, .int (nI (sz2)), .ref sn2])), (s3, .inr (4, [.int bt3, .int (nI (sz3)), .ref sn3])), (sn0, .inl (cJ, 40, .inr (.inl nu0))), (sn1, .inl (cJ, 40, .inr (.inl nu1))), (sn2, .inl (cJ, 40, .inr (.inl nu2))), (sn3, .inl (cJ, 40, .inr (.inl nv_65))), (qf, .inl (cI, 7, .inl f2_66))] tl) := hD
      subst hw_r_64
      refine lv_aload_n hx hb dL_law_1307 rfl (lv_at hl 1 rfl) ?_
      refine lv_aload_n hx hb dL_law_1308 rfl (lv_at hl 3 rfl) ?_
      refine lv_iload_n hx hb dL_law_1309 rfl (lv_at hl 0 rfl) ?_
      refine lv_iconst (v := 1) hx hb dL_law_1310 (by decide) ?_
      refine lv_iadd hx hb dL_law_1311 ?_
      refine xl_i (y := nI (i + 1)) (nI_add i 1) ?_
      refine va_sld hx hb hX hbl hbA hS (x_si (k := 1) (by decide) hi hL) dL_law_1312 ?_
      refine xl_i (y := xs (i + 1)) (congrArg xs (x_sc (k := 1) (by decide) hi hL)) ?_
      refine xl_i (y := 0) eq1 ?_
      refine lv_aload_n hx hb dL_law_1313 rfl (lv_at hl 3 rfl) ?_
      refine lv_iload_n hx hb dL_law_1314 rfl (lv_at hl 0 rfl) ?_
      refine lv_iconst (v := 2) hx hb dL_law_1315 (by decide) ?_
      refine lv_iadd hx hb dL_law_1316 ?_
      refine xl_i (y := nI (i + 2)) (nI_add i 2) ?_
      refine va_sld hx hb hX hbl hbA hS (x_si (k := 2) (by decide) hi hL) dL_law_1317 ?_
      refine xl_i (y := xs (i + 2)) (congrArg xs (x_sc (k := 2) (by decide) hi hL)) ?_
      refine lv_aload_n hx hb dL_law_1318 rfl (lv_at hl 3 rfl) ?_
      refine lv_iload_n hx hb dL_law_1319 rfl (lv_at hl 0 rfl) ?_
      refine lv_iconst (v := 3) hx hb dL_law_1320 (by decide) ?_
      refine lv_iadd hx hb dL_law_1321 ?_
      refine xl_i (y := nI (i + 3)) (nI_add i 3) ?_
      refine va_sld hx hb hX hbl hbA hS (x_si (k := 3) (by decide) hi hL) dL_law_1322 ?_
      refine xl_i (y := xs (i + 3)) (congrArg xs (x_sc (k := 3) (by decide) hi hL)) ?_
      refine xl_i (y := 3) eq3 ?_
      refine lv_aload_n hx hb dL_law_1323 rfl (lv_at hl 3 rfl) ?_
      refine lv_iload_n hx hb dL_law_1324 rfl (lv_at hl 0 rfl) ?_
      refine lv_iconst (v := 4) hx hb dL_law_1325 (by decide) ?_
      refine lv_iadd hx hb dL_law_1326 ?_
      refine xl_i (y := nI (i + 4)) (nI_add i 4) ?_
      refine va_sld hx hb hX hbl hbA hS (x_si (k := 4) (by decide) hi hL) dL_law_1327 ?_
      refine xl_i (y := xs (i + 4)) (congrArg xs (x_sc (k := 4) (by decide) hi hL)) ?_
      refine lv_aload_n hx hb dL_law_1328 rfl (lv_at hl 3 rfl) ?_
      refine lv_iload_n hx hb dL_law_1329 rfl (lv_at hl 0 rfl) ?_
      refine lv_iconst (v := 5) hx hb dL_law_1330 (by decide) ?_
      refine lv_iadd hx hb dL_law_1331 ?_
      refine xl_i (y := nI (i + 5)) (nI_add i 5) ?_
      refine va_sld hx hb hX hbl hbA hS (x_si (k := 5) (by decide) hi hL) dL_law_1332 ?_
      refine xl_i (y := xs (i + 5)) (congrArg xs (x_sc (k := 5) (by decide) hi hL)) ?_
      refine xc_ViT (wr := [(h0, .inr (8, [.ref qh, .ref qk, .ref qd, .int b0, .ref qa, .ref qm, .ref qs, .ref qp, .ref ql, .ref qt, .ref qz, .ref qf])), (qz, .inl (cS, 4, .inr (.inr (.inr (.inr (xSh s0 s1 s2 s3)))))), (s0, .inr (4, [.int bt0, .int (nI (sz0)), .ref sn0])), (s1, .inr (4, [.int bt1, .int (nI (sz1)), .ref sn1])), (s2, .inr (4, [.int bt2, .int (nI (sz2)), .ref sn2])), (s3, .inr (4, [.int bt3, .int (nI (sz3)), .ref sn3])), (sn0, .inl (cJ, 40, .inr (.inl nu0))), (sn1, .inl (cJ, 40, .inr (.inl nu1))), (sn2, .inl (cJ, 40, .inr (.inl nu2))), (sn3, .inl (cJ, 40, .inr (.inl nv_65))), (qf, .inl (cI, 7, .inl f2_66))]) hF (c_X9_copy_03 l D cI cJ cZ cS ta sa sv H.size g0 m_ys m_yk m_yo m_yt b0 m_yfa m_yfe m_mL m_mS m_mM m_yro m_yhe m_ygr m_mF m_mC m_mY m_yta z m_mf m_mt m_mv m_mw m_ywa m_ybi m_ysi m_ynu m_ymo m_bi m_sq m_nb m_mv9 m_mq (xs (i + 2)) (xs (i + 4)) (xs (i + 5)) sz0 sz3 r_z0 hsz0 r_z3 hsz3 m_hsq) kv_L_170 ⟨rfl, rfl, Nat.le_of_ble_eq_true rfl, Nat.le_of_ble_eq_true rfl⟩ ⟨Nat.le_of_ble_eq_true rfl, Nat.le_of_ble_eq_true rfl⟩ hK hN hZ hP hD hS hA [0, 2, 3, 4, 5, 1] [6, 7, 8, 9, 10, 11, 12, 13, 14, 15, 16] rfl rfl (by decide +kernel) (by decide +kernel) (by decide +kernel) 0 rfl rfl rfl rfl hl.1 rfl (Nat.le_of_ble_eq_true rfl) dL_law_1333 (fun r_68 u_r_68 H locs hw_r_68 hP hD hS => ?_)
      obtain ⟨nb2_69, mv2_70, mq2_71⟩ := u_r_68
      try dsimp only at hw_r_68
      obtain ⟨hw_r_68, i_72, i_73⟩ := hw_r_68
      have hP : va_P D vwCl (@HAppend.hAppend va_W va_W va_W _ [(h0, .inr (8, [.ref qh, .ref qk, .ref qd, .int b0, .ref qa, .ref qm, .ref qs, .ref qp, .ref ql, .ref qt, .ref qz, .ref qf])), (qz, .inl (cS, 4, .inr (.inr (.inr (.inr (xSh s0 s1 s2 s3)))))), (s0, .inr (4, [.int bt0, .int (nI (sz0)), .ref sn0])), (s1, .inr (4, [.int bt1, .int (nI (sz1)), .ref sn1])), (s2, .inr (4, [.int bt2, .int (nI (sz2)), .ref sn2])), (s3, .inr (4, [.int bt3, .int (nI (sz3)), .ref sn3])), (sn0, .inl (cJ, 40, .inr (.inl nu0))), (sn1, .inl (cJ, 40, .inr (.inl nu1))), (sn2, .inl (cJ, 40, .inr (.inl nu2))), (sn3, .inl (cJ, 40, .inr (.inl nv_65))), (qf, .inl (cI, 7, .inl f2_66)), (g0, .inr (9, [.ref m_ys, .ref m_yk, .ref m_yo, .ref m_yt, .int b0, .ref m_yfa, .ref m_yfe, .int m_mL, .int m_mS, .int m_mM, .ref m_yro, .ref m_yhe, .ref m_ygr, .int m_mF, .int m_mC, .int m_mY, .ref m_yta, .int (nI (z)), .int (nI (m_mf)), .int (nI (m_mt)), .int m_mv, .int m_mw, .ref m_ywa, .ref m_ybi, .ref m_ysi, .ref m_ynu, .ref m_ymo])), (m_ybi, .inl (cI, 4, .inl m_bi)), (m_ysi, .inl (cI, 4, .inl m_sq)), (m_ynu, .inl (cJ, 160, .inr (.inl nb2_69))), (m_ymo, .inl (cJ, 40, .inr (.inl mv2_70))), (m_yt, .inl (cI, 7, .inl mq2_71))] tl) H := hP
      have hD : va_D A (@HAppend.hAppend va_W va_W va_W _ [(h0, .inr (8, [.ref qh, .ref qk, .ref qd, .int b0, .ref qa, .ref qm, .ref qs, .ref qp, .ref ql, .ref qt, .ref qz, .ref qf])), (qz, .inl (cS, 4, .inr (.inr (.inr (.inr (xSh s0 s1 s2 s3)))))), (s0, .inr (4, [.int bt0, .int (nI (sz0)), .ref sn0])), (s1, .inr (4, [.int bt1, .int (nI (sz1)), .ref sn1])), (s2, .inr (4, [.int bt2, .int (nI (sz2)), .ref sn2])), (s3, .inr (4, [.int bt3, .int (nI (sz3)), .ref sn3])), (sn0, .inl (cJ, 40, .inr (.inl nu0))), (sn1, .inl (cJ, 40, .inr (.inl nu1))), (sn2, .inl (cJ, 40, .inr (.inl nu2))), (sn3, .inl (cJ, 40, .inr (.inl nv_65))), (qf, .inl (cI, 7, .inl f2_66)), (g0, .inr (9, [.ref m_ys, .ref m_yk, .ref m_yo, .ref m_yt, .int b0, .ref m_yfa, .ref m_yfe, .int m_mL, .int m_mS, .int m_mM, .ref m_yro, .ref m_yhe, .ref m_ygr, .int m_mF, .int m_mC, .int m_mY, .ref m_yta, .int (nI (z)), .int (nI (m_mf)), .int (nI (m_mt)), .int m_mv, .int m_mw, .ref m_ywa, .ref m_ybi, .ref m_ysi, .ref m_ynu, .ref m_ymo])), (m_ybi, .inl (cI, 4, .inl m_bi)), (m_ysi, .inl (cI, 4, .inl m_sq)), (m_ynu, .inl (cJ, 160, .inr (.inl nb2_69))), (m_ymo, .inl (cJ, 40, .inr (.inl mv2_70))), (m_yt, .inl (cI, 7, .inl mq2_71))] tl) := hD
      subst hw_r_68
      refine lv_icmp_eq (tgt := 1482) hx hb dL_law_1336 (by decide) (fun c_74 => ?_) (fun c_74 => absurd (sp_creq r_b0 r_b3) c_74)
      exact kkx _ _ _ nu0 nu1 nu2 nv_65 f2_66 mq2_71 nb2_69 mv2_70 (xt_P hP [0, 1, 2, 3, 4, 5, 6, 7, 8, 9, 10, 11, 16, 12, 13, 14, 15] rfl) (xt_D hD [0, 1, 2, 3, 4, 5, 6, 7, 8, 9, 10, 11, 16, 12, 13, 14, 15] (by decide +kernel) rfl) (fun j hj => (i_73 (0 + j) (by omega)).trans (r_n0 j hj)) (fun j hj => (i_73 (40 + j) (by omega)).trans (r_n1 j hj)) (fun j hj => (i_73 (80 + j) (by omega)).trans (r_n2 j hj)) (fun j hj => (i_72 j).trans ((sp_cneq r_b0 r_b3 r_n0 (by omega) (r_n3 j hj)).trans (i_67 j).symm)) hS hl
  · skip
    refine lv_aload_n hx hb dL_law_1278 rfl (lv_at hl 2 rfl) ?_
    rcases x_sh4 (xs (i + 3)) with oq3 | eq3 | eq3 | eq3 | eq3
    · skip
      refine lv_aload_n hx hb dL_law_1279 rfl (lv_at hl 3 rfl) ?_
      refine lv_iload_n hx hb dL_law_1280 rfl (lv_at hl 0 rfl) ?_
      refine lv_iconst (v := 1) hx hb dL_law_1281 (by decide) ?_
      refine lv_iadd hx hb dL_law_1282 ?_
      refine xl_i (y := nI (i + 1)) (nI_add i 1) ?_
      refine va_sld hx hb hX hbl hbA hS (x_si (k := 1) (by decide) hi hL) dL_law_1283 ?_
      refine xl_i (y := xs (i + 1)) (congrArg xs (x_sc (k := 1) (by decide) hi hL)) ?_
      refine xl_i (y := 1) eq1 ?_
      refine lv_aload_n hx hb dL_law_1284 rfl (lv_at hl 3 rfl) ?_
      refine lv_iload_n hx hb dL_law_1285 rfl (lv_at hl 0 rfl) ?_
      refine lv_iconst (v := 2) hx hb dL_law_1286 (by decide) ?_
      refine lv_iadd hx hb dL_law_1287 ?_
      refine xl_i (y := nI (i + 2)) (nI_add i 2) ?_
      refine va_sld hx hb hX hbl hbA hS (x_si (k := 2) (by decide) hi hL) dL_law_1288 ?_
      refine xl_i (y := xs (i + 2)) (congrArg xs (x_sc (k := 2) (by decide) hi hL)) ?_
      refine lv_aload_n hx hb dL_law_1289 rfl (lv_at hl 3 rfl) ?_
      refine lv_iload_n hx hb dL_law_1290 rfl (lv_at hl 0 rfl) ?_
      refine lv_iconst (v := 3) hx hb dL_law_1291 (by decide) ?_
      refine lv_iadd hx hb dL_law_1292 ?_
      refine xl_i (y := nI (i + 3)) (nI_add i 3) ?_
      refine va_sld hx hb hX hbl hbA hS (x_si (k := 3) (by decide) hi hL) dL_law_1293 ?_
      refine xl_i (y := xs (i + 3)) (congrArg xs (x_sc (k := 3) (by decide) hi hL)) ?_
      refine lv_aload_n hx hb dL_law_1294 rfl (lv_at hl 3 rfl) ?_
      refine lv_iload_n hx hb dL_law_1295 rfl (lv_at hl 0 rfl) ?_
      refine lv_iconst (v := 4) hx hb dL_law_1296 (by decide) ?_
      refine lv_iadd hx hb dL_law_1297 ?_
      refine xl_i (y := nI (i + 4)) (nI_add i 4) ?_
      refine va_sld hx hb hX hbl hbA hS (x_si (k := 4) (by decide) hi hL) dL_law_1298 ?_
      refine xl_i (y := xs (i + 4)) (congrArg xs (x_sc (k := 4) (by decide) hi hL)) ?_
      refine lv_aload_n hx hb dL_law_1299 rfl (lv_at hl 3 rfl) ?_
      refine lv_iload_n hx hb dL_law_1300 rfl (lv_at hl 0 rfl) ?_
      refine lv_iconst (v := 5) hx hb dL_law_1301 (by decide) ?_
      refine lv_iadd hx hb dL_law_1302 ?_
      refine xl_i (y := nI (i + 5)) (nI_add i 5) ?_
      refine va_sld hx hb hX hbl hbA hS (x_si (k := 5) (by decide) hi hL) dL_law_1303 ?_
      refine xl_i (y := xs (i + 5)) (congrArg xs (x_sc (k := 5) (by decide) hi hL)) ?_
      refine xc_ViT (wr := [(qz, .inl (cS, 4, .inr (.inr (.inr (.inr (xSh s0 s1 s2 s3)))))), (s0, .inr (4, [.int bt0, .int (nI (sz0)), .ref sn0])), (s1, .inr (4, [.int bt1, .int (nI (sz1)), .ref sn1])), (s2, .inr (4, [.int bt2, .int (nI (sz2)), .ref sn2])), (s3, .inr (4, [.int bt3, .int (nI (sz3)), .ref sn3])), (sn0, .inl (cJ, 40, .inr (.inl nu0))), (sn1, .inl (cJ, 40, .inr (.inl nu1))), (sn2, .inl (cJ, 40, .inr (.inl nu2))), (sn3, .inl (cJ, 40, .inr (.inl nu3))), (g0, .inr (9, [.ref m_ys, .ref m_yk, .ref m_yo, .ref m_yt, .int b0, .ref m_yfa, .ref m_yfe, .int m_mL, .int m_mS, .int m_mM, .ref m_yro, .ref m_yhe, .ref m_ygr, .int m_mF, .int m_mC, .int m_mY, .ref m_yta, .int (nI (z)), .int (nI (m_mf)), .int (nI (m_mt)), .int m_mv, .int m_mw, .ref m_ywa, .ref m_ybi, .ref m_ysi, .ref m_ynu, .ref m_ymo])), (m_yt, .inl (cI, 7, .inl m_mq)), (m_ybi, .inl (cI, 4, .inl m_bi)), (m_ysi, .inl (cI, 4, .inl m_sq)), (m_ynu, .inl (cJ, 160, .inr (.inl m_nb))), (m_ymo, .inl (cJ, 40, .inr (.inl m_mv9)))]) hF (c_X8_copy_1o l D cI cJ cZ cS ta sa sv H.size h0 qh qk qd b0 qa qm qs qp ql qt qz qf ff (xs (i + 2)) (xs (i + 3)) (xs (i + 4)) (xs (i + 5)) oq3) kv_L_166 ⟨rfl, rfl, Nat.le_of_ble_eq_true rfl, Nat.le_of_ble_eq_true rfl⟩ ⟨Nat.le_of_ble_eq_true rfl, Nat.le_of_ble_eq_true rfl⟩ hK hN hZ hP hD hS hA [0, 10] [1, 2, 3, 4, 5, 6, 7, 8, 9, 11, 12, 13, 14, 15, 16] rfl rfl rfl (by decide +kernel) (by decide +kernel) 0 rfl rfl rfl rfl hl.1 rfl (Nat.le_of_ble_eq_true rfl) dL_law_1304 (fun r_75 u_r_75 H locs hw_r_75 hP hD hS => ?_)
      obtain ⟨f2_76, rfl⟩ : ∃ z, z = u_r_75 := ⟨_, rfl⟩
      try dsimp only at hw_r_75
      have hP : va_P D vwCl (@HAppend.hAppend va_W va_W va_W _ [(qz, .inl (cS, 4, .inr (.inr (.inr (.inr (xSh s0 s1 s2 s3)))))), (s0, .inr (4, [.int bt0, .int (nI (sz0)), .ref sn0])), (s1, .inr (4, [.int bt1, .int (nI (sz1)), .ref sn1])), (s2, .inr (4, [.int bt2, .int (nI (sz2)), .ref sn2])), (s3, .inr (4, [.int bt3, .int (nI (sz3)), .ref sn3])), (sn0, .inl (cJ, 40, .inr (.inl nu0))), (sn1, .inl (cJ, 40, .inr (.inl nu1))), (sn2, .inl (cJ, 40, .inr (.inl nu2))), (sn3, .inl (cJ, 40, .inr (.inl nu3))), (g0, .inr (9, [.ref m_ys, .ref m_yk, .ref m_yo, .ref m_yt, .int b0, .ref m_yfa, .ref m_yfe, .int m_mL, .int m_mS, .int m_mM, .ref m_yro, .ref m_yhe, .ref m_ygr, .int m_mF, .int m_mC, .int m_mY, .ref m_yta, .int (nI (z)), .int (nI (m_mf)), .int (nI (m_mt)), .int m_mv, .int m_mw, .ref m_ywa, .ref m_ybi, .ref m_ysi, .ref m_ynu, .ref m_ymo])), (m_yt, .inl (cI, 7, .inl m_mq)), (m_ybi, .inl (cI, 4, .inl m_bi)), (m_ysi, .inl (cI, 4, .inl m_sq)), (m_ynu, .inl (cJ, 160, .inr (.inl m_nb))), (m_ymo, .inl (cJ, 40, .inr (.inl m_mv9))), (h0, .inr (8, [.ref qh, .ref qk, .ref qd, .int b0, .ref qa, .ref qm, .ref qs, .ref qp, .ref ql, .ref qt, .ref qz, .ref qf])), (qf, .inl (cI, 7, .inl f2_76))] tl) H := hP
      have hD : va_D A (@HAppend.hAppend va_W va_W va_W _ [(qz, .inl (cS, 4, .inr (.inr (.inr (.inr (xSh s0 s1 s2 s3)))))), (s0, .inr (4, [.int bt0, .int (nI (sz0)), .ref sn0])), (s1, .inr (4, [.int bt1, .int (nI (sz1)), .ref sn1])), (s2, .inr (4, [.int bt2, .int (nI (sz2)), .ref sn2])), (s3, .inr (4, [.int bt3, .int (nI (sz3)), .ref sn3])), (sn0, .inl (cJ, 40, .inr (.inl nu0))), (sn1, .inl (cJ, 40, .inr (.inl nu1))), (sn2, .inl (cJ, 40, .inr (.inl nu2))), (sn3, .inl (cJ, 40, .inr (.inl nu3))), (g0, .inr (9, [.ref m_ys, .ref m_yk, .ref m_yo, .ref m_yt, .int b0, .ref m_yfa, .ref m_yfe, .int m_mL, .int m_mS, .int m_mM, .ref m_yro, .ref m_yhe, .ref m_ygr, .int m_mF, .int m_mC, .int m_mY, .ref m_yta, .int (nI (z)), .int (nI (m_mf)), .int (nI (m_mt)), .int m_mv, .int m_mw, .ref m_ywa, .ref m_ybi, .ref m_ysi, .ref m_ynu, .ref m_ymo])), (m_yt, .inl (cI, 7, .inl m_mq)), (m_ybi, .inl (cI, 4, .inl m_bi)), (m_ysi, .inl (cI, 4, .inl m_sq)), (m_ynu, .inl (cJ, 160, .inr (.inl m_nb))), (m_ymo, .inl (cJ, 40, .inr (.inl m_mv9))), (h0, .inr (8, [.ref qh, .ref qk, .ref qd, .int b0, .ref qa, .ref qm, .ref qs, .ref qp, .ref ql, .ref qt, .ref qz, .ref qf])), (qf, .inl (cI, 7, .inl f2_76))] tl) := hD
      subst hw_r_75
      refine lv_aload_n hx hb dL_law_1307 rfl (lv_at hl 1 rfl) ?_
      refine lv_aload_n hx hb dL_law_1308 rfl (lv_at hl 3 rfl) ?_
      refine lv_iload_n hx hb dL_law_1309 rfl (lv_at hl 0 rfl) ?_
      refine lv_iconst (v := 1) hx hb dL_law_1310 (by decide) ?_
      refine lv_iadd hx hb dL_law_1311 ?_
      refine xl_i (y := nI (i + 1)) (nI_add i 1) ?_
      refine va_sld hx hb hX hbl hbA hS (x_si (k := 1) (by decide) hi hL) dL_law_1312 ?_
      refine xl_i (y := xs (i + 1)) (congrArg xs (x_sc (k := 1) (by decide) hi hL)) ?_
      refine xl_i (y := 1) eq1 ?_
      refine lv_aload_n hx hb dL_law_1313 rfl (lv_at hl 3 rfl) ?_
      refine lv_iload_n hx hb dL_law_1314 rfl (lv_at hl 0 rfl) ?_
      refine lv_iconst (v := 2) hx hb dL_law_1315 (by decide) ?_
      refine lv_iadd hx hb dL_law_1316 ?_
      refine xl_i (y := nI (i + 2)) (nI_add i 2) ?_
      refine va_sld hx hb hX hbl hbA hS (x_si (k := 2) (by decide) hi hL) dL_law_1317 ?_
      refine xl_i (y := xs (i + 2)) (congrArg xs (x_sc (k := 2) (by decide) hi hL)) ?_
      refine lv_aload_n hx hb dL_law_1318 rfl (lv_at hl 3 rfl) ?_
      refine lv_iload_n hx hb dL_law_1319 rfl (lv_at hl 0 rfl) ?_
      refine lv_iconst (v := 3) hx hb dL_law_1320 (by decide) ?_
      refine lv_iadd hx hb dL_law_1321 ?_
      refine xl_i (y := nI (i + 3)) (nI_add i 3) ?_
      refine va_sld hx hb hX hbl hbA hS (x_si (k := 3) (by decide) hi hL) dL_law_1322 ?_
      refine xl_i (y := xs (i + 3)) (congrArg xs (x_sc (k := 3) (by decide) hi hL)) ?_
      refine lv_aload_n hx hb dL_law_1323 rfl (lv_at hl 3 rfl) ?_
      refine lv_iload_n hx hb dL_law_1324 rfl (lv_at hl 0 rfl) ?_
      refine lv_iconst (v := 4) hx hb dL_law_1325 (by decide) ?_
      refine lv_iadd hx hb dL_law_1326 ?_
      refine xl_i (y := nI (i + 4)) (nI_add i 4) ?_
      refine va_sld hx hb hX hbl hbA hS (x_si (k := 4) (by decide) hi hL) dL_law_1327 ?_
      refine xl_i (y := xs (i + 4)) (congrArg xs (x_sc (k := 4) (by decide) hi hL)) ?_
      refine lv_aload_n hx hb dL_law_1328 rfl (lv_at hl 3 rfl) ?_
      refine lv_iload_n hx hb dL_law_1329 rfl (lv_at hl 0 rfl) ?_
      refine lv_iconst (v := 5) hx hb dL_law_1330 (by decide) ?_
      refine lv_iadd hx hb dL_law_1331 ?_
      refine xl_i (y := nI (i + 5)) (nI_add i 5) ?_
      refine va_sld hx hb hX hbl hbA hS (x_si (k := 5) (by decide) hi hL) dL_law_1332 ?_
      refine xl_i (y := xs (i + 5)) (congrArg xs (x_sc (k := 5) (by decide) hi hL)) ?_
      refine xc_ViT (wr := [(qz, .inl (cS, 4, .inr (.inr (.inr (.inr (xSh s0 s1 s2 s3)))))), (s0, .inr (4, [.int bt0, .int (nI (sz0)), .ref sn0])), (s1, .inr (4, [.int bt1, .int (nI (sz1)), .ref sn1])), (s2, .inr (4, [.int bt2, .int (nI (sz2)), .ref sn2])), (s3, .inr (4, [.int bt3, .int (nI (sz3)), .ref sn3])), (sn0, .inl (cJ, 40, .inr (.inl nu0))), (sn1, .inl (cJ, 40, .inr (.inl nu1))), (sn2, .inl (cJ, 40, .inr (.inl nu2))), (sn3, .inl (cJ, 40, .inr (.inl nu3))), (m_ybi, .inl (cI, 4, .inl m_bi)), (m_ysi, .inl (cI, 4, .inl m_sq)), (m_ynu, .inl (cJ, 160, .inr (.inl m_nb))), (m_ymo, .inl (cJ, 40, .inr (.inl m_mv9))), (h0, .inr (8, [.ref qh, .ref qk, .ref qd, .int b0, .ref qa, .ref qm, .ref qs, .ref qp, .ref ql, .ref qt, .ref qz, .ref qf])), (qf, .inl (cI, 7, .inl f2_76))]) hF (c_X9_copy_1o l D cI cJ cZ cS ta sa sv H.size g0 m_ys m_yk m_yo m_yt b0 m_yfa m_yfe m_mL m_mS m_mM m_yro m_yhe m_ygr m_mF m_mC m_mY m_yta z m_mf m_mt m_mv m_mw m_ywa m_ybi m_ysi m_ynu m_ymo m_mq (xs (i + 2)) (xs (i + 3)) (xs (i + 4)) (xs (i + 5)) oq3) kv_L_170 ⟨rfl, rfl, Nat.le_of_ble_eq_true rfl, Nat.le_of_ble_eq_true rfl⟩ ⟨Nat.le_of_ble_eq_true rfl, Nat.le_of_ble_eq_true rfl⟩ hK hN hZ hP hD hS hA [9, 10] [0, 1, 2, 3, 4, 5, 6, 7, 8, 11, 12, 13, 14, 15, 16] rfl rfl rfl (by decide +kernel) (by decide +kernel) 0 rfl rfl rfl rfl hl.1 rfl (Nat.le_of_ble_eq_true rfl) dL_law_1333 (fun r_77 u_r_77 H locs hw_r_77 hP hD hS => ?_)
      obtain ⟨mq2_78, rfl⟩ : ∃ z, z = u_r_77 := ⟨_, rfl⟩
      try dsimp only at hw_r_77
      have hP : va_P D vwCl (@HAppend.hAppend va_W va_W va_W _ [(qz, .inl (cS, 4, .inr (.inr (.inr (.inr (xSh s0 s1 s2 s3)))))), (s0, .inr (4, [.int bt0, .int (nI (sz0)), .ref sn0])), (s1, .inr (4, [.int bt1, .int (nI (sz1)), .ref sn1])), (s2, .inr (4, [.int bt2, .int (nI (sz2)), .ref sn2])), (s3, .inr (4, [.int bt3, .int (nI (sz3)), .ref sn3])), (sn0, .inl (cJ, 40, .inr (.inl nu0))), (sn1, .inl (cJ, 40, .inr (.inl nu1))), (sn2, .inl (cJ, 40, .inr (.inl nu2))), (sn3, .inl (cJ, 40, .inr (.inl nu3))), (m_ybi, .inl (cI, 4, .inl m_bi)), (m_ysi, .inl (cI, 4, .inl m_sq)), (m_ynu, .inl (cJ, 160, .inr (.inl m_nb))), (m_ymo, .inl (cJ, 40, .inr (.inl m_mv9))), (h0, .inr (8, [.ref qh, .ref qk, .ref qd, .int b0, .ref qa, .ref qm, .ref qs, .ref qp, .ref ql, .ref qt, .ref qz, .ref qf])), (qf, .inl (cI, 7, .inl f2_76)), (g0, .inr (9, [.ref m_ys, .ref m_yk, .ref m_yo, .ref m_yt, .int b0, .ref m_yfa, .ref m_yfe, .int m_mL, .int m_mS, .int m_mM, .ref m_yro, .ref m_yhe, .ref m_ygr, .int m_mF, .int m_mC, .int m_mY, .ref m_yta, .int (nI (z)), .int (nI (m_mf)), .int (nI (m_mt)), .int m_mv, .int m_mw, .ref m_ywa, .ref m_ybi, .ref m_ysi, .ref m_ynu, .ref m_ymo])), (m_yt, .inl (cI, 7, .inl mq2_78))] tl) H := hP
      have hD : va_D A (@HAppend.hAppend va_W va_W va_W _ [(qz, .inl (cS, 4, .inr (.inr (.inr (.inr (xSh s0 s1 s2 s3)))))), (s0, .inr (4, [.int bt0, .int (nI (sz0)), .ref sn0])), (s1, .inr (4, [.int bt1, .int (nI (sz1)), .ref sn1])), (s2, .inr (4, [.int bt2, .int (nI (sz2)), .ref sn2])), (s3, .inr (4, [.int bt3, .int (nI (sz3)), .ref sn3])), (sn0, .inl (cJ, 40, .inr (.inl nu0))), (sn1, .inl (cJ, 40, .inr (.inl nu1))), (sn2, .inl (cJ, 40, .inr (.inl nu2))), (sn3, .inl (cJ, 40, .inr (.inl nu3))), (m_ybi, .inl (cI, 4, .inl m_bi)), (m_ysi, .inl (cI, 4, .inl m_sq)), (m_ynu, .inl (cJ, 160, .inr (.inl m_nb))), (m_ymo, .inl (cJ, 40, .inr (.inl m_mv9))), (h0, .inr (8, [.ref qh, .ref qk, .ref qd, .int b0, .ref qa, .ref qm, .ref qs, .ref qp, .ref ql, .ref qt, .ref qz, .ref qf])), (qf, .inl (cI, 7, .inl f2_76)), (g0, .inr (9, [.ref m_ys, .ref m_yk, .ref m_yo, .ref m_yt, .int b0, .ref m_yfa, .ref m_yfe, .int m_mL, .int m_mS, .int m_mM, .ref m_yro, .ref m_yhe, .ref m_ygr, .int m_mF, .int m_mC, .int m_mY, .ref m_yta, .int (nI (z)), .int (nI (m_mf)), .int (nI (m_mt)), .int m_mv, .int m_mw, .ref m_ywa, .ref m_ybi, .ref m_ysi, .ref m_ynu, .ref m_ymo])), (m_yt, .inl (cI, 7, .inl mq2_78))] tl) := hD
      subst hw_r_77
      refine lv_icmp_eq (tgt := 1482) hx hb dL_law_1336 (by decide) (fun c_79 => ?_) (fun c_79 => absurd (by decide) c_79)
      exact kkx _ _ _ nu0 nu1 nu2 nu3 f2_76 mq2_78 m_nb m_mv9 (xt_P hP [13, 0, 1, 2, 3, 4, 5, 6, 7, 8, 14, 15, 16, 9, 10, 11, 12] rfl) (xt_D hD [13, 0, 1, 2, 3, 4, 5, 6, 7, 8, 14, 15, 16, 9, 10, 11, 12] (by decide +kernel) rfl) r_n0 r_n1 r_n2 r_n3 hS hl
    · skip
      refine lv_aload_n hx hb dL_law_1279 rfl (lv_at hl 3 rfl) ?_
      refine lv_iload_n hx hb dL_law_1280 rfl (lv_at hl 0 rfl) ?_
      refine lv_iconst (v := 1) hx hb dL_law_1281 (by decide) ?_
      refine lv_iadd hx hb dL_law_1282 ?_
      refine xl_i (y := nI (i + 1)) (nI_add i 1) ?_
      refine va_sld hx hb hX hbl hbA hS (x_si (k := 1) (by decide) hi hL) dL_law_1283 ?_
      refine xl_i (y := xs (i + 1)) (congrArg xs (x_sc (k := 1) (by decide) hi hL)) ?_
      refine xl_i (y := 1) eq1 ?_
      refine lv_aload_n hx hb dL_law_1284 rfl (lv_at hl 3 rfl) ?_
      refine lv_iload_n hx hb dL_law_1285 rfl (lv_at hl 0 rfl) ?_
      refine lv_iconst (v := 2) hx hb dL_law_1286 (by decide) ?_
      refine lv_iadd hx hb dL_law_1287 ?_
      refine xl_i (y := nI (i + 2)) (nI_add i 2) ?_
      refine va_sld hx hb hX hbl hbA hS (x_si (k := 2) (by decide) hi hL) dL_law_1288 ?_
      refine xl_i (y := xs (i + 2)) (congrArg xs (x_sc (k := 2) (by decide) hi hL)) ?_
      refine lv_aload_n hx hb dL_law_1289 rfl (lv_at hl 3 rfl) ?_
      refine lv_iload_n hx hb dL_law_1290 rfl (lv_at hl 0 rfl) ?_
      refine lv_iconst (v := 3) hx hb dL_law_1291 (by decide) ?_
      refine lv_iadd hx hb dL_law_1292 ?_
      refine xl_i (y := nI (i + 3)) (nI_add i 3) ?_
      refine va_sld hx hb hX hbl hbA hS (x_si (k := 3) (by decide) hi hL) dL_law_1293 ?_
      refine xl_i (y := xs (i + 3)) (congrArg xs (x_sc (k := 3) (by decide) hi hL)) ?_
      refine xl_i (y := 0) eq3 ?_
      refine lv_aload_n hx hb dL_law_1294 rfl (lv_at hl 3 rfl) ?_
      refine lv_iload_n hx hb dL_law_1295 rfl (lv_at hl 0 rfl) ?_
      refine lv_iconst (v := 4) hx hb dL_law_1296 (by decide) ?_
      refine lv_iadd hx hb dL_law_1297 ?_
      refine xl_i (y := nI (i + 4)) (nI_add i 4) ?_
      refine va_sld hx hb hX hbl hbA hS (x_si (k := 4) (by decide) hi hL) dL_law_1298 ?_
      refine xl_i (y := xs (i + 4)) (congrArg xs (x_sc (k := 4) (by decide) hi hL)) ?_
      refine lv_aload_n hx hb dL_law_1299 rfl (lv_at hl 3 rfl) ?_
      refine lv_iload_n hx hb dL_law_1300 rfl (lv_at hl 0 rfl) ?_
      refine lv_iconst (v := 5) hx hb dL_law_1301 (by decide) ?_
      refine lv_iadd hx hb dL_law_1302 ?_
      refine xl_i (y := nI (i + 5)) (nI_add i 5) ?_
      refine va_sld hx hb hX hbl hbA hS (x_si (k := 5) (by decide) hi hL) dL_law_1303 ?_
      refine xl_i (y := xs (i + 5)) (congrArg xs (x_sc (k := 5) (by decide) hi hL)) ?_
      refine xc_ViT (wr := [(g0, .inr (9, [.ref m_ys, .ref m_yk, .ref m_yo, .ref m_yt, .int b0, .ref m_yfa, .ref m_yfe, .int m_mL, .int m_mS, .int m_mM, .ref m_yro, .ref m_yhe, .ref m_ygr, .int m_mF, .int m_mC, .int m_mY, .ref m_yta, .int (nI (z)), .int (nI (m_mf)), .int (nI (m_mt)), .int m_mv, .int m_mw, .ref m_ywa, .ref m_ybi, .ref m_ysi, .ref m_ynu, .ref m_ymo])), (m_yt, .inl (cI, 7, .inl m_mq)), (m_ybi, .inl (cI, 4, .inl m_bi)), (m_ysi, .inl (cI, 4, .inl m_sq)), (m_ynu, .inl (cJ, 160, .inr (.inl m_nb))), (m_ymo, .inl (cJ, 40, .inr (.inl m_mv9)))]) hF (c_X8_copy_10 l D cI cJ cZ cS ta sa sv H.size h0 qh qk qd b0 qa qm qs qp ql qt qz qf s0 s1 s2 s3 bt0 sz0 sn0 bt1 sz1 sn1 bt2 sz2 sn2 bt3 sz3 sn3 nu0 nu1 nu2 nu3 ff (xs (i + 2)) (xs (i + 4)) (xs (i + 5)) hsz0 hsz1 hsz2 hsz3) kv_L_166 ⟨rfl, rfl, Nat.le_of_ble_eq_true rfl, Nat.le_of_ble_eq_true rfl⟩ ⟨Nat.le_of_ble_eq_true rfl, Nat.le_of_ble_eq_true rfl⟩ hK hN hZ hP hD hS hA [0, 1, 2, 3, 4, 5, 6, 7, 8, 9, 10] [11, 12, 13, 14, 15, 16] rfl rfl (by decide +kernel) (by decide +kernel) (by decide +kernel) 0 rfl rfl rfl rfl hl.1 rfl (Nat.le_of_ble_eq_true rfl) dL_law_1304 (fun r_80 u_r_80 H locs hw_r_80 hP hD hS => ?_)
      obtain ⟨nv_81, f2_82⟩ := u_r_80
      try dsimp only at hw_r_80
      obtain ⟨hw_r_80, i_83⟩ := hw_r_80
      have hP : va_P D vwCl (@HAppend.hAppend va_W va_W va_W _ [(g0, .inr (9, [.ref m_ys, .ref m_yk, .ref m_yo, .ref m_yt, .int b0, .ref m_yfa, .ref m_yfe, .int m_mL, .int m_mS, .int m_mM, .ref m_yro, .ref m_yhe, .ref m_ygr, .int m_mF, .int m_mC, .int m_mY, .ref m_yta, .int (nI (z)), .int (nI (m_mf)), .int (nI (m_mt)), .int m_mv, .int m_mw, .ref m_ywa, .ref m_ybi, .ref m_ysi, .ref m_ynu, .ref m_ymo])), (m_yt, .inl (cI, 7, .inl m_mq)), (m_ybi, .inl (cI, 4, .inl m_bi)), (m_ysi, .inl (cI, 4, .inl m_sq)), (m_ynu, .inl (cJ, 160, .inr (.inl m_nb))), (m_ymo, .inl (cJ, 40, .inr (.inl m_mv9))), (h0, .inr (8, [.ref qh, .ref qk, .ref qd, .int b0, .ref qa, .ref qm, .ref qs, .ref qp, .ref ql, .ref qt, .ref qz, .ref qf])), (qz, .inl (cS, 4, .inr (.inr (.inr (.inr (xSh s0 s1 s2 s3)))))), (s0, .inr (4, [.int bt0, .int (nI (sz0)), .ref sn0])), (s1, .inr (4, [.int bt1, .int (nI (sz1)), .ref sn1])), (s2, .inr (4, [.int bt2, .int (nI (sz2)), .ref sn2])), (s3, .inr (4, [.int bt3, .int (nI (sz3)), .ref sn3])), (sn0, .inl (cJ, 40, .inr (.inl nv_81))), (sn1, .inl (cJ, 40, .inr (.inl nu1))), (sn2, .inl (cJ, 40, .inr (.inl nu2))), (sn3, .inl (cJ, 40, .inr (.inl nu3))), (qf, .inl (cI, 7, .inl f2_82))] tl) H := hP
      have hD : va_D A (@HAppend.hAppend va_W va_W va_W _ [(g0, .inr (9, [.ref m_ys, .ref m_yk, .ref m_yo, .ref m_yt, .int b0, .ref m_yfa, .ref m_yfe, .int m_mL, .int m_mS, .int m_mM, .ref m_yro, .ref m_yhe, .ref m_ygr, .int m_mF, .int m_mC, .int m_mY, .ref m_yta, .int (nI (z)), .int (nI (m_mf)), .int (nI (m_mt)), .int m_mv, .int m_mw, .ref m_ywa, .ref m_ybi, .ref m_ysi, .ref m_ynu, .ref m_ymo])), (m_yt, .inl (cI, 7, .inl m_mq)), (m_ybi, .inl (cI, 4, .inl m_bi)), (m_ysi, .inl (cI, 4, .inl m_sq)), (m_ynu, .inl (cJ, 160, .inr (.inl m_nb))), (m_ymo, .inl (cJ, 40, .inr (.inl m_mv9))), (h0, .inr (8, [.ref qh, .ref qk, .ref qd, .int b0, .ref qa, .ref qm, .ref qs, .ref qp, .ref ql, .ref qt, .ref qz, .ref qf])), (qz, .inl (cS, 4, .inr (.inr (.inr (.inr (xSh s0 s1 s2 s3)))))), (s0, .inr (4, [.int bt0, .int (nI (sz0)), .ref sn0])), (s1, .inr (4, [.int bt1, .int (nI (sz1)), .ref sn1])), (s2, .inr (4, [.int bt2, .int (nI (sz2)), .ref sn2])), (s3, .inr (4, [.int bt3, .int (nI (sz3)), .ref sn3])), (sn0, .inl (cJ, 40, .inr (.inl nv_81))), (sn1, .inl (cJ, 40, .inr (.inl nu1))), (sn2, .inl (cJ, 40, .inr (.inl nu2))), (sn3, .inl (cJ, 40, .inr (.inl nu3))), (qf, .inl (cI, 7, .inl f2_82))] tl) := hD
      subst hw_r_80
      refine lv_aload_n hx hb dL_law_1307 rfl (lv_at hl 1 rfl) ?_
      refine lv_aload_n hx hb dL_law_1308 rfl (lv_at hl 3 rfl) ?_
      refine lv_iload_n hx hb dL_law_1309 rfl (lv_at hl 0 rfl) ?_
      refine lv_iconst (v := 1) hx hb dL_law_1310 (by decide) ?_
      refine lv_iadd hx hb dL_law_1311 ?_
      refine xl_i (y := nI (i + 1)) (nI_add i 1) ?_
      refine va_sld hx hb hX hbl hbA hS (x_si (k := 1) (by decide) hi hL) dL_law_1312 ?_
      refine xl_i (y := xs (i + 1)) (congrArg xs (x_sc (k := 1) (by decide) hi hL)) ?_
      refine xl_i (y := 1) eq1 ?_
      refine lv_aload_n hx hb dL_law_1313 rfl (lv_at hl 3 rfl) ?_
      refine lv_iload_n hx hb dL_law_1314 rfl (lv_at hl 0 rfl) ?_
      refine lv_iconst (v := 2) hx hb dL_law_1315 (by decide) ?_
      refine lv_iadd hx hb dL_law_1316 ?_
      refine xl_i (y := nI (i + 2)) (nI_add i 2) ?_
      refine va_sld hx hb hX hbl hbA hS (x_si (k := 2) (by decide) hi hL) dL_law_1317 ?_
      refine xl_i (y := xs (i + 2)) (congrArg xs (x_sc (k := 2) (by decide) hi hL)) ?_
      refine lv_aload_n hx hb dL_law_1318 rfl (lv_at hl 3 rfl) ?_
      refine lv_iload_n hx hb dL_law_1319 rfl (lv_at hl 0 rfl) ?_
      refine lv_iconst (v := 3) hx hb dL_law_1320 (by decide) ?_
      refine lv_iadd hx hb dL_law_1321 ?_
      refine xl_i (y := nI (i + 3)) (nI_add i 3) ?_
      refine va_sld hx hb hX hbl hbA hS (x_si (k := 3) (by decide) hi hL) dL_law_1322 ?_
      refine xl_i (y := xs (i + 3)) (congrArg xs (x_sc (k := 3) (by decide) hi hL)) ?_
      refine xl_i (y := 0) eq3 ?_
      refine lv_aload_n hx hb dL_law_1323 rfl (lv_at hl 3 rfl) ?_
      refine lv_iload_n hx hb dL_law_1324 rfl (lv_at hl 0 rfl) ?_
      refine lv_iconst (v := 4) hx hb dL_law_1325 (by decide) ?_
      refine lv_iadd hx hb dL_law_1326 ?_
      refine xl_i (y := nI (i + 4)) (nI_add i 4) ?_
      refine va_sld hx hb hX hbl hbA hS (x_si (k := 4) (by decide) hi hL) dL_law_1327 ?_
      refine xl_i (y := xs (i + 4)) (congrArg xs (x_sc (k := 4) (by decide) hi hL)) ?_
      refine lv_aload_n hx hb dL_law_1328 rfl (lv_at hl 3 rfl) ?_
      refine lv_iload_n hx hb dL_law_1329 rfl (lv_at hl 0 rfl) ?_
      refine lv_iconst (v := 5) hx hb dL_law_1330 (by decide) ?_
      refine lv_iadd hx hb dL_law_1331 ?_
      refine xl_i (y := nI (i + 5)) (nI_add i 5) ?_
      refine va_sld hx hb hX hbl hbA hS (x_si (k := 5) (by decide) hi hL) dL_law_1332 ?_
      refine xl_i (y := xs (i + 5)) (congrArg xs (x_sc (k := 5) (by decide) hi hL)) ?_
      refine xc_ViT (wr := [(h0, .inr (8, [.ref qh, .ref qk, .ref qd, .int b0, .ref qa, .ref qm, .ref qs, .ref qp, .ref ql, .ref qt, .ref qz, .ref qf])), (qz, .inl (cS, 4, .inr (.inr (.inr (.inr (xSh s0 s1 s2 s3)))))), (s0, .inr (4, [.int bt0, .int (nI (sz0)), .ref sn0])), (s1, .inr (4, [.int bt1, .int (nI (sz1)), .ref sn1])), (s2, .inr (4, [.int bt2, .int (nI (sz2)), .ref sn2])), (s3, .inr (4, [.int bt3, .int (nI (sz3)), .ref sn3])), (sn0, .inl (cJ, 40, .inr (.inl nv_81))), (sn1, .inl (cJ, 40, .inr (.inl nu1))), (sn2, .inl (cJ, 40, .inr (.inl nu2))), (sn3, .inl (cJ, 40, .inr (.inl nu3))), (qf, .inl (cI, 7, .inl f2_82))]) hF (c_X9_copy_10 l D cI cJ cZ cS ta sa sv H.size g0 m_ys m_yk m_yo m_yt b0 m_yfa m_yfe m_mL m_mS m_mM m_yro m_yhe m_ygr m_mF m_mC m_mY m_yta z m_mf m_mt m_mv m_mw m_ywa m_ybi m_ysi m_ynu m_ymo m_bi m_sq m_nb m_mv9 m_mq (xs (i + 2)) (xs (i + 4)) (xs (i + 5)) sz1 sz0 r_z1 hsz1 r_z0 hsz0 m_hsq) kv_L_170 ⟨rfl, rfl, Nat.le_of_ble_eq_true rfl, Nat.le_of_ble_eq_true rfl⟩ ⟨Nat.le_of_ble_eq_true rfl, Nat.le_of_ble_eq_true rfl⟩ hK hN hZ hP hD hS hA [0, 2, 3, 4, 5, 1] [6, 7, 8, 9, 10, 11, 12, 13, 14, 15, 16] rfl rfl (by decide +kernel) (by decide +kernel) (by decide +kernel) 0 rfl rfl rfl rfl hl.1 rfl (Nat.le_of_ble_eq_true rfl) dL_law_1333 (fun r_84 u_r_84 H locs hw_r_84 hP hD hS => ?_)
      obtain ⟨nb2_85, mv2_86, mq2_87⟩ := u_r_84
      try dsimp only at hw_r_84
      obtain ⟨hw_r_84, i_88, i_89⟩ := hw_r_84
      have hP : va_P D vwCl (@HAppend.hAppend va_W va_W va_W _ [(h0, .inr (8, [.ref qh, .ref qk, .ref qd, .int b0, .ref qa, .ref qm, .ref qs, .ref qp, .ref ql, .ref qt, .ref qz, .ref qf])), (qz, .inl (cS, 4, .inr (.inr (.inr (.inr (xSh s0 s1 s2 s3)))))), (s0, .inr (4, [.int bt0, .int (nI (sz0)), .ref sn0])), (s1, .inr (4, [.int bt1, .int (nI (sz1)), .ref sn1])), (s2, .inr (4, [.int bt2, .int (nI (sz2)), .ref sn2])), (s3, .inr (4, [.int bt3, .int (nI (sz3)), .ref sn3])), (sn0, .inl (cJ, 40, .inr (.inl nv_81))), (sn1, .inl (cJ, 40, .inr (.inl nu1))), (sn2, .inl (cJ, 40, .inr (.inl nu2))), (sn3, .inl (cJ, 40, .inr (.inl nu3))), (qf, .inl (cI, 7, .inl f2_82)), (g0, .inr (9, [.ref m_ys, .ref m_yk, .ref m_yo, .ref m_yt, .int b0, .ref m_yfa, .ref m_yfe, .int m_mL, .int m_mS, .int m_mM, .ref m_yro, .ref m_yhe, .ref m_ygr, .int m_mF, .int m_mC, .int m_mY, .ref m_yta, .int (nI (z)), .int (nI (m_mf)), .int (nI (m_mt)), .int m_mv, .int m_mw, .ref m_ywa, .ref m_ybi, .ref m_ysi, .ref m_ynu, .ref m_ymo])), (m_ybi, .inl (cI, 4, .inl m_bi)), (m_ysi, .inl (cI, 4, .inl m_sq)), (m_ynu, .inl (cJ, 160, .inr (.inl nb2_85))), (m_ymo, .inl (cJ, 40, .inr (.inl mv2_86))), (m_yt, .inl (cI, 7, .inl mq2_87))] tl) H := hP
      have hD : va_D A (@HAppend.hAppend va_W va_W va_W _ [(h0, .inr (8, [.ref qh, .ref qk, .ref qd, .int b0, .ref qa, .ref qm, .ref qs, .ref qp, .ref ql, .ref qt, .ref qz, .ref qf])), (qz, .inl (cS, 4, .inr (.inr (.inr (.inr (xSh s0 s1 s2 s3)))))), (s0, .inr (4, [.int bt0, .int (nI (sz0)), .ref sn0])), (s1, .inr (4, [.int bt1, .int (nI (sz1)), .ref sn1])), (s2, .inr (4, [.int bt2, .int (nI (sz2)), .ref sn2])), (s3, .inr (4, [.int bt3, .int (nI (sz3)), .ref sn3])), (sn0, .inl (cJ, 40, .inr (.inl nv_81))), (sn1, .inl (cJ, 40, .inr (.inl nu1))), (sn2, .inl (cJ, 40, .inr (.inl nu2))), (sn3, .inl (cJ, 40, .inr (.inl nu3))), (qf, .inl (cI, 7, .inl f2_82)), (g0, .inr (9, [.ref m_ys, .ref m_yk, .ref m_yo, .ref m_yt, .int b0, .ref m_yfa, .ref m_yfe, .int m_mL, .int m_mS, .int m_mM, .ref m_yro, .ref m_yhe, .ref m_ygr, .int m_mF, .int m_mC, .int m_mY, .ref m_yta, .int (nI (z)), .int (nI (m_mf)), .int (nI (m_mt)), .int m_mv, .int m_mw, .ref m_ywa, .ref m_ybi, .ref m_ysi, .ref m_ynu, .ref m_ymo])), (m_ybi, .inl (cI, 4, .inl m_bi)), (m_ysi, .inl (cI, 4, .inl m_sq)), (m_ynu, .inl (cJ, 160, .inr (.inl nb2_85))), (m_ymo, .inl (cJ, 40, .inr (.inl mv2_86))), (m_yt, .inl (cI, 7, .inl mq2_87))] tl) := hD
      subst hw_r_84
      refine lv_icmp_eq (tgt := 1482) hx hb dL_law_1336 (by decide) (fun c_90 => ?_) (fun c_90 => absurd (sp_creq r_b1 r_b0) c_90)
      exact kkx _ _ _ nv_81 nu1 nu2 nu3 f2_82 mq2_87 nb2_85 mv2_86 (xt_P hP [0, 1, 2, 3, 4, 5, 6, 7, 8, 9, 10, 11, 16, 12, 13, 14, 15] rfl) (xt_D hD [0, 1, 2, 3, 4, 5, 6, 7, 8, 9, 10, 11, 16, 12, 13, 14, 15] (by decide +kernel) rfl) (fun j hj => (i_88 j).trans ((sp_cneq r_b1 r_b0 r_n1 (by omega) (r_n0 j hj)).trans (i_83 j).symm)) (fun j hj => (i_89 (40 + j) (by omega)).trans (r_n1 j hj)) (fun j hj => (i_89 (80 + j) (by omega)).trans (r_n2 j hj)) (fun j hj => (i_89 (120 + j) (by omega)).trans (r_n3 j hj)) hS hl
    · skip
      refine lv_aload_n hx hb dL_law_1279 rfl (lv_at hl 3 rfl) ?_
      refine lv_iload_n hx hb dL_law_1280 rfl (lv_at hl 0 rfl) ?_
      refine lv_iconst (v := 1) hx hb dL_law_1281 (by decide) ?_
      refine lv_iadd hx hb dL_law_1282 ?_
      refine xl_i (y := nI (i + 1)) (nI_add i 1) ?_
      refine va_sld hx hb hX hbl hbA hS (x_si (k := 1) (by decide) hi hL) dL_law_1283 ?_
      refine xl_i (y := xs (i + 1)) (congrArg xs (x_sc (k := 1) (by decide) hi hL)) ?_
      refine xl_i (y := 1) eq1 ?_
      refine lv_aload_n hx hb dL_law_1284 rfl (lv_at hl 3 rfl) ?_
      refine lv_iload_n hx hb dL_law_1285 rfl (lv_at hl 0 rfl) ?_
      refine lv_iconst (v := 2) hx hb dL_law_1286 (by decide) ?_
      refine lv_iadd hx hb dL_law_1287 ?_
      refine xl_i (y := nI (i + 2)) (nI_add i 2) ?_
      refine va_sld hx hb hX hbl hbA hS (x_si (k := 2) (by decide) hi hL) dL_law_1288 ?_
      refine xl_i (y := xs (i + 2)) (congrArg xs (x_sc (k := 2) (by decide) hi hL)) ?_
      refine lv_aload_n hx hb dL_law_1289 rfl (lv_at hl 3 rfl) ?_
      refine lv_iload_n hx hb dL_law_1290 rfl (lv_at hl 0 rfl) ?_
      refine lv_iconst (v := 3) hx hb dL_law_1291 (by decide) ?_
      refine lv_iadd hx hb dL_law_1292 ?_
      refine xl_i (y := nI (i + 3)) (nI_add i 3) ?_
      refine va_sld hx hb hX hbl hbA hS (x_si (k := 3) (by decide) hi hL) dL_law_1293 ?_
      refine xl_i (y := xs (i + 3)) (congrArg xs (x_sc (k := 3) (by decide) hi hL)) ?_
      refine xl_i (y := 1) eq3 ?_
      refine lv_aload_n hx hb dL_law_1294 rfl (lv_at hl 3 rfl) ?_
      refine lv_iload_n hx hb dL_law_1295 rfl (lv_at hl 0 rfl) ?_
      refine lv_iconst (v := 4) hx hb dL_law_1296 (by decide) ?_
      refine lv_iadd hx hb dL_law_1297 ?_
      refine xl_i (y := nI (i + 4)) (nI_add i 4) ?_
      refine va_sld hx hb hX hbl hbA hS (x_si (k := 4) (by decide) hi hL) dL_law_1298 ?_
      refine xl_i (y := xs (i + 4)) (congrArg xs (x_sc (k := 4) (by decide) hi hL)) ?_
      refine lv_aload_n hx hb dL_law_1299 rfl (lv_at hl 3 rfl) ?_
      refine lv_iload_n hx hb dL_law_1300 rfl (lv_at hl 0 rfl) ?_
      refine lv_iconst (v := 5) hx hb dL_law_1301 (by decide) ?_
      refine lv_iadd hx hb dL_law_1302 ?_
      refine xl_i (y := nI (i + 5)) (nI_add i 5) ?_
      refine va_sld hx hb hX hbl hbA hS (x_si (k := 5) (by decide) hi hL) dL_law_1303 ?_
      refine xl_i (y := xs (i + 5)) (congrArg xs (x_sc (k := 5) (by decide) hi hL)) ?_
      refine xc_ViT (wr := [(g0, .inr (9, [.ref m_ys, .ref m_yk, .ref m_yo, .ref m_yt, .int b0, .ref m_yfa, .ref m_yfe, .int m_mL, .int m_mS, .int m_mM, .ref m_yro, .ref m_yhe, .ref m_ygr, .int m_mF, .int m_mC, .int m_mY, .ref m_yta, .int (nI (z)), .int (nI (m_mf)), .int (nI (m_mt)), .int m_mv, .int m_mw, .ref m_ywa, .ref m_ybi, .ref m_ysi, .ref m_ynu, .ref m_ymo])), (m_yt, .inl (cI, 7, .inl m_mq)), (m_ybi, .inl (cI, 4, .inl m_bi)), (m_ysi, .inl (cI, 4, .inl m_sq)), (m_ynu, .inl (cJ, 160, .inr (.inl m_nb))), (m_ymo, .inl (cJ, 40, .inr (.inl m_mv9)))]) hF (c_X8_copy_11 l D cI cJ cZ cS ta sa sv H.size h0 qh qk qd b0 qa qm qs qp ql qt qz qf s0 s1 s2 s3 bt0 sz0 sn0 bt1 sz1 sn1 bt2 sz2 sn2 bt3 sz3 sn3 nu0 nu1 nu2 nu3 ff (xs (i + 2)) (xs (i + 4)) (xs (i + 5)) hsz0 hsz1 hsz2 hsz3) kv_L_166 ⟨rfl, rfl, Nat.le_of_ble_eq_true rfl, Nat.le_of_ble_eq_true rfl⟩ ⟨Nat.le_of_ble_eq_true rfl, Nat.le_of_ble_eq_true rfl⟩ hK hN hZ hP hD hS hA [0, 1, 2, 3, 4, 5, 6, 7, 8, 9, 10] [11, 12, 13, 14, 15, 16] rfl rfl (by decide +kernel) (by decide +kernel) (by decide +kernel) 0 rfl rfl rfl rfl hl.1 rfl (Nat.le_of_ble_eq_true rfl) dL_law_1304 (fun r_91 u_r_91 H locs hw_r_91 hP hD hS => ?_)
      obtain ⟨nv_92, f2_93⟩ := u_r_91
      try dsimp only at hw_r_91
      obtain ⟨hw_r_91, i_94⟩ := hw_r_91
      have hP : va_P D vwCl (@HAppend.hAppend va_W va_W va_W _ [(g0, .inr (9, [.ref m_ys, .ref m_yk, .ref m_yo, .ref m_yt, .int b0, .ref m_yfa, .ref m_yfe, .int m_mL, .int m_mS, .int m_mM, .ref m_yro, .ref m_yhe, .ref m_ygr, .int m_mF, .int m_mC, .int m_mY, .ref m_yta, .int (nI (z)), .int (nI (m_mf)), .int (nI (m_mt)), .int m_mv, .int m_mw, .ref m_ywa, .ref m_ybi, .ref m_ysi, .ref m_ynu, .ref m_ymo])), (m_yt, .inl (cI, 7, .inl m_mq)), (m_ybi, .inl (cI, 4, .inl m_bi)), (m_ysi, .inl (cI, 4, .inl m_sq)), (m_ynu, .inl (cJ, 160, .inr (.inl m_nb))), (m_ymo, .inl (cJ, 40, .inr (.inl m_mv9))), (h0, .inr (8, [.ref qh, .ref qk, .ref qd, .int b0, .ref qa, .ref qm, .ref qs, .ref qp, .ref ql, .ref qt, .ref qz, .ref qf])), (qz, .inl (cS, 4, .inr (.inr (.inr (.inr (xSh s0 s1 s2 s3)))))), (s0, .inr (4, [.int bt0, .int (nI (sz0)), .ref sn0])), (s1, .inr (4, [.int bt1, .int (nI (sz1)), .ref sn1])), (s2, .inr (4, [.int bt2, .int (nI (sz2)), .ref sn2])), (s3, .inr (4, [.int bt3, .int (nI (sz3)), .ref sn3])), (sn0, .inl (cJ, 40, .inr (.inl nu0))), (sn1, .inl (cJ, 40, .inr (.inl nv_92))), (sn2, .inl (cJ, 40, .inr (.inl nu2))), (sn3, .inl (cJ, 40, .inr (.inl nu3))), (qf, .inl (cI, 7, .inl f2_93))] tl) H := hP
      have hD : va_D A (@HAppend.hAppend va_W va_W va_W _ [(g0, .inr (9, [.ref m_ys, .ref m_yk, .ref m_yo, .ref m_yt, .int b0, .ref m_yfa, .ref m_yfe, .int m_mL, .int m_mS, .int m_mM, .ref m_yro, .ref m_yhe, .ref m_ygr, .int m_mF, .int m_mC, .int m_mY, .ref m_yta, .int (nI (z)), .int (nI (m_mf)), .int (nI (m_mt)), .int m_mv, .int m_mw, .ref m_ywa, .ref m_ybi, .ref m_ysi, .ref m_ynu, .ref m_ymo])), (m_yt, .inl (cI, 7, .inl m_mq)), (m_ybi, .inl (cI, 4, .inl m_bi)), (m_ysi, .inl (cI, 4, .inl m_sq)), (m_ynu, .inl (cJ, 160, .inr (.inl m_nb))), (m_ymo, .inl (cJ, 40, .inr (.inl m_mv9))), (h0, .inr (8, [.ref qh, .ref qk, .ref qd, .int b0, .ref qa, .ref qm, .ref qs, .ref qp, .ref ql, .ref qt, .ref qz, .ref qf])), (qz, .inl (cS, 4, .inr (.inr (.inr (.inr (xSh s0 s1 s2 s3)))))), (s0, .inr (4, [.int bt0, .int (nI (sz0)), .ref sn0])), (s1, .inr (4, [.int bt1, .int (nI (sz1)), .ref sn1])), (s2, .inr (4, [.int bt2, .int (nI (sz2)), .ref sn2])), (s3, .inr (4, [.int bt3, .int (nI (sz3)), .ref sn3])), (sn0, .inl (cJ, 40, .inr (.inl nu0))), (sn1, .inl (cJ, 40, .inr (.inl nv_92))), (sn2, .inl (cJ, 40, .inr (.inl nu2))), (sn3, .inl (cJ, 40, .inr (.inl nu3))), (qf, .inl (cI, 7, .inl f2_93))] tl) := hD
      subst hw_r_91
      refine lv_aload_n hx hb dL_law_1307 rfl (lv_at hl 1 rfl) ?_
      refine lv_aload_n hx hb dL_law_1308 rfl (lv_at hl 3 rfl) ?_
      refine lv_iload_n hx hb dL_law_1309 rfl (lv_at hl 0 rfl) ?_
      refine lv_iconst (v := 1) hx hb dL_law_1310 (by decide) ?_
      refine lv_iadd hx hb dL_law_1311 ?_
      refine xl_i (y := nI (i + 1)) (nI_add i 1) ?_
      refine va_sld hx hb hX hbl hbA hS (x_si (k := 1) (by decide) hi hL) dL_law_1312 ?_
      refine xl_i (y := xs (i + 1)) (congrArg xs (x_sc (k := 1) (by decide) hi hL)) ?_
      refine xl_i (y := 1) eq1 ?_
      refine lv_aload_n hx hb dL_law_1313 rfl (lv_at hl 3 rfl) ?_
      refine lv_iload_n hx hb dL_law_1314 rfl (lv_at hl 0 rfl) ?_
      refine lv_iconst (v := 2) hx hb dL_law_1315 (by decide) ?_
      refine lv_iadd hx hb dL_law_1316 ?_
      refine xl_i (y := nI (i + 2)) (nI_add i 2) ?_
      refine va_sld hx hb hX hbl hbA hS (x_si (k := 2) (by decide) hi hL) dL_law_1317 ?_
      refine xl_i (y := xs (i + 2)) (congrArg xs (x_sc (k := 2) (by decide) hi hL)) ?_
      refine lv_aload_n hx hb dL_law_1318 rfl (lv_at hl 3 rfl) ?_
      refine lv_iload_n hx hb dL_law_1319 rfl (lv_at hl 0 rfl) ?_
      refine lv_iconst (v := 3) hx hb dL_law_1320 (by decide) ?_
      refine lv_iadd hx hb dL_law_1321 ?_
      refine xl_i (y := nI (i + 3)) (nI_add i 3) ?_
      refine va_sld hx hb hX hbl hbA hS (x_si (k := 3) (by decide) hi hL) dL_law_1322 ?_
      refine xl_i (y := xs (i + 3)) (congrArg xs (x_sc (k := 3) (by decide) hi hL)) ?_
      refine xl_i (y := 1) eq3 ?_
      refine lv_aload_n hx hb dL_law_1323 rfl (lv_at hl 3 rfl) ?_
      refine lv_iload_n hx hb dL_law_1324 rfl (lv_at hl 0 rfl) ?_
      refine lv_iconst (v := 4) hx hb dL_law_1325 (by decide) ?_
      refine lv_iadd hx hb dL_law_1326 ?_
      refine xl_i (y := nI (i + 4)) (nI_add i 4) ?_
      refine va_sld hx hb hX hbl hbA hS (x_si (k := 4) (by decide) hi hL) dL_law_1327 ?_
      refine xl_i (y := xs (i + 4)) (congrArg xs (x_sc (k := 4) (by decide) hi hL)) ?_
      refine lv_aload_n hx hb dL_law_1328 rfl (lv_at hl 3 rfl) ?_
      refine lv_iload_n hx hb dL_law_1329 rfl (lv_at hl 0 rfl) ?_
      refine lv_iconst (v := 5) hx hb dL_law_1330 (by decide) ?_
      refine lv_iadd hx hb dL_law_1331 ?_
      refine xl_i (y := nI (i + 5)) (nI_add i 5) ?_
      refine va_sld hx hb hX hbl hbA hS (x_si (k := 5) (by decide) hi hL) dL_law_1332 ?_
      refine xl_i (y := xs (i + 5)) (congrArg xs (x_sc (k := 5) (by decide) hi hL)) ?_
      refine xc_ViT (wr := [(h0, .inr (8, [.ref qh, .ref qk, .ref qd, .int b0, .ref qa, .ref qm, .ref qs, .ref qp, .ref ql, .ref qt, .ref qz, .ref qf])), (qz, .inl (cS, 4, .inr (.inr (.inr (.inr (xSh s0 s1 s2 s3)))))), (s0, .inr (4, [.int bt0, .int (nI (sz0)), .ref sn0])), (s1, .inr (4, [.int bt1, .int (nI (sz1)), .ref sn1])), (s2, .inr (4, [.int bt2, .int (nI (sz2)), .ref sn2])), (s3, .inr (4, [.int bt3, .int (nI (sz3)), .ref sn3])), (sn0, .inl (cJ, 40, .inr (.inl nu0))), (sn1, .inl (cJ, 40, .inr (.inl nv_92))), (sn2, .inl (cJ, 40, .inr (.inl nu2))), (sn3, .inl (cJ, 40, .inr (.inl nu3))), (qf, .inl (cI, 7, .inl f2_93))]) hF (c_X9_copy_11 l D cI cJ cZ cS ta sa sv H.size g0 m_ys m_yk m_yo m_yt b0 m_yfa m_yfe m_mL m_mS m_mM m_yro m_yhe m_ygr m_mF m_mC m_mY m_yta z m_mf m_mt m_mv m_mw m_ywa m_ybi m_ysi m_ynu m_ymo m_bi m_sq m_nb m_mv9 m_mq (xs (i + 2)) (xs (i + 4)) (xs (i + 5)) sz1 sz1 r_z1 hsz1 r_z1 hsz1 m_hsq) kv_L_170 ⟨rfl, rfl, Nat.le_of_ble_eq_true rfl, Nat.le_of_ble_eq_true rfl⟩ ⟨Nat.le_of_ble_eq_true rfl, Nat.le_of_ble_eq_true rfl⟩ hK hN hZ hP hD hS hA [0, 2, 3, 4, 5, 1] [6, 7, 8, 9, 10, 11, 12, 13, 14, 15, 16] rfl rfl (by decide +kernel) (by decide +kernel) (by decide +kernel) 0 rfl rfl rfl rfl hl.1 rfl (Nat.le_of_ble_eq_true rfl) dL_law_1333 (fun r_95 u_r_95 H locs hw_r_95 hP hD hS => ?_)
      obtain ⟨nb2_96, mv2_97, mq2_98⟩ := u_r_95
      try dsimp only at hw_r_95
      obtain ⟨hw_r_95, i_99, i_100⟩ := hw_r_95
      have hP : va_P D vwCl (@HAppend.hAppend va_W va_W va_W _ [(h0, .inr (8, [.ref qh, .ref qk, .ref qd, .int b0, .ref qa, .ref qm, .ref qs, .ref qp, .ref ql, .ref qt, .ref qz, .ref qf])), (qz, .inl (cS, 4, .inr (.inr (.inr (.inr (xSh s0 s1 s2 s3)))))), (s0, .inr (4, [.int bt0, .int (nI (sz0)), .ref sn0])), (s1, .inr (4, [.int bt1, .int (nI (sz1)), .ref sn1])), (s2, .inr (4, [.int bt2, .int (nI (sz2)), .ref sn2])), (s3, .inr (4, [.int bt3, .int (nI (sz3)), .ref sn3])), (sn0, .inl (cJ, 40, .inr (.inl nu0))), (sn1, .inl (cJ, 40, .inr (.inl nv_92))), (sn2, .inl (cJ, 40, .inr (.inl nu2))), (sn3, .inl (cJ, 40, .inr (.inl nu3))), (qf, .inl (cI, 7, .inl f2_93)), (g0, .inr (9, [.ref m_ys, .ref m_yk, .ref m_yo, .ref m_yt, .int b0, .ref m_yfa, .ref m_yfe, .int m_mL, .int m_mS, .int m_mM, .ref m_yro, .ref m_yhe, .ref m_ygr, .int m_mF, .int m_mC, .int m_mY, .ref m_yta, .int (nI (z)), .int (nI (m_mf)), .int (nI (m_mt)), .int m_mv, .int m_mw, .ref m_ywa, .ref m_ybi, .ref m_ysi, .ref m_ynu, .ref m_ymo])), (m_ybi, .inl (cI, 4, .inl m_bi)), (m_ysi, .inl (cI, 4, .inl m_sq)), (m_ynu, .inl (cJ, 160, .inr (.inl nb2_96))), (m_ymo, .inl (cJ, 40, .inr (.inl mv2_97))), (m_yt, .inl (cI, 7, .inl mq2_98))] tl) H := hP
      have hD : va_D A (@HAppend.hAppend va_W va_W va_W _ [(h0, .inr (8, [.ref qh, .ref qk, .ref qd, .int b0, .ref qa, .ref qm, .ref qs, .ref qp, .ref ql, .ref qt, .ref qz, .ref qf])), (qz, .inl (cS, 4, .inr (.inr (.inr (.inr (xSh s0 s1 s2 s3)))))), (s0, .inr (4, [.int bt0, .int (nI (sz0)), .ref sn0])), (s1, .inr (4, [.int bt1, .int (nI (sz1)), .ref sn1])), (s2, .inr (4, [.int bt2, .int (nI (sz2)), .ref sn2])), (s3, .inr (4, [.int bt3, .int (nI (sz3)), .ref sn3])), (sn0, .inl (cJ, 40, .inr (.inl nu0))), (sn1, .inl (cJ, 40, .inr (.inl nv_92))), (sn2, .inl (cJ, 40, .inr (.inl nu2))), (sn3, .inl (cJ, 40, .inr (.inl nu3))), (qf, .inl (cI, 7, .inl f2_93)), (g0, .inr (9, [.ref m_ys, .ref m_yk, .ref m_yo, .ref m_yt, .int b0, .ref m_yfa, .ref m_yfe, .int m_mL, .int m_mS, .int m_mM, .ref m_yro, .ref m_yhe, .ref m_ygr, .int m_mF, .int m_mC, .int m_mY, .ref m_yta, .int (nI (z)), .int (nI (m_mf)), .int (nI (m_mt)), .int m_mv, .int m_mw, .ref m_ywa, .ref m_ybi, .ref m_ysi, .ref m_ynu, .ref m_ymo])), (m_ybi, .inl (cI, 4, .inl m_bi)), (m_ysi, .inl (cI, 4, .inl m_sq)), (m_ynu, .inl (cJ, 160, .inr (.inl nb2_96))), (m_ymo, .inl (cJ, 40, .inr (.inl mv2_97))), (m_yt, .inl (cI, 7, .inl mq2_98))] tl) := hD
      subst hw_r_95
      refine lv_icmp_eq (tgt := 1482) hx hb dL_law_1336 (by decide) (fun c_101 => ?_) (fun c_101 => absurd (sp_creq r_b1 r_b1) c_101)
      exact kkx _ _ _ nu0 nv_92 nu2 nu3 f2_93 mq2_98 nb2_96 mv2_97 (xt_P hP [0, 1, 2, 3, 4, 5, 6, 7, 8, 9, 10, 11, 16, 12, 13, 14, 15] rfl) (xt_D hD [0, 1, 2, 3, 4, 5, 6, 7, 8, 9, 10, 11, 16, 12, 13, 14, 15] (by decide +kernel) rfl) (fun j hj => (i_100 (0 + j) (by omega)).trans (r_n0 j hj)) (fun j hj => (i_99 j).trans ((sp_cneq r_b1 r_b1 r_n1 (by omega) (r_n1 j hj)).trans (i_94 j).symm)) (fun j hj => (i_100 (80 + j) (by omega)).trans (r_n2 j hj)) (fun j hj => (i_100 (120 + j) (by omega)).trans (r_n3 j hj)) hS hl
    · skip
      refine lv_aload_n hx hb dL_law_1279 rfl (lv_at hl 3 rfl) ?_
      refine lv_iload_n hx hb dL_law_1280 rfl (lv_at hl 0 rfl) ?_
      refine lv_iconst (v := 1) hx hb dL_law_1281 (by decide) ?_
      refine lv_iadd hx hb dL_law_1282 ?_
      refine xl_i (y := nI (i + 1)) (nI_add i 1) ?_
      refine va_sld hx hb hX hbl hbA hS (x_si (k := 1) (by decide) hi hL) dL_law_1283 ?_
      refine xl_i (y := xs (i + 1)) (congrArg xs (x_sc (k := 1) (by decide) hi hL)) ?_
      refine xl_i (y := 1) eq1 ?_
      refine lv_aload_n hx hb dL_law_1284 rfl (lv_at hl 3 rfl) ?_
      refine lv_iload_n hx hb dL_law_1285 rfl (lv_at hl 0 rfl) ?_
      refine lv_iconst (v := 2) hx hb dL_law_1286 (by decide) ?_
      refine lv_iadd hx hb dL_law_1287 ?_
      refine xl_i (y := nI (i + 2)) (nI_add i 2) ?_
      refine va_sld hx hb hX hbl hbA hS (x_si (k := 2) (by decide) hi hL) dL_law_1288 ?_
      refine xl_i (y := xs (i + 2)) (congrArg xs (x_sc (k := 2) (by decide) hi hL)) ?_
      refine lv_aload_n hx hb dL_law_1289 rfl (lv_at hl 3 rfl) ?_
      refine lv_iload_n hx hb dL_law_1290 rfl (lv_at hl 0 rfl) ?_
      refine lv_iconst (v := 3) hx hb dL_law_1291 (by decide) ?_
      refine lv_iadd hx hb dL_law_1292 ?_
      refine xl_i (y := nI (i + 3)) (nI_add i 3) ?_
      refine va_sld hx hb hX hbl hbA hS (x_si (k := 3) (by decide) hi hL) dL_law_1293 ?_
      refine xl_i (y := xs (i + 3)) (congrArg xs (x_sc (k := 3) (by decide) hi hL)) ?_
      refine xl_i (y := 2) eq3 ?_
      refine lv_aload_n hx hb dL_law_1294 rfl (lv_at hl 3 rfl) ?_
      refine lv_iload_n hx hb dL_law_1295 rfl (lv_at hl 0 rfl) ?_
      refine lv_iconst (v := 4) hx hb dL_law_1296 (by decide) ?_
      refine lv_iadd hx hb dL_law_1297 ?_
      refine xl_i (y := nI (i + 4)) (nI_add i 4) ?_
      refine va_sld hx hb hX hbl hbA hS (x_si (k := 4) (by decide) hi hL) dL_law_1298 ?_
      refine xl_i (y := xs (i + 4)) (congrArg xs (x_sc (k := 4) (by decide) hi hL)) ?_
      refine lv_aload_n hx hb dL_law_1299 rfl (lv_at hl 3 rfl) ?_
      refine lv_iload_n hx hb dL_law_1300 rfl (lv_at hl 0 rfl) ?_
      refine lv_iconst (v := 5) hx hb dL_law_1301 (by decide) ?_
      refine lv_iadd hx hb dL_law_1302 ?_
      refine xl_i (y := nI (i + 5)) (nI_add i 5) ?_
      refine va_sld hx hb hX hbl hbA hS (x_si (k := 5) (by decide) hi hL) dL_law_1303 ?_
      refine xl_i (y := xs (i + 5)) (congrArg xs (x_sc (k := 5) (by decide) hi hL)) ?_
      refine xc_ViT (wr := [(g0, .inr (9, [.ref m_ys, .ref m_yk, .ref m_yo, .ref m_yt, .int b0, .ref m_yfa, .ref m_yfe, .int m_mL, .int m_mS, .int m_mM, .ref m_yro, .ref m_yhe, .ref m_ygr, .int m_mF, .int m_mC, .int m_mY, .ref m_yta, .int (nI (z)), .int (nI (m_mf)), .int (nI (m_mt)), .int m_mv, .int m_mw, .ref m_ywa, .ref m_ybi, .ref m_ysi, .ref m_ynu, .ref m_ymo])), (m_yt, .inl (cI, 7, .inl m_mq)), (m_ybi, .inl (cI, 4, .inl m_bi)), (m_ysi, .inl (cI, 4, .inl m_sq)), (m_ynu, .inl (cJ, 160, .inr (.inl m_nb))), (m_ymo, .inl (cJ, 40, .inr (.inl m_mv9)))]) hF (c_X8_copy_12 l D cI cJ cZ cS ta sa sv H.size h0 qh qk qd b0 qa qm qs qp ql qt qz qf s0 s1 s2 s3 bt0 sz0 sn0 bt1 sz1 sn1 bt2 sz2 sn2 bt3 sz3 sn3 nu0 nu1 nu2 nu3 ff (xs (i + 2)) (xs (i + 4)) (xs (i + 5)) hsz0 hsz1 hsz2 hsz3) kv_L_166 ⟨rfl, rfl, Nat.le_of_ble_eq_true rfl, Nat.le_of_ble_eq_true rfl⟩ ⟨Nat.le_of_ble_eq_true rfl, Nat.le_of_ble_eq_true rfl⟩ hK hN hZ hP hD hS hA [0, 1, 2, 3, 4, 5, 6, 7, 8, 9, 10] [11, 12, 13, 14, 15, 16] rfl rfl (by decide +kernel) (by decide +kernel) (by decide +kernel) 0 rfl rfl rfl rfl hl.1 rfl (Nat.le_of_ble_eq_true rfl) dL_law_1304 (fun r_102 u_r_102 H locs hw_r_102 hP hD hS => ?_)
      obtain ⟨nv_103, f2_104⟩ := u_r_102
      try dsimp only at hw_r_102
      obtain ⟨hw_r_102, i_105⟩ := hw_r_102
      have hP : va_P D vwCl (@HAppend.hAppend va_W va_W va_W _ [(g0, .inr (9, [.ref m_ys, .ref m_yk, .ref m_yo, .ref m_yt, .int b0, .ref m_yfa, .ref m_yfe, .int m_mL, .int m_mS, .int m_mM, .ref m_yro, .ref m_yhe, .ref m_ygr, .int m_mF, .int m_mC, .int m_mY, .ref m_yta, .int (nI (z)), .int (nI (m_mf)), .int (nI (m_mt)), .int m_mv, .int m_mw, .ref m_ywa, .ref m_ybi, .ref m_ysi, .ref m_ynu, .ref m_ymo])), (m_yt, .inl (cI, 7, .inl m_mq)), (m_ybi, .inl (cI, 4, .inl m_bi)), (m_ysi, .inl (cI, 4, .inl m_sq)), (m_ynu, .inl (cJ, 160, .inr (.inl m_nb))), (m_ymo, .inl (cJ, 40, .inr (.inl m_mv9))), (h0, .inr (8, [.ref qh, .ref qk, .ref qd, .int b0, .ref qa, .ref qm, .ref qs, .ref qp, .ref ql, .ref qt, .ref qz, .ref qf])), (qz, .inl (cS, 4, .inr (.inr (.inr (.inr (xSh s0 s1 s2 s3)))))), (s0, .inr (4, [.int bt0, .int (nI (sz0)), .ref sn0])), (s1, .inr (4, [.int bt1, .int (nI (sz1)), .ref sn1])), (s2, .inr (4, [.int bt2, .int (nI (sz2)), .ref sn2])), (s3, .inr (4, [.int bt3, .int (nI (sz3)), .ref sn3])), (sn0, .inl (cJ, 40, .inr (.inl nu0))), (sn1, .inl (cJ, 40, .inr (.inl nu1))), (sn2, .inl (cJ, 40, .inr (.inl nv_103))), (sn3, .inl (cJ, 40, .inr (.inl nu3))), (qf, .inl (cI, 7, .inl f2_104))] tl) H := hP
      have hD : va_D A (@HAppend.hAppend va_W va_W va_W _ [(g0, .inr (9, [.ref m_ys, .ref m_yk, .ref m_yo, .ref m_yt, .int b0, .ref m_yfa, .ref m_yfe, .int m_mL, .int m_mS, .int m_mM, .ref m_yro, .ref m_yhe, .ref m_ygr, .int m_mF, .int m_mC, .int m_mY, .ref m_yta, .int (nI (z)), .int (nI (m_mf)), .int (nI (m_mt)), .int m_mv, .int m_mw, .ref m_ywa, .ref m_ybi, .ref m_ysi, .ref m_ynu, .ref m_ymo])), (m_yt, .inl (cI, 7, .inl m_mq)), (m_ybi, .inl (cI, 4, .inl m_bi)), (m_ysi, .inl (cI, 4, .inl m_sq)), (m_ynu, .inl (cJ, 160, .inr (.inl m_nb))), (m_ymo, .inl (cJ, 40, .inr (.inl m_mv9))), (h0, .inr (8, [.ref qh, .ref qk, .ref qd, .int b0, .ref qa, .ref qm, .ref qs, .ref qp, .ref ql, .ref qt, .ref qz, .ref qf])), (qz, .inl (cS, 4, .inr (.inr (.inr (.inr (xSh s0 s1 s2 s3)))))), (s0, .inr (4, [.int bt0, .int (nI (sz0)), .ref sn0])), (s1, .inr (4, [.int bt1, .int (nI (sz1)), .ref sn1])), (s2, .inr (4, [.int bt2, .int (nI (sz2)), .ref sn2])), (s3, .inr (4, [.int bt3, .int (nI (sz3)), .ref sn3])), (sn0, .inl (cJ, 40, .inr (.inl nu0))), (sn1, .inl (cJ, 40, .inr (.inl nu1))), (sn2, .inl (cJ, 40, .inr (.inl nv_103))), (sn3, .inl (cJ, 40, .inr (.inl nu3))), (qf, .inl (cI, 7, .inl f2_104))] tl) := hD
      subst hw_r_102
      refine lv_aload_n hx hb dL_law_1307 rfl (lv_at hl 1 rfl) ?_
      refine lv_aload_n hx hb dL_law_1308 rfl (lv_at hl 3 rfl) ?_
      refine lv_iload_n hx hb dL_law_1309 rfl (lv_at hl 0 rfl) ?_
      refine lv_iconst (v := 1) hx hb dL_law_1310 (by decide) ?_
      refine lv_iadd hx hb dL_law_1311 ?_
      refine xl_i (y := nI (i + 1)) (nI_add i 1) ?_
      refine va_sld hx hb hX hbl hbA hS (x_si (k := 1) (by decide) hi hL) dL_law_1312 ?_
      refine xl_i (y := xs (i + 1)) (congrArg xs (x_sc (k := 1) (by decide) hi hL)) ?_
      refine xl_i (y := 1) eq1 ?_
      refine lv_aload_n hx hb dL_law_1313 rfl (lv_at hl 3 rfl) ?_
      refine lv_iload_n hx hb dL_law_1314 rfl (lv_at hl 0 rfl) ?_
      refine lv_iconst (v := 2) hx hb dL_law_1315 (by decide) ?_
      refine lv_iadd hx hb dL_law_1316 ?_
      refine xl_i (y := nI (i + 2)) (nI_add i 2) ?_
      refine va_sld hx hb hX hbl hbA hS (x_si (k := 2) (by decide) hi hL) dL_law_1317 ?_
      refine xl_i (y := xs (i + 2)) (congrArg xs (x_sc (k := 2) (by decide) hi hL)) ?_
      refine lv_aload_n hx hb dL_law_1318 rfl (lv_at hl 3 rfl) ?_
      refine lv_iload_n hx hb dL_law_1319 rfl (lv_at hl 0 rfl) ?_
      refine lv_iconst (v := 3) hx hb dL_law_1320 (by decide) ?_
      refine lv_iadd hx hb dL_law_1321 ?_
      refine xl_i (y := nI (i + 3)) (nI_add i 3) ?_
      refine va_sld hx hb hX hbl hbA hS (x_si (k := 3) (by decide) hi hL) dL_law_1322 ?_
      refine xl_i (y := xs (i + 3)) (congrArg xs (x_sc (k := 3) (by decide) hi hL)) ?_
      refine xl_i (y := 2) eq3 ?_
      refine lv_aload_n hx hb dL_law_1323 rfl (lv_at hl 3 rfl) ?_
      refine lv_iload_n hx hb dL_law_1324 rfl (lv_at hl 0 rfl) ?_
      refine lv_iconst (v := 4) hx hb dL_law_1325 (by decide) ?_
      refine lv_iadd hx hb dL_law_1326 ?_
      refine xl_i (y := nI (i + 4)) (nI_add i 4) ?_
      refine va_sld hx hb hX hbl hbA hS (x_si (k := 4) (by decide) hi hL) dL_law_1327 ?_
      refine xl_i (y := xs (i + 4)) (congrArg xs (x_sc (k := 4) (by decide) hi hL)) ?_
      refine lv_aload_n hx hb dL_law_1328 rfl (lv_at hl 3 rfl) ?_
      refine lv_iload_n hx hb dL_law_1329 rfl (lv_at hl 0 rfl) ?_
      refine lv_iconst (v := 5) hx hb dL_law_1330 (by decide) ?_
      refine lv_iadd hx hb dL_law_1331 ?_
      refine xl_i (y := nI (i + 5)) (nI_add i 5) ?_
      refine va_sld hx hb hX hbl hbA hS (x_si (k := 5) (by decide) hi hL) dL_law_1332 ?_
      refine xl_i (y := xs (i + 5)) (congrArg xs (x_sc (k := 5) (by decide) hi hL)) ?_
      refine xc_ViT (wr := [(h0, .inr (8, [.ref qh, .ref qk, .ref qd, .int b0, .ref qa, .ref qm, .ref qs, .ref qp, .ref ql, .ref qt, .ref qz, .ref qf])), (qz, .inl (cS, 4, .inr (.inr (.inr (.inr (xSh s0 s1 s2 s3)))))), (s0, .inr (4, [.int bt0, .int (nI (sz0)), .ref sn0])), (s1, .inr (4, [.int bt1, .int (nI (sz1)), .ref sn1])), (s2, .inr (4, [.int bt2, .int (nI (sz2)), .ref sn2])), (s3, .inr (4, [.int bt3, .int (nI (sz3)), .ref sn3])), (sn0, .inl (cJ, 40, .inr (.inl nu0))), (sn1, .inl (cJ, 40, .inr (.inl nu1))), (sn2, .inl (cJ, 40, .inr (.inl nv_103))), (sn3, .inl (cJ, 40, .inr (.inl nu3))), (qf, .inl (cI, 7, .inl f2_104))]) hF (c_X9_copy_12 l D cI cJ cZ cS ta sa sv H.size g0 m_ys m_yk m_yo m_yt b0 m_yfa m_yfe m_mL m_mS m_mM m_yro m_yhe m_ygr m_mF m_mC m_mY m_yta z m_mf m_mt m_mv m_mw m_ywa m_ybi m_ysi m_ynu m_ymo m_bi m_sq m_nb m_mv9 m_mq (xs (i + 2)) (xs (i + 4)) (xs (i + 5)) sz1 sz2 r_z1 hsz1 r_z2 hsz2 m_hsq) kv_L_170 ⟨rfl, rfl, Nat.le_of_ble_eq_true rfl, Nat.le_of_ble_eq_true rfl⟩ ⟨Nat.le_of_ble_eq_true rfl, Nat.le_of_ble_eq_true rfl⟩ hK hN hZ hP hD hS hA [0, 2, 3, 4, 5, 1] [6, 7, 8, 9, 10, 11, 12, 13, 14, 15, 16] rfl rfl (by decide +kernel) (by decide +kernel) (by decide +kernel) 0 rfl rfl rfl rfl hl.1 rfl (Nat.le_of_ble_eq_true rfl) dL_law_1333 (fun r_106 u_r_106 H locs hw_r_106 hP hD hS => ?_)
      obtain ⟨nb2_107, mv2_108, mq2_109⟩ := u_r_106
      try dsimp only at hw_r_106
      obtain ⟨hw_r_106, i_110, i_111⟩ := hw_r_106
      have hP : va_P D vwCl (@HAppend.hAppend va_W va_W va_W _ [(h0, .inr (8, [.ref qh, .ref qk, .ref qd, .int b0, .ref qa, .ref qm, .ref qs, .ref qp, .ref ql, .ref qt, .ref qz, .ref qf])), (qz, .inl (cS, 4, .inr (.inr (.inr (.inr (xSh s0 s1 s2 s3)))))), (s0, .inr (4, [.int bt0, .int (nI (sz0)), .ref sn0])), (s1, .inr (4, [.int bt1, .int (nI (sz1)), .ref sn1])), (s2, .inr (4, [.int bt2, .int (nI (sz2)), .ref sn2])), (s3, .inr (4, [.int bt3, .int (nI (sz3)), .ref sn3])), (sn0, .inl (cJ, 40, .inr (.inl nu0))), (sn1, .inl (cJ, 40, .inr (.inl nu1))), (sn2, .inl (cJ, 40, .inr (.inl nv_103))), (sn3, .inl (cJ, 40, .inr (.inl nu3))), (qf, .inl (cI, 7, .inl f2_104)), (g0, .inr (9, [.ref m_ys, .ref m_yk, .ref m_yo, .ref m_yt, .int b0, .ref m_yfa, .ref m_yfe, .int m_mL, .int m_mS, .int m_mM, .ref m_yro, .ref m_yhe, .ref m_ygr, .int m_mF, .int m_mC, .int m_mY, .ref m_yta, .int (nI (z)), .int (nI (m_mf)), .int (nI (m_mt)), .int m_mv, .int m_mw, .ref m_ywa, .ref m_ybi, .ref m_ysi, .ref m_ynu, .ref m_ymo])), (m_ybi, .inl (cI, 4, .inl m_bi)), (m_ysi, .inl (cI, 4, .inl m_sq)), (m_ynu, .inl (cJ, 160, .inr (.inl nb2_107))), (m_ymo, .inl (cJ, 40, .inr (.inl mv2_108))), (m_yt, .inl (cI, 7, .inl mq2_109))] tl) H := hP
      have hD : va_D A (@HAppend.hAppend va_W va_W va_W _ [(h0, .inr (8, [.ref qh, .ref qk, .ref qd, .int b0, .ref qa, .ref qm, .ref qs, .ref qp, .ref ql, .ref qt, .ref qz, .ref qf])), (qz, .inl (cS, 4, .inr (.inr (.inr (.inr (xSh s0 s1 s2 s3)))))), (s0, .inr (4, [.int bt0, .int (nI (sz0)), .ref sn0])), (s1, .inr (4, [.int bt1, .int (nI (sz1)), .ref sn1])), (s2, .inr (4, [.int bt2, .int (nI (sz2)), .ref sn2])), (s3, .inr (4, [.int bt3, .int (nI (sz3)), .ref sn3])), (sn0, .inl (cJ, 40, .inr (.inl nu0))), (sn1, .inl (cJ, 40, .inr (.inl nu1))), (sn2, .inl (cJ, 40, .inr (.inl nv_103))), (sn3, .inl (cJ, 40, .inr (.inl nu3))), (qf, .inl (cI, 7, .inl f2_104)), (g0, .inr (9, [.ref m_ys, .ref m_yk, .ref m_yo, .ref m_yt, .int b0, .ref m_yfa, .ref m_yfe, .int m_mL, .int m_mS, .int m_mM, .ref m_yro, .ref m_yhe, .ref m_ygr, .int m_mF, .int m_mC, .int m_mY, .ref m_yta, .int (nI (z)), .int (nI (m_mf)), .int (nI (m_mt)), .int m_mv, .int m_mw, .ref m_ywa, .ref m_ybi, .ref m_ysi, .ref m_ynu, .ref m_ymo])), (m_ybi, .inl (cI, 4, .inl m_bi)), (m_ysi, .inl (cI, 4, .inl m_sq)), (m_ynu, .inl (cJ, 160, .inr (.inl nb2_107))), (m_ymo, .inl (cJ, 40, .inr (.inl mv2_108))), (m_yt, .inl (cI, 7, .inl mq2_109))] tl) := hD
      subst hw_r_106
      refine lv_icmp_eq (tgt := 1482) hx hb dL_law_1336 (by decide) (fun c_112 => ?_) (fun c_112 => absurd (sp_creq r_b1 r_b2) c_112)
      exact kkx _ _ _ nu0 nu1 nv_103 nu3 f2_104 mq2_109 nb2_107 mv2_108 (xt_P hP [0, 1, 2, 3, 4, 5, 6, 7, 8, 9, 10, 11, 16, 12, 13, 14, 15] rfl) (xt_D hD [0, 1, 2, 3, 4, 5, 6, 7, 8, 9, 10, 11, 16, 12, 13, 14, 15] (by decide +kernel) rfl) (fun j hj => (i_111 (0 + j) (by omega)).trans (r_n0 j hj)) (fun j hj => (i_111 (40 + j) (by omega)).trans (r_n1 j hj)) (fun j hj => (i_110 j).trans ((sp_cneq r_b1 r_b2 r_n1 (by omega) (r_n2 j hj)).trans (i_105 j).symm)) (fun j hj => (i_111 (120 + j) (by omega)).trans (r_n3 j hj)) hS hl
    · skip
      refine lv_aload_n hx hb dL_law_1279 rfl (lv_at hl 3 rfl) ?_
      refine lv_iload_n hx hb dL_law_1280 rfl (lv_at hl 0 rfl) ?_
      refine lv_iconst (v := 1) hx hb dL_law_1281 (by decide) ?_
      refine lv_iadd hx hb dL_law_1282 ?_
      refine xl_i (y := nI (i + 1)) (nI_add i 1) ?_
      refine va_sld hx hb hX hbl hbA hS (x_si (k := 1) (by decide) hi hL) dL_law_1283 ?_
      refine xl_i (y := xs (i + 1)) (congrArg xs (x_sc (k := 1) (by decide) hi hL)) ?_
      refine xl_i (y := 1) eq1 ?_
      refine lv_aload_n hx hb dL_law_1284 rfl (lv_at hl 3 rfl) ?_
      refine lv_iload_n hx hb dL_law_1285 rfl (lv_at hl 0 rfl) ?_
      refine lv_iconst (v := 2) hx hb dL_law_1286 (by decide) ?_
      refine lv_iadd hx hb dL_law_1287 ?_
      refine xl_i (y := nI (i + 2)) (nI_add i 2) ?_
      refine va_sld hx hb hX hbl hbA hS (x_si (k := 2) (by decide) hi hL) dL_law_1288 ?_
      refine xl_i (y := xs (i + 2)) (congrArg xs (x_sc (k := 2) (by decide) hi hL)) ?_
      refine lv_aload_n hx hb dL_law_1289 rfl (lv_at hl 3 rfl) ?_
      refine lv_iload_n hx hb dL_law_1290 rfl (lv_at hl 0 rfl) ?_
      refine lv_iconst (v := 3) hx hb dL_law_1291 (by decide) ?_
      refine lv_iadd hx hb dL_law_1292 ?_
      refine xl_i (y := nI (i + 3)) (nI_add i 3) ?_
      refine va_sld hx hb hX hbl hbA hS (x_si (k := 3) (by decide) hi hL) dL_law_1293 ?_
      refine xl_i (y := xs (i + 3)) (congrArg xs (x_sc (k := 3) (by decide) hi hL)) ?_
      refine xl_i (y := 3) eq3 ?_
      refine lv_aload_n hx hb dL_law_1294 rfl (lv_at hl 3 rfl) ?_
      refine lv_iload_n hx hb dL_law_1295 rfl (lv_at hl 0 rfl) ?_
      refine lv_iconst (v := 4) hx hb dL_law_1296 (by decide) ?_
      refine lv_iadd hx hb dL_law_1297 ?_
      refine xl_i (y := nI (i + 4)) (nI_add i 4) ?_
      refine va_sld hx hb hX hbl hbA hS (x_si (k := 4) (by decide) hi hL) dL_law_1298 ?_
      refine xl_i (y := xs (i + 4)) (congrArg xs (x_sc (k := 4) (by decide) hi hL)) ?_
      refine lv_aload_n hx hb dL_law_1299 rfl (lv_at hl 3 rfl) ?_
      refine lv_iload_n hx hb dL_law_1300 rfl (lv_at hl 0 rfl) ?_
      refine lv_iconst (v := 5) hx hb dL_law_1301 (by decide) ?_
      refine lv_iadd hx hb dL_law_1302 ?_
      refine xl_i (y := nI (i + 5)) (nI_add i 5) ?_
      refine va_sld hx hb hX hbl hbA hS (x_si (k := 5) (by decide) hi hL) dL_law_1303 ?_
      refine xl_i (y := xs (i + 5)) (congrArg xs (x_sc (k := 5) (by decide) hi hL)) ?_
      refine xc_ViT (wr := [(g0, .inr (9, [.ref m_ys, .ref m_yk, .ref m_yo, .ref m_yt, .int b0, .ref m_yfa, .ref m_yfe, .int m_mL, .int m_mS, .int m_mM, .ref m_yro, .ref m_yhe, .ref m_ygr, .int m_mF, .int m_mC, .int m_mY, .ref m_yta, .int (nI (z)), .int (nI (m_mf)), .int (nI (m_mt)), .int m_mv, .int m_mw, .ref m_ywa, .ref m_ybi, .ref m_ysi, .ref m_ynu, .ref m_ymo])), (m_yt, .inl (cI, 7, .inl m_mq)), (m_ybi, .inl (cI, 4, .inl m_bi)), (m_ysi, .inl (cI, 4, .inl m_sq)), (m_ynu, .inl (cJ, 160, .inr (.inl m_nb))), (m_ymo, .inl (cJ, 40, .inr (.inl m_mv9)))]) hF (c_X8_copy_13 l D cI cJ cZ cS ta sa sv H.size h0 qh qk qd b0 qa qm qs qp ql qt qz qf s0 s1 s2 s3 bt0 sz0 sn0 bt1 sz1 sn1 bt2 sz2 sn2 bt3 sz3 sn3 nu0 nu1 nu2 nu3 ff (xs (i + 2)) (xs (i + 4)) (xs (i + 5)) hsz0 hsz1 hsz2 hsz3) kv_L_166 ⟨rfl, rfl, Nat.le_of_ble_eq_true rfl, Nat.le_of_ble_eq_true rfl⟩ ⟨Nat.le_of_ble_eq_true rfl, Nat.le_of_ble_eq_true rfl⟩ hK hN hZ hP hD hS hA [0, 1, 2, 3, 4, 5, 6, 7, 8, 9, 10] [11, 12, 13, 14, 15, 16] rfl rfl (by decide +kernel) (by decide +kernel) (by decide +kernel) 0 rfl rfl rfl rfl hl.1 rfl (Nat.le_of_ble_eq_true rfl) dL_law_1304 (fun r_113 u_r_113 H locs hw_r_113 hP hD hS => ?_)
      obtain ⟨nv_114, f2_115⟩ := u_r_113
      try dsimp only at hw_r_113
      obtain ⟨hw_r_113, i_116⟩ := hw_r_113
      have hP : va_P D vwCl (@HAppend.hAppend va_W va_W va_W _ [(g0, .inr (9, [.ref m_ys, .ref m_yk, .ref m_yo, .ref m_yt, .int b0, .ref m_yfa, .ref m_yfe, .int m_mL, .int m_mS, .int m_mM, .ref m_yro, .ref m_yhe, .ref m_ygr, .int m_mF, .int m_mC, .int m_mY, .ref m_yta, .int (nI (z)), .int (nI (m_mf)), .int (nI (m_mt)), .int m_mv, .int m_mw, .ref m_ywa, .ref m_ybi, .ref m_ysi, .ref m_ynu, .ref m_ymo])), (m_yt, .inl (cI, 7, .inl m_mq)), (m_ybi, .inl (cI, 4, .inl m_bi)), (m_ysi, .inl (cI, 4, .inl m_sq)), (m_ynu, .inl (cJ, 160, .inr (.inl m_nb))), (m_ymo, .inl (cJ, 40, .inr (.inl m_mv9))), (h0, .inr (8, [.ref qh, .ref qk, .ref qd, .int b0, .ref qa, .ref qm, .ref qs, .ref qp, .ref ql, .ref qt, .ref qz, .ref qf])), (qz, .inl (cS, 4, .inr (.inr (.inr (.inr (xSh s0 s1 s2 s3)))))), (s0, .inr (4, [.int bt0, .int (nI (sz0)), .ref sn0])), (s1, .inr (4, [.int bt1, .int (nI (sz1)), .ref sn1])), (s2, .inr (4, [.int bt2, .int (nI (sz2)), .ref sn2])), (s3, .inr (4, [.int bt3, .int (nI (sz3)), .ref sn3])), (sn0, .inl (cJ, 40, .inr (.inl nu0))), (sn1, .inl (cJ, 40, .inr (.inl nu1))), (sn2, .inl (cJ, 40, .inr (.inl nu2))), (sn3, .inl (cJ, 40, .inr (.inl nv_114))), (qf, .inl (cI, 7, .inl f2_115))] tl) H := hP
      have hD : va_D A (@HAppend.hAppend va_W va_W va_W _ [(g0, .inr (9, [.ref m_ys, .ref m_yk, .ref m_yo, .ref m_yt, .int b0, .ref m_yfa, .ref m_yfe, .int m_mL, .int m_mS, .int m_mM, .ref m_yro, .ref m_yhe, .ref m_ygr, .int m_mF, .int m_mC, .int m_mY, .ref m_yta, .int (nI (z)), .int (nI (m_mf)), .int (nI (m_mt)), .int m_mv, .int m_mw, .ref m_ywa, .ref m_ybi, .ref m_ysi, .ref m_ynu, .ref m_ymo])), (m_yt, .inl (cI, 7, .inl m_mq)), (m_ybi, .inl (cI, 4, .inl m_bi)), (m_ysi, .inl (cI, 4, .inl m_sq)), (m_ynu, .inl (cJ, 160, .inr (.inl m_nb))), (m_ymo, .inl (cJ, 40, .inr (.inl m_mv9))), (h0, .inr (8, [.ref qh, .ref qk, .ref qd, .int b0, .ref qa, .ref qm, .ref qs, .ref qp, .ref ql, .ref qt, .ref qz, .ref qf])), (qz, .inl (cS, 4, .inr (.inr (.inr (.inr (xSh s0 s1 s2 s3)))))), (s0, .inr (4, [.int bt0, .int (nI (sz0)), .ref sn0])), (s1, .inr (4, [.int bt1, .int (nI (sz1)), .ref sn1])), (s2, .inr (4, [.int bt2, .int (nI (sz2)), .ref sn2])), (s3, .inr (4, [.int bt3, .int (nI (sz3)), .ref sn3])), (sn0, .inl (cJ, 40, .inr (.inl nu0))), (sn1, .inl (cJ, 40, .inr (.inl nu1))), (sn2, .inl (cJ, 40, .inr (.inl nu2))), (sn3, .inl (cJ, 40, .inr (.inl nv_114))), (qf, .inl (cI, 7, .inl f2_115))] tl) := hD
      subst hw_r_113
      refine lv_aload_n hx hb dL_law_1307 rfl (lv_at hl 1 rfl) ?_
      refine lv_aload_n hx hb dL_law_1308 rfl (lv_at hl 3 rfl) ?_
      refine lv_iload_n hx hb dL_law_1309 rfl (lv_at hl 0 rfl) ?_
      refine lv_iconst (v := 1) hx hb dL_law_1310 (by decide) ?_
      refine lv_iadd hx hb dL_law_1311 ?_
      refine xl_i (y := nI (i + 1)) (nI_add i 1) ?_
      refine va_sld hx hb hX hbl hbA hS (x_si (k := 1) (by decide) hi hL) dL_law_1312 ?_
      refine xl_i (y := xs (i + 1)) (congrArg xs (x_sc (k := 1) (by decide) hi hL)) ?_
      refine xl_i (y := 1) eq1 ?_
      refine lv_aload_n hx hb dL_law_1313 rfl (lv_at hl 3 rfl) ?_
      refine lv_iload_n hx hb dL_law_1314 rfl (lv_at hl 0 rfl) ?_
      refine lv_iconst (v := 2) hx hb dL_law_1315 (by decide) ?_
      refine lv_iadd hx hb dL_law_1316 ?_
      refine xl_i (y := nI (i + 2)) (nI_add i 2) ?_
      refine va_sld hx hb hX hbl hbA hS (x_si (k := 2) (by decide) hi hL) dL_law_1317 ?_
      refine xl_i (y := xs (i + 2)) (congrArg xs (x_sc (k := 2) (by decide) hi hL)) ?_
      refine lv_aload_n hx hb dL_law_1318 rfl (lv_at hl 3 rfl) ?_
      refine lv_iload_n hx hb dL_law_1319 rfl (lv_at hl 0 rfl) ?_
      refine lv_iconst (v := 3) hx hb dL_law_1320 (by decide) ?_
      refine lv_iadd hx hb dL_law_1321 ?_
      refine xl_i (y := nI (i + 3)) (nI_add i 3) ?_
      refine va_sld hx hb hX hbl hbA hS (x_si (k := 3) (by decide) hi hL) dL_law_1322 ?_
      refine xl_i (y := xs (i + 3)) (congrArg xs (x_sc (k := 3) (by decide) hi hL)) ?_
      refine xl_i (y := 3) eq3 ?_
      refine lv_aload_n hx hb dL_law_1323 rfl (lv_at hl 3 rfl) ?_
      refine lv_iload_n hx hb dL_law_1324 rfl (lv_at hl 0 rfl) ?_
      refine lv_iconst (v := 4) hx hb dL_law_1325 (by decide) ?_
      refine lv_iadd hx hb dL_law_1326 ?_
      refine xl_i (y := nI (i + 4)) (nI_add i 4) ?_
      refine va_sld hx hb hX hbl hbA hS (x_si (k := 4) (by decide) hi hL) dL_law_1327 ?_
      refine xl_i (y := xs (i + 4)) (congrArg xs (x_sc (k := 4) (by decide) hi hL)) ?_
      refine lv_aload_n hx hb dL_law_1328 rfl (lv_at hl 3 rfl) ?_
      refine lv_iload_n hx hb dL_law_1329 rfl (lv_at hl 0 rfl) ?_
      refine lv_iconst (v := 5) hx hb dL_law_1330 (by decide) ?_
      refine lv_iadd hx hb dL_law_1331 ?_
      refine xl_i (y := nI (i + 5)) (nI_add i 5) ?_
      refine va_sld hx hb hX hbl hbA hS (x_si (k := 5) (by decide) hi hL) dL_law_1332 ?_
      refine xl_i (y := xs (i + 5)) (congrArg xs (x_sc (k := 5) (by decide) hi hL)) ?_
      refine xc_ViT (wr := [(h0, .inr (8, [.ref qh, .ref qk, .ref qd, .int b0, .ref qa, .ref qm, .ref qs, .ref qp, .ref ql, .ref qt, .ref qz, .ref qf])), (qz, .inl (cS, 4, .inr (.inr (.inr (.inr (xSh s0 s1 s2 s3)))))), (s0, .inr (4, [.int bt0, .int (nI (sz0)), .ref sn0])), (s1, .inr (4, [.int bt1, .int (nI (sz1)), .ref sn1])), (s2, .inr (4, [.int bt2, .int (nI (sz2)), .ref sn2])), (s3, .inr (4, [.int bt3, .int (nI (sz3)), .ref sn3])), (sn0, .inl (cJ, 40, .inr (.inl nu0))), (sn1, .inl (cJ, 40, .inr (.inl nu1))), (sn2, .inl (cJ, 40, .inr (.inl nu2))), (sn3, .inl (cJ, 40, .inr (.inl nv_114))), (qf, .inl (cI, 7, .inl f2_115))]) hF (c_X9_copy_13 l D cI cJ cZ cS ta sa sv H.size g0 m_ys m_yk m_yo m_yt b0 m_yfa m_yfe m_mL m_mS m_mM m_yro m_yhe m_ygr m_mF m_mC m_mY m_yta z m_mf m_mt m_mv m_mw m_ywa m_ybi m_ysi m_ynu m_ymo m_bi m_sq m_nb m_mv9 m_mq (xs (i + 2)) (xs (i + 4)) (xs (i + 5)) sz1 sz3 r_z1 hsz1 r_z3 hsz3 m_hsq) kv_L_170 ⟨rfl, rfl, Nat.le_of_ble_eq_true rfl, Nat.le_of_ble_eq_true rfl⟩ ⟨Nat.le_of_ble_eq_true rfl, Nat.le_of_ble_eq_true rfl⟩ hK hN hZ hP hD hS hA [0, 2, 3, 4, 5, 1] [6, 7, 8, 9, 10, 11, 12, 13, 14, 15, 16] rfl rfl (by decide +kernel) (by decide +kernel) (by decide +kernel) 0 rfl rfl rfl rfl hl.1 rfl (Nat.le_of_ble_eq_true rfl) dL_law_1333 (fun r_117 u_r_117 H locs hw_r_117 hP hD hS => ?_)
      obtain ⟨nb2_118, mv2_119, mq2_120⟩ := u_r_117
      try dsimp only at hw_r_117
      obtain ⟨hw_r_117, i_121, i_122⟩ := hw_r_117
      have hP : va_P D vwCl (@HAppend.hAppend va_W va_W va_W _ [(h0, .inr (8, [.ref qh, .ref qk, .ref qd, .int b0, .ref qa, .ref qm, .ref qs, .ref qp, .ref ql, .ref qt, .ref qz, .ref qf])), (qz, .inl (cS, 4, .inr (.inr (.inr (.inr (xSh s0 s1 s2 s3)))))), (s0, .inr (4, [.int bt0, .int (nI (sz0)), .ref sn0])), (s1, .inr (4, [.int bt1, .int (nI (sz1)), .ref sn1])), (s2, .inr (4, [.int bt2, .int (nI (sz2)), .ref sn2])), (s3, .inr (4, [.int bt3, .int (nI (sz3)), .ref sn3])), (sn0, .inl (cJ, 40, .inr (.inl nu0))), (sn1, .inl (cJ, 40, .inr (.inl nu1))), (sn2, .inl (cJ, 40, .inr (.inl nu2))), (sn3, .inl (cJ, 40, .inr (.inl nv_114))), (qf, .inl (cI, 7, .inl f2_115)), (g0, .inr (9, [.ref m_ys, .ref m_yk, .ref m_yo, .ref m_yt, .int b0, .ref m_yfa, .ref m_yfe, .int m_mL, .int m_mS, .int m_mM, .ref m_yro, .ref m_yhe, .ref m_ygr, .int m_mF, .int m_mC, .int m_mY, .ref m_yta, .int (nI (z)), .int (nI (m_mf)), .int (nI (m_mt)), .int m_mv, .int m_mw, .ref m_ywa, .ref m_ybi, .ref m_ysi, .ref m_ynu, .ref m_ymo])), (m_ybi, .inl (cI, 4, .inl m_bi)), (m_ysi, .inl (cI, 4, .inl m_sq)), (m_ynu, .inl (cJ, 160, .inr (.inl nb2_118))), (m_ymo, .inl (cJ, 40, .inr (.inl mv2_119))), (m_yt, .inl (cI, 7, .inl mq2_120))] tl) H := hP
      have hD : va_D A (@HAppend.hAppend va_W va_W va_W _ [(h0, .inr (8, [.ref qh, .ref qk, .ref qd, .int b0, .ref qa, .ref qm, .ref qs, .ref qp, .ref ql, .ref qt, .ref qz, .ref qf])), (qz, .inl (cS, 4, .inr (.inr (.inr (.inr (xSh s0 s1 s2 s3)))))), (s0, .inr (4, [.int bt0, .int (nI (sz0)), .ref sn0])), (s1, .inr (4, [.int bt1, .int (nI (sz1)), .ref sn1])), (s2, .inr (4, [.int bt2, .int (nI (sz2)), .ref sn2])), (s3, .inr (4, [.int bt3, .int (nI (sz3)), .ref sn3])), (sn0, .inl (cJ, 40, .inr (.inl nu0))), (sn1, .inl (cJ, 40, .inr (.inl nu1))), (sn2, .inl (cJ, 40, .inr (.inl nu2))), (sn3, .inl (cJ, 40, .inr (.inl nv_114))), (qf, .inl (cI, 7, .inl f2_115)), (g0, .inr (9, [.ref m_ys, .ref m_yk, .ref m_yo, .ref m_yt, .int b0, .ref m_yfa, .ref m_yfe, .int m_mL, .int m_mS, .int m_mM, .ref m_yro, .ref m_yhe, .ref m_ygr, .int m_mF, .int m_mC, .int m_mY, .ref m_yta, .int (nI (z)), .int (nI (m_mf)), .int (nI (m_mt)), .int m_mv, .int m_mw, .ref m_ywa, .ref m_ybi, .ref m_ysi, .ref m_ynu, .ref m_ymo])), (m_ybi, .inl (cI, 4, .inl m_bi)), (m_ysi, .inl (cI, 4, .inl m_sq)), (m_ynu, .inl (cJ, 160, .inr (.inl nb2_118))), (m_ymo, .inl (cJ, 40, .inr (.inl mv2_119))), (m_yt, .inl (cI, 7, .inl mq2_120))] tl) := hD
      subst hw_r_117
      refine lv_icmp_eq (tgt := 1482) hx hb dL_law_1336 (by decide) (fun c_123 => ?_) (fun c_123 => absurd (sp_creq r_b1 r_b3) c_123)
      exact kkx _ _ _ nu0 nu1 nu2 nv_114 f2_115 mq2_120 nb2_118 mv2_119 (xt_P hP [0, 1, 2, 3, 4, 5, 6, 7, 8, 9, 10, 11, 16, 12, 13, 14, 15] rfl) (xt_D hD [0, 1, 2, 3, 4, 5, 6, 7, 8, 9, 10, 11, 16, 12, 13, 14, 15] (by decide +kernel) rfl) (fun j hj => (i_122 (0 + j) (by omega)).trans (r_n0 j hj)) (fun j hj => (i_122 (40 + j) (by omega)).trans (r_n1 j hj)) (fun j hj => (i_122 (80 + j) (by omega)).trans (r_n2 j hj)) (fun j hj => (i_121 j).trans ((sp_cneq r_b1 r_b3 r_n1 (by omega) (r_n3 j hj)).trans (i_116 j).symm)) hS hl
  · skip
    refine lv_aload_n hx hb dL_law_1278 rfl (lv_at hl 2 rfl) ?_
    rcases x_sh4 (xs (i + 3)) with oq3 | eq3 | eq3 | eq3 | eq3
    · skip
      refine lv_aload_n hx hb dL_law_1279 rfl (lv_at hl 3 rfl) ?_
      refine lv_iload_n hx hb dL_law_1280 rfl (lv_at hl 0 rfl) ?_
      refine lv_iconst (v := 1) hx hb dL_law_1281 (by decide) ?_
      refine lv_iadd hx hb dL_law_1282 ?_
      refine xl_i (y := nI (i + 1)) (nI_add i 1) ?_
      refine va_sld hx hb hX hbl hbA hS (x_si (k := 1) (by decide) hi hL) dL_law_1283 ?_
      refine xl_i (y := xs (i + 1)) (congrArg xs (x_sc (k := 1) (by decide) hi hL)) ?_
      refine xl_i (y := 2) eq1 ?_
      refine lv_aload_n hx hb dL_law_1284 rfl (lv_at hl 3 rfl) ?_
      refine lv_iload_n hx hb dL_law_1285 rfl (lv_at hl 0 rfl) ?_
      refine lv_iconst (v := 2) hx hb dL_law_1286 (by decide) ?_
      refine lv_iadd hx hb dL_law_1287 ?_
      refine xl_i (y := nI (i + 2)) (nI_add i 2) ?_
      refine va_sld hx hb hX hbl hbA hS (x_si (k := 2) (by decide) hi hL) dL_law_1288 ?_
      refine xl_i (y := xs (i + 2)) (congrArg xs (x_sc (k := 2) (by decide) hi hL)) ?_
      refine lv_aload_n hx hb dL_law_1289 rfl (lv_at hl 3 rfl) ?_
      refine lv_iload_n hx hb dL_law_1290 rfl (lv_at hl 0 rfl) ?_
      refine lv_iconst (v := 3) hx hb dL_law_1291 (by decide) ?_
      refine lv_iadd hx hb dL_law_1292 ?_
      refine xl_i (y := nI (i + 3)) (nI_add i 3) ?_
      refine va_sld hx hb hX hbl hbA hS (x_si (k := 3) (by decide) hi hL) dL_law_1293 ?_
      refine xl_i (y := xs (i + 3)) (congrArg xs (x_sc (k := 3) (by decide) hi hL)) ?_
      refine lv_aload_n hx hb dL_law_1294 rfl (lv_at hl 3 rfl) ?_
      refine lv_iload_n hx hb dL_law_1295 rfl (lv_at hl 0 rfl) ?_
      refine lv_iconst (v := 4) hx hb dL_law_1296 (by decide) ?_
      refine lv_iadd hx hb dL_law_1297 ?_
      refine xl_i (y := nI (i + 4)) (nI_add i 4) ?_
      refine va_sld hx hb hX hbl hbA hS (x_si (k := 4) (by decide) hi hL) dL_law_1298 ?_
      refine xl_i (y := xs (i + 4)) (congrArg xs (x_sc (k := 4) (by decide) hi hL)) ?_
      refine lv_aload_n hx hb dL_law_1299 rfl (lv_at hl 3 rfl) ?_
      refine lv_iload_n hx hb dL_law_1300 rfl (lv_at hl 0 rfl) ?_
      refine lv_iconst (v := 5) hx hb dL_law_1301 (by decide) ?_
      refine lv_iadd hx hb dL_law_1302 ?_
      refine xl_i (y := nI (i + 5)) (nI_add i 5) ?_
      refine va_sld hx hb hX hbl hbA hS (x_si (k := 5) (by decide) hi hL) dL_law_1303 ?_
      refine xl_i (y := xs (i + 5)) (congrArg xs (x_sc (k := 5) (by decide) hi hL)) ?_
      refine xc_ViT (wr := [(qz, .inl (cS, 4, .inr (.inr (.inr (.inr (xSh s0 s1 s2 s3)))))), (s0, .inr (4, [.int bt0, .int (nI (sz0)), .ref sn0])), (s1, .inr (4, [.int bt1, .int (nI (sz1)), .ref sn1])), (s2, .inr (4, [.int bt2, .int (nI (sz2)), .ref sn2])), (s3, .inr (4, [.int bt3, .int (nI (sz3)), .ref sn3])), (sn0, .inl (cJ, 40, .inr (.inl nu0))), (sn1, .inl (cJ, 40, .inr (.inl nu1))), (sn2, .inl (cJ, 40, .inr (.inl nu2))), (sn3, .inl (cJ, 40, .inr (.inl nu3))), (g0, .inr (9, [.ref m_ys, .ref m_yk, .ref m_yo, .ref m_yt, .int b0, .ref m_yfa, .ref m_yfe, .int m_mL, .int m_mS, .int m_mM, .ref m_yro, .ref m_yhe, .ref m_ygr, .int m_mF, .int m_mC, .int m_mY, .ref m_yta, .int (nI (z)), .int (nI (m_mf)), .int (nI (m_mt)), .int m_mv, .int m_mw, .ref m_ywa, .ref m_ybi, .ref m_ysi, .ref m_ynu, .ref m_ymo])), (m_yt, .inl (cI, 7, .inl m_mq)), (m_ybi, .inl (cI, 4, .inl m_bi)), (m_ysi, .inl (cI, 4, .inl m_sq)), (m_ynu, .inl (cJ, 160, .inr (.inl m_nb))), (m_ymo, .inl (cJ, 40, .inr (.inl m_mv9)))]) hF (c_X8_copy_2o l D cI cJ cZ cS ta sa sv H.size h0 qh qk qd b0 qa qm qs qp ql qt qz qf ff (xs (i + 2)) (xs (i + 3)) (xs (i + 4)) (xs (i + 5)) oq3) kv_L_166 ⟨rfl, rfl, Nat.le_of_ble_eq_true rfl, Nat.le_of_ble_eq_true rfl⟩ ⟨Nat.le_of_ble_eq_true rfl, Nat.le_of_ble_eq_true rfl⟩ hK hN hZ hP hD hS hA [0, 10] [1, 2, 3, 4, 5, 6, 7, 8, 9, 11, 12, 13, 14, 15, 16] rfl rfl rfl (by decide +kernel) (by decide +kernel) 0 rfl rfl rfl rfl hl.1 rfl (Nat.le_of_ble_eq_true rfl) dL_law_1304 (fun r_124 u_r_124 H locs hw_r_124 hP hD hS => ?_)
      obtain ⟨f2_125, rfl⟩ : ∃ z, z = u_r_124 := ⟨_, rfl⟩
      try dsimp only at hw_r_124
      have hP : va_P D vwCl (@HAppend.hAppend va_W va_W va_W _ [(qz, .inl (cS, 4, .inr (.inr (.inr (.inr (xSh s0 s1 s2 s3)))))), (s0, .inr (4, [.int bt0, .int (nI (sz0)), .ref sn0])), (s1, .inr (4, [.int bt1, .int (nI (sz1)), .ref sn1])), (s2, .inr (4, [.int bt2, .int (nI (sz2)), .ref sn2])), (s3, .inr (4, [.int bt3, .int (nI (sz3)), .ref sn3])), (sn0, .inl (cJ, 40, .inr (.inl nu0))), (sn1, .inl (cJ, 40, .inr (.inl nu1))), (sn2, .inl (cJ, 40, .inr (.inl nu2))), (sn3, .inl (cJ, 40, .inr (.inl nu3))), (g0, .inr (9, [.ref m_ys, .ref m_yk, .ref m_yo, .ref m_yt, .int b0, .ref m_yfa, .ref m_yfe, .int m_mL, .int m_mS, .int m_mM, .ref m_yro, .ref m_yhe, .ref m_ygr, .int m_mF, .int m_mC, .int m_mY, .ref m_yta, .int (nI (z)), .int (nI (m_mf)), .int (nI (m_mt)), .int m_mv, .int m_mw, .ref m_ywa, .ref m_ybi, .ref m_ysi, .ref m_ynu, .ref m_ymo])), (m_yt, .inl (cI, 7, .inl m_mq)), (m_ybi, .inl (cI, 4, .inl m_bi)), (m_ysi, .inl (cI, 4, .inl m_sq)), (m_ynu, .inl (cJ, 160, .inr (.inl m_nb))), (m_ymo, .inl (cJ, 40, .inr (.inl m_mv9))), (h0, .inr (8, [.ref qh, .ref qk, .ref qd, .int b0, .ref qa, .ref qm, .ref qs, .ref qp, .ref ql, .ref qt, .ref qz, .ref qf])), (qf, .inl (cI, 7, .inl f2_125))] tl) H := hP
      have hD : va_D A (@HAppend.hAppend va_W va_W va_W _ [(qz, .inl (cS, 4, .inr (.inr (.inr (.inr (xSh s0 s1 s2 s3)))))), (s0, .inr (4, [.int bt0, .int (nI (sz0)), .ref sn0])), (s1, .inr (4, [.int bt1, .int (nI (sz1)), .ref sn1])), (s2, .inr (4, [.int bt2, .int (nI (sz2)), .ref sn2])), (s3, .inr (4, [.int bt3, .int (nI (sz3)), .ref sn3])), (sn0, .inl (cJ, 40, .inr (.inl nu0))), (sn1, .inl (cJ, 40, .inr (.inl nu1))), (sn2, .inl (cJ, 40, .inr (.inl nu2))), (sn3, .inl (cJ, 40, .inr (.inl nu3))), (g0, .inr (9, [.ref m_ys, .ref m_yk, .ref m_yo, .ref m_yt, .int b0, .ref m_yfa, .ref m_yfe, .int m_mL, .int m_mS, .int m_mM, .ref m_yro, .ref m_yhe, .ref m_ygr, .int m_mF, .int m_mC, .int m_mY, .ref m_yta, .int (nI (z)), .int (nI (m_mf)), .int (nI (m_mt)), .int m_mv, .int m_mw, .ref m_ywa, .ref m_ybi, .ref m_ysi, .ref m_ynu, .ref m_ymo])), (m_yt, .inl (cI, 7, .inl m_mq)), (m_ybi, .inl (cI, 4, .inl m_bi)), (m_ysi, .inl (cI, 4, .inl m_sq)), (m_ynu, .inl (cJ, 160, .inr (.inl m_nb))), (m_ymo, .inl (cJ, 40, .inr (.inl m_mv9))), (h0, .inr (8, [.ref qh, .ref qk, .ref qd, .int b0, .ref qa, .ref qm, .ref qs, .ref qp, .ref ql, .ref qt, .ref qz, .ref qf])), (qf, .inl (cI, 7, .inl f2_125))] tl) := hD
      subst hw_r_124
      refine lv_aload_n hx hb dL_law_1307 rfl (lv_at hl 1 rfl) ?_
      refine lv_aload_n hx hb dL_law_1308 rfl (lv_at hl 3 rfl) ?_
      refine lv_iload_n hx hb dL_law_1309 rfl (lv_at hl 0 rfl) ?_
      refine lv_iconst (v := 1) hx hb dL_law_1310 (by decide) ?_
      refine lv_iadd hx hb dL_law_1311 ?_
      refine xl_i (y := nI (i + 1)) (nI_add i 1) ?_
      refine va_sld hx hb hX hbl hbA hS (x_si (k := 1) (by decide) hi hL) dL_law_1312 ?_
      refine xl_i (y := xs (i + 1)) (congrArg xs (x_sc (k := 1) (by decide) hi hL)) ?_
      refine xl_i (y := 2) eq1 ?_
      refine lv_aload_n hx hb dL_law_1313 rfl (lv_at hl 3 rfl) ?_
      refine lv_iload_n hx hb dL_law_1314 rfl (lv_at hl 0 rfl) ?_
      refine lv_iconst (v := 2) hx hb dL_law_1315 (by decide) ?_
      refine lv_iadd hx hb dL_law_1316 ?_
      refine xl_i (y := nI (i + 2)) (nI_add i 2) ?_
      refine va_sld hx hb hX hbl hbA hS (x_si (k := 2) (by decide) hi hL) dL_law_1317 ?_
      refine xl_i (y := xs (i + 2)) (congrArg xs (x_sc (k := 2) (by decide) hi hL)) ?_
      refine lv_aload_n hx hb dL_law_1318 rfl (lv_at hl 3 rfl) ?_
      refine lv_iload_n hx hb dL_law_1319 rfl (lv_at hl 0 rfl) ?_
      refine lv_iconst (v := 3) hx hb dL_law_1320 (by decide) ?_
      refine lv_iadd hx hb dL_law_1321 ?_
      refine xl_i (y := nI (i + 3)) (nI_add i 3) ?_
      refine va_sld hx hb hX hbl hbA hS (x_si (k := 3) (by decide) hi hL) dL_law_1322 ?_
      refine xl_i (y := xs (i + 3)) (congrArg xs (x_sc (k := 3) (by decide) hi hL)) ?_
      refine lv_aload_n hx hb dL_law_1323 rfl (lv_at hl 3 rfl) ?_
      refine lv_iload_n hx hb dL_law_1324 rfl (lv_at hl 0 rfl) ?_
      refine lv_iconst (v := 4) hx hb dL_law_1325 (by decide) ?_
      refine lv_iadd hx hb dL_law_1326 ?_
      refine xl_i (y := nI (i + 4)) (nI_add i 4) ?_
      refine va_sld hx hb hX hbl hbA hS (x_si (k := 4) (by decide) hi hL) dL_law_1327 ?_
      refine xl_i (y := xs (i + 4)) (congrArg xs (x_sc (k := 4) (by decide) hi hL)) ?_
      refine lv_aload_n hx hb dL_law_1328 rfl (lv_at hl 3 rfl) ?_
      refine lv_iload_n hx hb dL_law_1329 rfl (lv_at hl 0 rfl) ?_
      refine lv_iconst (v := 5) hx hb dL_law_1330 (by decide) ?_
      refine lv_iadd hx hb dL_law_1331 ?_
      refine xl_i (y := nI (i + 5)) (nI_add i 5) ?_
      refine va_sld hx hb hX hbl hbA hS (x_si (k := 5) (by decide) hi hL) dL_law_1332 ?_
      refine xl_i (y := xs (i + 5)) (congrArg xs (x_sc (k := 5) (by decide) hi hL)) ?_
      refine xc_ViT (wr := [(qz, .inl (cS, 4, .inr (.inr (.inr (.inr (xSh s0 s1 s2 s3)))))), (s0, .inr (4, [.int bt0, .int (nI (sz0)), .ref sn0])), (s1, .inr (4, [.int bt1, .int (nI (sz1)), .ref sn1])), (s2, .inr (4, [.int bt2, .int (nI (sz2)), .ref sn2])), (s3, .inr (4, [.int bt3, .int (nI (sz3)), .ref sn3])), (sn0, .inl (cJ, 40, .inr (.inl nu0))), (sn1, .inl (cJ, 40, .inr (.inl nu1))), (sn2, .inl (cJ, 40, .inr (.inl nu2))), (sn3, .inl (cJ, 40, .inr (.inl nu3))), (m_ybi, .inl (cI, 4, .inl m_bi)), (m_ysi, .inl (cI, 4, .inl m_sq)), (m_ynu, .inl (cJ, 160, .inr (.inl m_nb))), (m_ymo, .inl (cJ, 40, .inr (.inl m_mv9))), (h0, .inr (8, [.ref qh, .ref qk, .ref qd, .int b0, .ref qa, .ref qm, .ref qs, .ref qp, .ref ql, .ref qt, .ref qz, .ref qf])), (qf, .inl (cI, 7, .inl f2_125))]) hF (c_X9_copy_2o l D cI cJ cZ cS ta sa sv H.size g0 m_ys m_yk m_yo m_yt b0 m_yfa m_yfe m_mL m_mS m_mM m_yro m_yhe m_ygr m_mF m_mC m_mY m_yta z m_mf m_mt m_mv m_mw m_ywa m_ybi m_ysi m_ynu m_ymo m_mq (xs (i + 2)) (xs (i + 3)) (xs (i + 4)) (xs (i + 5)) oq3) kv_L_170 ⟨rfl, rfl, Nat.le_of_ble_eq_true rfl, Nat.le_of_ble_eq_true rfl⟩ ⟨Nat.le_of_ble_eq_true rfl, Nat.le_of_ble_eq_true rfl⟩ hK hN hZ hP hD hS hA [9, 10] [0, 1, 2, 3, 4, 5, 6, 7, 8, 11, 12, 13, 14, 15, 16] rfl rfl rfl (by decide +kernel) (by decide +kernel) 0 rfl rfl rfl rfl hl.1 rfl (Nat.le_of_ble_eq_true rfl) dL_law_1333 (fun r_126 u_r_126 H locs hw_r_126 hP hD hS => ?_)
      obtain ⟨mq2_127, rfl⟩ : ∃ z, z = u_r_126 := ⟨_, rfl⟩
      try dsimp only at hw_r_126
      have hP : va_P D vwCl (@HAppend.hAppend va_W va_W va_W _ [(qz, .inl (cS, 4, .inr (.inr (.inr (.inr (xSh s0 s1 s2 s3)))))), (s0, .inr (4, [.int bt0, .int (nI (sz0)), .ref sn0])), (s1, .inr (4, [.int bt1, .int (nI (sz1)), .ref sn1])), (s2, .inr (4, [.int bt2, .int (nI (sz2)), .ref sn2])), (s3, .inr (4, [.int bt3, .int (nI (sz3)), .ref sn3])), (sn0, .inl (cJ, 40, .inr (.inl nu0))), (sn1, .inl (cJ, 40, .inr (.inl nu1))), (sn2, .inl (cJ, 40, .inr (.inl nu2))), (sn3, .inl (cJ, 40, .inr (.inl nu3))), (m_ybi, .inl (cI, 4, .inl m_bi)), (m_ysi, .inl (cI, 4, .inl m_sq)), (m_ynu, .inl (cJ, 160, .inr (.inl m_nb))), (m_ymo, .inl (cJ, 40, .inr (.inl m_mv9))), (h0, .inr (8, [.ref qh, .ref qk, .ref qd, .int b0, .ref qa, .ref qm, .ref qs, .ref qp, .ref ql, .ref qt, .ref qz, .ref qf])), (qf, .inl (cI, 7, .inl f2_125)), (g0, .inr (9, [.ref m_ys, .ref m_yk, .ref m_yo, .ref m_yt, .int b0, .ref m_yfa, .ref m_yfe, .int m_mL, .int m_mS, .int m_mM, .ref m_yro, .ref m_yhe, .ref m_ygr, .int m_mF, .int m_mC, .int m_mY, .ref m_yta, .int (nI (z)), .int (nI (m_mf)), .int (nI (m_mt)), .int m_mv, .int m_mw, .ref m_ywa, .ref m_ybi, .ref m_ysi, .ref m_ynu, .ref m_ymo])), (m_yt, .inl (cI, 7, .inl mq2_127))] tl) H := hP
      have hD : va_D A (@HAppend.hAppend va_W va_W va_W _ [(qz, .inl (cS, 4, .inr (.inr (.inr (.inr (xSh s0 s1 s2 s3)))))), (s0, .inr (4, [.int bt0, .int (nI (sz0)), .ref sn0])), (s1, .inr (4, [.int bt1, .int (nI (sz1)), .ref sn1])), (s2, .inr (4, [.int bt2, .int (nI (sz2)), .ref sn2])), (s3, .inr (4, [.int bt3, .int (nI (sz3)), .ref sn3])), (sn0, .inl (cJ, 40, .inr (.inl nu0))), (sn1, .inl (cJ, 40, .inr (.inl nu1))), (sn2, .inl (cJ, 40, .inr (.inl nu2))), (sn3, .inl (cJ, 40, .inr (.inl nu3))), (m_ybi, .inl (cI, 4, .inl m_bi)), (m_ysi, .inl (cI, 4, .inl m_sq)), (m_ynu, .inl (cJ, 160, .inr (.inl m_nb))), (m_ymo, .inl (cJ, 40, .inr (.inl m_mv9))), (h0, .inr (8, [.ref qh, .ref qk, .ref qd, .int b0, .ref qa, .ref qm, .ref qs, .ref qp, .ref ql, .ref qt, .ref qz, .ref qf])), (qf, .inl (cI, 7, .inl f2_125)), (g0, .inr (9, [.ref m_ys, .ref m_yk, .ref m_yo, .ref m_yt, .int b0, .ref m_yfa, .ref m_yfe, .int m_mL, .int m_mS, .int m_mM, .ref m_yro, .ref m_yhe, .ref m_ygr, .int m_mF, .int m_mC, .int m_mY, .ref m_yta, .int (nI (z)), .int (nI (m_mf)), .int (nI (m_mt)), .int m_mv, .int m_mw, .ref m_ywa, .ref m_ybi, .ref m_ysi, .ref m_ynu, .ref m_ymo])), (m_yt, .inl (cI, 7, .inl mq2_127))] tl) := hD
      subst hw_r_126
      refine lv_icmp_eq (tgt := 1482) hx hb dL_law_1336 (by decide) (fun c_128 => ?_) (fun c_128 => absurd (by decide) c_128)
      exact kkx _ _ _ nu0 nu1 nu2 nu3 f2_125 mq2_127 m_nb m_mv9 (xt_P hP [13, 0, 1, 2, 3, 4, 5, 6, 7, 8, 14, 15, 16, 9, 10, 11, 12] rfl) (xt_D hD [13, 0, 1, 2, 3, 4, 5, 6, 7, 8, 14, 15, 16, 9, 10, 11, 12] (by decide +kernel) rfl) r_n0 r_n1 r_n2 r_n3 hS hl
    · skip
      refine lv_aload_n hx hb dL_law_1279 rfl (lv_at hl 3 rfl) ?_
      refine lv_iload_n hx hb dL_law_1280 rfl (lv_at hl 0 rfl) ?_
      refine lv_iconst (v := 1) hx hb dL_law_1281 (by decide) ?_
      refine lv_iadd hx hb dL_law_1282 ?_
      refine xl_i (y := nI (i + 1)) (nI_add i 1) ?_
      refine va_sld hx hb hX hbl hbA hS (x_si (k := 1) (by decide) hi hL) dL_law_1283 ?_
      refine xl_i (y := xs (i + 1)) (congrArg xs (x_sc (k := 1) (by decide) hi hL)) ?_
      refine xl_i (y := 2) eq1 ?_
      refine lv_aload_n hx hb dL_law_1284 rfl (lv_at hl 3 rfl) ?_
      refine lv_iload_n hx hb dL_law_1285 rfl (lv_at hl 0 rfl) ?_
      refine lv_iconst (v := 2) hx hb dL_law_1286 (by decide) ?_
      refine lv_iadd hx hb dL_law_1287 ?_
      refine xl_i (y := nI (i + 2)) (nI_add i 2) ?_
      refine va_sld hx hb hX hbl hbA hS (x_si (k := 2) (by decide) hi hL) dL_law_1288 ?_
      refine xl_i (y := xs (i + 2)) (congrArg xs (x_sc (k := 2) (by decide) hi hL)) ?_
      refine lv_aload_n hx hb dL_law_1289 rfl (lv_at hl 3 rfl) ?_
      refine lv_iload_n hx hb dL_law_1290 rfl (lv_at hl 0 rfl) ?_
      refine lv_iconst (v := 3) hx hb dL_law_1291 (by decide) ?_
      refine lv_iadd hx hb dL_law_1292 ?_
      refine xl_i (y := nI (i + 3)) (nI_add i 3) ?_
      refine va_sld hx hb hX hbl hbA hS (x_si (k := 3) (by decide) hi hL) dL_law_1293 ?_
      refine xl_i (y := xs (i + 3)) (congrArg xs (x_sc (k := 3) (by decide) hi hL)) ?_
      refine xl_i (y := 0) eq3 ?_
      refine lv_aload_n hx hb dL_law_1294 rfl (lv_at hl 3 rfl) ?_
      refine lv_iload_n hx hb dL_law_1295 rfl (lv_at hl 0 rfl) ?_
      refine lv_iconst (v := 4) hx hb dL_law_1296 (by decide) ?_
      refine lv_iadd hx hb dL_law_1297 ?_
      refine xl_i (y := nI (i + 4)) (nI_add i 4) ?_
      refine va_sld hx hb hX hbl hbA hS (x_si (k := 4) (by decide) hi hL) dL_law_1298 ?_
      refine xl_i (y := xs (i + 4)) (congrArg xs (x_sc (k := 4) (by decide) hi hL)) ?_
      refine lv_aload_n hx hb dL_law_1299 rfl (lv_at hl 3 rfl) ?_
      refine lv_iload_n hx hb dL_law_1300 rfl (lv_at hl 0 rfl) ?_
      refine lv_iconst (v := 5) hx hb dL_law_1301 (by decide) ?_
      refine lv_iadd hx hb dL_law_1302 ?_
      refine xl_i (y := nI (i + 5)) (nI_add i 5) ?_
      refine va_sld hx hb hX hbl hbA hS (x_si (k := 5) (by decide) hi hL) dL_law_1303 ?_
      refine xl_i (y := xs (i + 5)) (congrArg xs (x_sc (k := 5) (by decide) hi hL)) ?_
      refine xc_ViT (wr := [(g0, .inr (9, [.ref m_ys, .ref m_yk, .ref m_yo, .ref m_yt, .int b0, .ref m_yfa, .ref m_yfe, .int m_mL, .int m_mS, .int m_mM, .ref m_yro, .ref m_yhe, .ref m_ygr, .int m_mF, .int m_mC, .int m_mY, .ref m_yta, .int (nI (z)), .int (nI (m_mf)), .int (nI (m_mt)), .int m_mv, .int m_mw, .ref m_ywa, .ref m_ybi, .ref m_ysi, .ref m_ynu, .ref m_ymo])), (m_yt, .inl (cI, 7, .inl m_mq)), (m_ybi, .inl (cI, 4, .inl m_bi)), (m_ysi, .inl (cI, 4, .inl m_sq)), (m_ynu, .inl (cJ, 160, .inr (.inl m_nb))), (m_ymo, .inl (cJ, 40, .inr (.inl m_mv9)))]) hF (c_X8_copy_20 l D cI cJ cZ cS ta sa sv H.size h0 qh qk qd b0 qa qm qs qp ql qt qz qf s0 s1 s2 s3 bt0 sz0 sn0 bt1 sz1 sn1 bt2 sz2 sn2 bt3 sz3 sn3 nu0 nu1 nu2 nu3 ff (xs (i + 2)) (xs (i + 4)) (xs (i + 5)) hsz0 hsz1 hsz2 hsz3) kv_L_166 ⟨rfl, rfl, Nat.le_of_ble_eq_true rfl, Nat.le_of_ble_eq_true rfl⟩ ⟨Nat.le_of_ble_eq_true rfl, Nat.le_of_ble_eq_true rfl⟩ hK hN hZ hP hD hS hA [0, 1, 2, 3, 4, 5, 6, 7, 8, 9, 10] [11, 12, 13, 14, 15, 16] rfl rfl (by decide +kernel) (by decide +kernel) (by decide +kernel) 0 rfl rfl rfl rfl hl.1 rfl (Nat.le_of_ble_eq_true rfl) dL_law_1304 (fun r_129 u_r_129 H locs hw_r_129 hP hD hS => ?_)
      obtain ⟨nv_130, f2_131⟩ := u_r_129
      try dsimp only at hw_r_129
      obtain ⟨hw_r_129, i_132⟩ := hw_r_129
      have hP : va_P D vwCl (@HAppend.hAppend va_W va_W va_W _ [(g0, .inr (9, [.ref m_ys, .ref m_yk, .ref m_yo, .ref m_yt, .int b0, .ref m_yfa, .ref m_yfe, .int m_mL, .int m_mS, .int m_mM, .ref m_yro, .ref m_yhe, .ref m_ygr, .int m_mF, .int m_mC, .int m_mY, .ref m_yta, .int (nI (z)), .int (nI (m_mf)), .int (nI (m_mt)), .int m_mv, .int m_mw, .ref m_ywa, .ref m_ybi, .ref m_ysi, .ref m_ynu, .ref m_ymo])), (m_yt, .inl (cI, 7, .inl m_mq)), (m_ybi, .inl (cI, 4, .inl m_bi)), (m_ysi, .inl (cI, 4, .inl m_sq)), (m_ynu, .inl (cJ, 160, .inr (.inl m_nb))), (m_ymo, .inl (cJ, 40, .inr (.inl m_mv9))), (h0, .inr (8, [.ref qh, .ref qk, .ref qd, .int b0, .ref qa, .ref qm, .ref qs, .ref qp, .ref ql, .ref qt, .ref qz, .ref qf])), (qz, .inl (cS, 4, .inr (.inr (.inr (.inr (xSh s0 s1 s2 s3)))))), (s0, .inr (4, [.int bt0, .int (nI (sz0)), .ref sn0])), (s1, .inr (4, [.int bt1, .int (nI (sz1)), .ref sn1])), (s2, .inr (4, [.int bt2, .int (nI (sz2)), .ref sn2])), (s3, .inr (4, [.int bt3, .int (nI (sz3)), .ref sn3])), (sn0, .inl (cJ, 40, .inr (.inl nv_130))), (sn1, .inl (cJ, 40, .inr (.inl nu1))), (sn2, .inl (cJ, 40, .inr (.inl nu2))), (sn3, .inl (cJ, 40, .inr (.inl nu3))), (qf, .inl (cI, 7, .inl f2_131))] tl) H := hP
      have hD : va_D A (@HAppend.hAppend va_W va_W va_W _ [(g0, .inr (9, [.ref m_ys, .ref m_yk, .ref m_yo, .ref m_yt, .int b0, .ref m_yfa, .ref m_yfe, .int m_mL, .int m_mS, .int m_mM, .ref m_yro, .ref m_yhe, .ref m_ygr, .int m_mF, .int m_mC, .int m_mY, .ref m_yta, .int (nI (z)), .int (nI (m_mf)), .int (nI (m_mt)), .int m_mv, .int m_mw, .ref m_ywa, .ref m_ybi, .ref m_ysi, .ref m_ynu, .ref m_ymo])), (m_yt, .inl (cI, 7, .inl m_mq)), (m_ybi, .inl (cI, 4, .inl m_bi)), (m_ysi, .inl (cI, 4, .inl m_sq)), (m_ynu, .inl (cJ, 160, .inr (.inl m_nb))), (m_ymo, .inl (cJ, 40, .inr (.inl m_mv9))), (h0, .inr (8, [.ref qh, .ref qk, .ref qd, .int b0, .ref qa, .ref qm, .ref qs, .ref qp, .ref ql, .ref qt, .ref qz, .ref qf])), (qz, .inl (cS, 4, .inr (.inr (.inr (.inr (xSh s0 s1 s2 s3)))))), (s0, .inr (4, [.int bt0, .int (nI (sz0)), .ref sn0])), (s1, .inr (4, [.int bt1, .int (nI (sz1)), .ref sn1])), (s2, .inr (4, [.int bt2, .int (nI (sz2)), .ref sn2])), (s3, .inr (4, [.int bt3, .int (nI (sz3)), .ref sn3])), (sn0, .inl (cJ, 40, .inr (.inl nv_130))), (sn1, .inl (cJ, 40, .inr (.inl nu1))), (sn2, .inl (cJ, 40, .inr (.inl nu2))), (sn3, .inl (cJ, 40, .inr (.inl nu3))), (qf, .inl (cI, 7, .inl f2_131))] tl) := hD
      subst hw_r_129
      refine lv_aload_n hx hb dL_law_1307 rfl (lv_at hl 1 rfl) ?_
      refine lv_aload_n hx hb dL_law_1308 rfl (lv_at hl 3 rfl) ?_
      refine lv_iload_n hx hb dL_law_1309 rfl (lv_at hl 0 rfl) ?_
      refine lv_iconst (v := 1) hx hb dL_law_1310 (by decide) ?_
      refine lv_iadd hx hb dL_law_1311 ?_
      refine xl_i (y := nI (i + 1)) (nI_add i 1) ?_
      refine va_sld hx hb hX hbl hbA hS (x_si (k := 1) (by decide) hi hL) dL_law_1312 ?_
      refine xl_i (y := xs (i + 1)) (congrArg xs (x_sc (k := 1) (by decide) hi hL)) ?_
      refine xl_i (y := 2) eq1 ?_
      refine lv_aload_n hx hb dL_law_1313 rfl (lv_at hl 3 rfl) ?_
      refine lv_iload_n hx hb dL_law_1314 rfl (lv_at hl 0 rfl) ?_
      refine lv_iconst (v := 2) hx hb dL_law_1315 (by decide) ?_
      refine lv_iadd hx hb dL_law_1316 ?_
      refine xl_i (y := nI (i + 2)) (nI_add i 2) ?_
      refine va_sld hx hb hX hbl hbA hS (x_si (k := 2) (by decide) hi hL) dL_law_1317 ?_
      refine xl_i (y := xs (i + 2)) (congrArg xs (x_sc (k := 2) (by decide) hi hL)) ?_
      refine lv_aload_n hx hb dL_law_1318 rfl (lv_at hl 3 rfl) ?_
      refine lv_iload_n hx hb dL_law_1319 rfl (lv_at hl 0 rfl) ?_
      refine lv_iconst (v := 3) hx hb dL_law_1320 (by decide) ?_
      refine lv_iadd hx hb dL_law_1321 ?_
      refine xl_i (y := nI (i + 3)) (nI_add i 3) ?_
      refine va_sld hx hb hX hbl hbA hS (x_si (k := 3) (by decide) hi hL) dL_law_1322 ?_
      refine xl_i (y := xs (i + 3)) (congrArg xs (x_sc (k := 3) (by decide) hi hL)) ?_
      refine xl_i (y := 0) eq3 ?_
      refine lv_aload_n hx hb dL_law_1323 rfl (lv_at hl 3 rfl) ?_
      refine lv_iload_n hx hb dL_law_1324 rfl (lv_at hl 0 rfl) ?_
      refine lv_iconst (v := 4) hx hb dL_law_1325 (by decide) ?_
      refine lv_iadd hx hb dL_law_1326 ?_
      refine xl_i (y := nI (i + 4)) (nI_add i 4) ?_
      refine va_sld hx hb hX hbl hbA hS (x_si (k := 4) (by decide) hi hL) dL_law_1327 ?_
      refine xl_i (y := xs (i + 4)) (congrArg xs (x_sc (k := 4) (by decide) hi hL)) ?_
      refine lv_aload_n hx hb dL_law_1328 rfl (lv_at hl 3 rfl) ?_
      refine lv_iload_n hx hb dL_law_1329 rfl (lv_at hl 0 rfl) ?_
      refine lv_iconst (v := 5) hx hb dL_law_1330 (by decide) ?_
      refine lv_iadd hx hb dL_law_1331 ?_
      refine xl_i (y := nI (i + 5)) (nI_add i 5) ?_
      refine va_sld hx hb hX hbl hbA hS (x_si (k := 5) (by decide) hi hL) dL_law_1332 ?_
      refine xl_i (y := xs (i + 5)) (congrArg xs (x_sc (k := 5) (by decide) hi hL)) ?_
      refine xc_ViT (wr := [(h0, .inr (8, [.ref qh, .ref qk, .ref qd, .int b0, .ref qa, .ref qm, .ref qs, .ref qp, .ref ql, .ref qt, .ref qz, .ref qf])), (qz, .inl (cS, 4, .inr (.inr (.inr (.inr (xSh s0 s1 s2 s3)))))), (s0, .inr (4, [.int bt0, .int (nI (sz0)), .ref sn0])), (s1, .inr (4, [.int bt1, .int (nI (sz1)), .ref sn1])), (s2, .inr (4, [.int bt2, .int (nI (sz2)), .ref sn2])), (s3, .inr (4, [.int bt3, .int (nI (sz3)), .ref sn3])), (sn0, .inl (cJ, 40, .inr (.inl nv_130))), (sn1, .inl (cJ, 40, .inr (.inl nu1))), (sn2, .inl (cJ, 40, .inr (.inl nu2))), (sn3, .inl (cJ, 40, .inr (.inl nu3))), (qf, .inl (cI, 7, .inl f2_131))]) hF (c_X9_copy_20 l D cI cJ cZ cS ta sa sv H.size g0 m_ys m_yk m_yo m_yt b0 m_yfa m_yfe m_mL m_mS m_mM m_yro m_yhe m_ygr m_mF m_mC m_mY m_yta z m_mf m_mt m_mv m_mw m_ywa m_ybi m_ysi m_ynu m_ymo m_bi m_sq m_nb m_mv9 m_mq (xs (i + 2)) (xs (i + 4)) (xs (i + 5)) sz2 sz0 r_z2 hsz2 r_z0 hsz0 m_hsq) kv_L_170 ⟨rfl, rfl, Nat.le_of_ble_eq_true rfl, Nat.le_of_ble_eq_true rfl⟩ ⟨Nat.le_of_ble_eq_true rfl, Nat.le_of_ble_eq_true rfl⟩ hK hN hZ hP hD hS hA [0, 2, 3, 4, 5, 1] [6, 7, 8, 9, 10, 11, 12, 13, 14, 15, 16] rfl rfl (by decide +kernel) (by decide +kernel) (by decide +kernel) 0 rfl rfl rfl rfl hl.1 rfl (Nat.le_of_ble_eq_true rfl) dL_law_1333 (fun r_133 u_r_133 H locs hw_r_133 hP hD hS => ?_)
      obtain ⟨nb2_134, mv2_135, mq2_136⟩ := u_r_133
      try dsimp only at hw_r_133
      obtain ⟨hw_r_133, i_137, i_138⟩ := hw_r_133
      have hP : va_P D vwCl (@HAppend.hAppend va_W va_W va_W _ [(h0, .inr (8, [.ref qh, .ref qk, .ref qd, .int b0, .ref qa, .ref qm, .ref qs, .ref qp, .ref ql, .ref qt, .ref qz, .ref qf])), (qz, .inl (cS, 4, .inr (.inr (.inr (.inr (xSh s0 s1 s2 s3)))))), (s0, .inr (4, [.int bt0, .int (nI (sz0)), .ref sn0])), (s1, .inr (4, [.int bt1, .int (nI (sz1)), .ref sn1])), (s2, .inr (4, [.int bt2, .int (nI (sz2)), .ref sn2])), (s3, .inr (4, [.int bt3, .int (nI (sz3)), .ref sn3])), (sn0, .inl (cJ, 40, .inr (.inl nv_130))), (sn1, .inl (cJ, 40, .inr (.inl nu1))), (sn2, .inl (cJ, 40, .inr (.inl nu2))), (sn3, .inl (cJ, 40, .inr (.inl nu3))), (qf, .inl (cI, 7, .inl f2_131)), (g0, .inr (9, [.ref m_ys, .ref m_yk, .ref m_yo, .ref m_yt, .int b0, .ref m_yfa, .ref m_yfe, .int m_mL, .int m_mS, .int m_mM, .ref m_yro, .ref m_yhe, .ref m_ygr, .int m_mF, .int m_mC, .int m_mY, .ref m_yta, .int (nI (z)), .int (nI (m_mf)), .int (nI (m_mt)), .int m_mv, .int m_mw, .ref m_ywa, .ref m_ybi, .ref m_ysi, .ref m_ynu, .ref m_ymo])), (m_ybi, .inl (cI, 4, .inl m_bi)), (m_ysi, .inl (cI, 4, .inl m_sq)), (m_ynu, .inl (cJ, 160, .inr (.inl nb2_134))), (m_ymo, .inl (cJ, 40, .inr (.inl mv2_135))), (m_yt, .inl (cI, 7, .inl mq2_136))] tl) H := hP
      have hD : va_D A (@HAppend.hAppend va_W va_W va_W _ [(h0, .inr (8, [.ref qh, .ref qk, .ref qd, .int b0, .ref qa, .ref qm, .ref qs, .ref qp, .ref ql, .ref qt, .ref qz, .ref qf])), (qz, .inl (cS, 4, .inr (.inr (.inr (.inr (xSh s0 s1 s2 s3)))))), (s0, .inr (4, [.int bt0, .int (nI (sz0)), .ref sn0])), (s1, .inr (4, [.int bt1, .int (nI (sz1)), .ref sn1])), (s2, .inr (4, [.int bt2, .int (nI (sz2)), .ref sn2])), (s3, .inr (4, [.int bt3, .int (nI (sz3)), .ref sn3])), (sn0, .inl (cJ, 40, .inr (.inl nv_130))), (sn1, .inl (cJ, 40, .inr (.inl nu1))), (sn2, .inl (cJ, 40, .inr (.inl nu2))), (sn3, .inl (cJ, 40, .inr (.inl nu3))), (qf, .inl (cI, 7, .inl f2_131)), (g0, .inr (9, [.ref m_ys, .ref m_yk, .ref m_yo, .ref m_yt, .int b0, .ref m_yfa, .ref m_yfe, .int m_mL, .int m_mS, .int m_mM, .ref m_yro, .ref m_yhe, .ref m_ygr, .int m_mF, .int m_mC, .int m_mY, .ref m_yta, .int (nI (z)), .int (nI (m_mf)), .int (nI (m_mt)), .int m_mv, .int m_mw, .ref m_ywa, .ref m_ybi, .ref m_ysi, .ref m_ynu, .ref m_ymo])), (m_ybi, .inl (cI, 4, .inl m_bi)), (m_ysi, .inl (cI, 4, .inl m_sq)), (m_ynu, .inl (cJ, 160, .inr (.inl nb2_134))), (m_ymo, .inl (cJ, 40, .inr (.inl mv2_135))), (m_yt, .inl (cI, 7, .inl mq2_136))] tl) := hD
      subst hw_r_133
      refine lv_icmp_eq (tgt := 1482) hx hb dL_law_1336 (by decide) (fun c_139 => ?_) (fun c_139 => absurd (sp_creq r_b2 r_b0) c_139)
      exact kkx _ _ _ nv_130 nu1 nu2 nu3 f2_131 mq2_136 nb2_134 mv2_135 (xt_P hP [0, 1, 2, 3, 4, 5, 6, 7, 8, 9, 10, 11, 16, 12, 13, 14, 15] rfl) (xt_D hD [0, 1, 2, 3, 4, 5, 6, 7, 8, 9, 10, 11, 16, 12, 13, 14, 15] (by decide +kernel) rfl) (fun j hj => (i_137 j).trans ((sp_cneq r_b2 r_b0 r_n2 (by omega) (r_n0 j hj)).trans (i_132 j).symm)) (fun j hj => (i_138 (40 + j) (by omega)).trans (r_n1 j hj)) (fun j hj => (i_138 (80 + j) (by omega)).trans (r_n2 j hj)) (fun j hj => (i_138 (120 + j) (by omega)).trans (r_n3 j hj)) hS hl
    · skip
      refine lv_aload_n hx hb dL_law_1279 rfl (lv_at hl 3 rfl) ?_
      refine lv_iload_n hx hb dL_law_1280 rfl (lv_at hl 0 rfl) ?_
      refine lv_iconst (v := 1) hx hb dL_law_1281 (by decide) ?_
      refine lv_iadd hx hb dL_law_1282 ?_
      refine xl_i (y := nI (i + 1)) (nI_add i 1) ?_
      refine va_sld hx hb hX hbl hbA hS (x_si (k := 1) (by decide) hi hL) dL_law_1283 ?_
      refine xl_i (y := xs (i + 1)) (congrArg xs (x_sc (k := 1) (by decide) hi hL)) ?_
      refine xl_i (y := 2) eq1 ?_
      refine lv_aload_n hx hb dL_law_1284 rfl (lv_at hl 3 rfl) ?_
      refine lv_iload_n hx hb dL_law_1285 rfl (lv_at hl 0 rfl) ?_
      refine lv_iconst (v := 2) hx hb dL_law_1286 (by decide) ?_
      refine lv_iadd hx hb dL_law_1287 ?_
      refine xl_i (y := nI (i + 2)) (nI_add i 2) ?_
      refine va_sld hx hb hX hbl hbA hS (x_si (k := 2) (by decide) hi hL) dL_law_1288 ?_
      refine xl_i (y := xs (i + 2)) (congrArg xs (x_sc (k := 2) (by decide) hi hL)) ?_
      refine lv_aload_n hx hb dL_law_1289 rfl (lv_at hl 3 rfl) ?_
      refine lv_iload_n hx hb dL_law_1290 rfl (lv_at hl 0 rfl) ?_
      refine lv_iconst (v := 3) hx hb dL_law_1291 (by decide) ?_
      refine lv_iadd hx hb dL_law_1292 ?_
      refine xl_i (y := nI (i + 3)) (nI_add i 3) ?_
      refine va_sld hx hb hX hbl hbA hS (x_si (k := 3) (by decide) hi hL) dL_law_1293 ?_
      refine xl_i (y := xs (i + 3)) (congrArg xs (x_sc (k := 3) (by decide) hi hL)) ?_
      refine xl_i (y := 1) eq3 ?_
      refine lv_aload_n hx hb dL_law_1294 rfl (lv_at hl 3 rfl) ?_
      refine lv_iload_n hx hb dL_law_1295 rfl (lv_at hl 0 rfl) ?_
      refine lv_iconst (v := 4) hx hb dL_law_1296 (by decide) ?_
      refine lv_iadd hx hb dL_law_1297 ?_
      refine xl_i (y := nI (i + 4)) (nI_add i 4) ?_
      refine va_sld hx hb hX hbl hbA hS (x_si (k := 4) (by decide) hi hL) dL_law_1298 ?_
      refine xl_i (y := xs (i + 4)) (congrArg xs (x_sc (k := 4) (by decide) hi hL)) ?_
      refine lv_aload_n hx hb dL_law_1299 rfl (lv_at hl 3 rfl) ?_
      refine lv_iload_n hx hb dL_law_1300 rfl (lv_at hl 0 rfl) ?_
      refine lv_iconst (v := 5) hx hb dL_law_1301 (by decide) ?_
      refine lv_iadd hx hb dL_law_1302 ?_
      refine xl_i (y := nI (i + 5)) (nI_add i 5) ?_
      refine va_sld hx hb hX hbl hbA hS (x_si (k := 5) (by decide) hi hL) dL_law_1303 ?_
      refine xl_i (y := xs (i + 5)) (congrArg xs (x_sc (k := 5) (by decide) hi hL)) ?_
      refine xc_ViT (wr := [(g0, .inr (9, [.ref m_ys, .ref m_yk, .ref m_yo, .ref m_yt, .int b0, .ref m_yfa, .ref m_yfe, .int m_mL, .int m_mS, .int m_mM, .ref m_yro, .ref m_yhe, .ref m_ygr, .int m_mF, .int m_mC, .int m_mY, .ref m_yta, .int (nI (z)), .int (nI (m_mf)), .int (nI (m_mt)), .int m_mv, .int m_mw, .ref m_ywa, .ref m_ybi, .ref m_ysi, .ref m_ynu, .ref m_ymo])), (m_yt, .inl (cI, 7, .inl m_mq)), (m_ybi, .inl (cI, 4, .inl m_bi)), (m_ysi, .inl (cI, 4, .inl m_sq)), (m_ynu, .inl (cJ, 160, .inr (.inl m_nb))), (m_ymo, .inl (cJ, 40, .inr (.inl m_mv9)))]) hF (c_X8_copy_21 l D cI cJ cZ cS ta sa sv H.size h0 qh qk qd b0 qa qm qs qp ql qt qz qf s0 s1 s2 s3 bt0 sz0 sn0 bt1 sz1 sn1 bt2 sz2 sn2 bt3 sz3 sn3 nu0 nu1 nu2 nu3 ff (xs (i + 2)) (xs (i + 4)) (xs (i + 5)) hsz0 hsz1 hsz2 hsz3) kv_L_166 ⟨rfl, rfl, Nat.le_of_ble_eq_true rfl, Nat.le_of_ble_eq_true rfl⟩ ⟨Nat.le_of_ble_eq_true rfl, Nat.le_of_ble_eq_true rfl⟩ hK hN hZ hP hD hS hA [0, 1, 2, 3, 4, 5, 6, 7, 8, 9, 10] [11, 12, 13, 14, 15, 16] rfl rfl (by decide +kernel) (by decide +kernel) (by decide +kernel) 0 rfl rfl rfl rfl hl.1 rfl (Nat.le_of_ble_eq_true rfl) dL_law_1304 (fun r_140 u_r_140 H locs hw_r_140 hP hD hS => ?_)
      obtain ⟨nv_141, f2_142⟩ := u_r_140
      try dsimp only at hw_r_140
      obtain ⟨hw_r_140, i_143⟩ := hw_r_140
      have hP : va_P D vwCl (@HAppend.hAppend va_W va_W va_W _ [(g0, .inr (9, [.ref m_ys, .ref m_yk, .ref m_yo, .ref m_yt, .int b0, .ref m_yfa, .ref m_yfe, .int m_mL, .int m_mS, .int m_mM, .ref m_yro, .ref m_yhe, .ref m_ygr, .int m_mF, .int m_mC, .int m_mY, .ref m_yta, .int (nI (z)), .int (nI (m_mf)), .int (nI (m_mt)), .int m_mv, .int m_mw, .ref m_ywa, .ref m_ybi, .ref m_ysi, .ref m_ynu, .ref m_ymo])), (m_yt, .inl (cI, 7, .inl m_mq)), (m_ybi, .inl (cI, 4, .inl m_bi)), (m_ysi, .inl (cI, 4, .inl m_sq)), (m_ynu, .inl (cJ, 160, .inr (.inl m_nb))), (m_ymo, .inl (cJ, 40, .inr (.inl m_mv9))), (h0, .inr (8, [.ref qh, .ref qk, .ref qd, .int b0, .ref qa, .ref qm, .ref qs, .ref qp, .ref ql, .ref qt, .ref qz, .ref qf])), (qz, .inl (cS, 4, .inr (.inr (.inr (.inr (xSh s0 s1 s2 s3)))))), (s0, .inr (4, [.int bt0, .int (nI (sz0)), .ref sn0])), (s1, .inr (4, [.int bt1, .int (nI (sz1)), .ref sn1])), (s2, .inr (4, [.int bt2, .int (nI (sz2)), .ref sn2])), (s3, .inr (4, [.int bt3, .int (nI (sz3)), .ref sn3])), (sn0, .inl (cJ, 40, .inr (.inl nu0))), (sn1, .inl (cJ, 40, .inr (.inl nv_141))), (sn2, .inl (cJ, 40, .inr (.inl nu2))), (sn3, .inl (cJ, 40, .inr (.inl nu3))), (qf, .inl (cI, 7, .inl f2_142))] tl) H := hP
      have hD : va_D A (@HAppend.hAppend va_W va_W va_W _ [(g0, .inr (9, [.ref m_ys, .ref m_yk, .ref m_yo, .ref m_yt, .int b0, .ref m_yfa, .ref m_yfe, .int m_mL, .int m_mS, .int m_mM, .ref m_yro, .ref m_yhe, .ref m_ygr, .int m_mF, .int m_mC, .int m_mY, .ref m_yta, .int (nI (z)), .int (nI (m_mf)), .int (nI (m_mt)), .int m_mv, .int m_mw, .ref m_ywa, .ref m_ybi, .ref m_ysi, .ref m_ynu, .ref m_ymo])), (m_yt, .inl (cI, 7, .inl m_mq)), (m_ybi, .inl (cI, 4, .inl m_bi)), (m_ysi, .inl (cI, 4, .inl m_sq)), (m_ynu, .inl (cJ, 160, .inr (.inl m_nb))), (m_ymo, .inl (cJ, 40, .inr (.inl m_mv9))), (h0, .inr (8, [.ref qh, .ref qk, .ref qd, .int b0, .ref qa, .ref qm, .ref qs, .ref qp, .ref ql, .ref qt, .ref qz, .ref qf])), (qz, .inl (cS, 4, .inr (.inr (.inr (.inr (xSh s0 s1 s2 s3)))))), (s0, .inr (4, [.int bt0, .int (nI (sz0)), .ref sn0])), (s1, .inr (4, [.int bt1, .int (nI (sz1)), .ref sn1])), (s2, .inr (4, [.int bt2, .int (nI (sz2)), .ref sn2])), (s3, .inr (4, [.int bt3, .int (nI (sz3)), .ref sn3])), (sn0, .inl (cJ, 40, .inr (.inl nu0))), (sn1, .inl (cJ, 40, .inr (.inl nv_141))), (sn2, .inl (cJ, 40, .inr (.inl nu2))), (sn3, .inl (cJ, 40, .inr (.inl nu3))), (qf, .inl (cI, 7, .inl f2_142))] tl) := hD
      subst hw_r_140
      refine lv_aload_n hx hb dL_law_1307 rfl (lv_at hl 1 rfl) ?_
      refine lv_aload_n hx hb dL_law_1308 rfl (lv_at hl 3 rfl) ?_
      refine lv_iload_n hx hb dL_law_1309 rfl (lv_at hl 0 rfl) ?_
      refine lv_iconst (v := 1) hx hb dL_law_1310 (by decide) ?_
      refine lv_iadd hx hb dL_law_1311 ?_
      refine xl_i (y := nI (i + 1)) (nI_add i 1) ?_
      refine va_sld hx hb hX hbl hbA hS (x_si (k := 1) (by decide) hi hL) dL_law_1312 ?_
      refine xl_i (y := xs (i + 1)) (congrArg xs (x_sc (k := 1) (by decide) hi hL)) ?_
      refine xl_i (y := 2) eq1 ?_
      refine lv_aload_n hx hb dL_law_1313 rfl (lv_at hl 3 rfl) ?_
      refine lv_iload_n hx hb dL_law_1314 rfl (lv_at hl 0 rfl) ?_
      refine lv_iconst (v := 2) hx hb dL_law_1315 (by decide) ?_
      refine lv_iadd hx hb dL_law_1316 ?_
      refine xl_i (y := nI (i + 2)) (nI_add i 2) ?_
      refine va_sld hx hb hX hbl hbA hS (x_si (k := 2) (by decide) hi hL) dL_law_1317 ?_
      refine xl_i (y := xs (i + 2)) (congrArg xs (x_sc (k := 2) (by decide) hi hL)) ?_
      refine lv_aload_n hx hb dL_law_1318 rfl (lv_at hl 3 rfl) ?_
      refine lv_iload_n hx hb dL_law_1319 rfl (lv_at hl 0 rfl) ?_
      refine lv_iconst (v := 3) hx hb dL_law_1320 (by decide) ?_
      refine lv_iadd hx hb dL_law_1321 ?_
      refine xl_i (y := nI (i + 3)) (nI_add i 3) ?_
      refine va_sld hx hb hX hbl hbA hS (x_si (k := 3) (by decide) hi hL) dL_law_1322 ?_
      refine xl_i (y := xs (i + 3)) (congrArg xs (x_sc (k := 3) (by decide) hi hL)) ?_
      refine xl_i (y := 1) eq3 ?_
      refine lv_aload_n hx hb dL_law_1323 rfl (lv_at hl 3 rfl) ?_
      refine lv_iload_n hx hb dL_law_1324 rfl (lv_at hl 0 rfl) ?_
      refine lv_iconst (v := 4) hx hb dL_law_1325 (by decide) ?_
      refine lv_iadd hx hb dL_law_1326 ?_
      refine xl_i (y := nI (i + 4)) (nI_add i 4) ?_
      refine va_sld hx hb hX hbl hbA hS (x_si (k := 4) (by decide) hi hL) dL_law_1327 ?_
      refine xl_i (y := xs (i + 4)) (congrArg xs (x_sc (k := 4) (by decide) hi hL)) ?_
      refine lv_aload_n hx hb dL_law_1328 rfl (lv_at hl 3 rfl) ?_
      refine lv_iload_n hx hb dL_law_1329 rfl (lv_at hl 0 rfl) ?_
      refine lv_iconst (v := 5) hx hb dL_law_1330 (by decide) ?_
      refine lv_iadd hx hb dL_law_1331 ?_
      refine xl_i (y := nI (i + 5)) (nI_add i 5) ?_
      refine va_sld hx hb hX hbl hbA hS (x_si (k := 5) (by decide) hi hL) dL_law_1332 ?_
      refine xl_i (y := xs (i + 5)) (congrArg xs (x_sc (k := 5) (by decide) hi hL)) ?_
      refine xc_ViT (wr := [(h0, .inr (8, [.ref qh, .ref qk, .ref qd, .int b0, .ref qa, .ref qm, .ref qs, .ref qp, .ref ql, .ref qt, .ref qz, .ref qf])), (qz, .inl (cS, 4, .inr (.inr (.inr (.inr (xSh s0 s1 s2 s3)))))), (s0, .inr (4, [.int bt0, .int (nI (sz0)), .ref sn0])), (s1, .inr (4, [.int bt1, .int (nI (sz1)), .ref sn1])), (s2, .inr (4, [.int bt2, .int (nI (sz2)), .ref sn2])), (s3, .inr (4, [.int bt3, .int (nI (sz3)), .ref sn3])), (sn0, .inl (cJ, 40, .inr (.inl nu0))), (sn1, .inl (cJ, 40, .inr (.inl nv_141))), (sn2, .inl (cJ, 40, .inr (.inl nu2))), (sn3, .inl (cJ, 40, .inr (.inl nu3))), (qf, .inl (cI, 7, .inl f2_142))]) hF (c_X9_copy_21 l D cI cJ cZ cS ta sa sv H.size g0 m_ys m_yk m_yo m_yt b0 m_yfa m_yfe m_mL m_mS m_mM m_yro m_yhe m_ygr m_mF m_mC m_mY m_yta z m_mf m_mt m_mv m_mw m_ywa m_ybi m_ysi m_ynu m_ymo m_bi m_sq m_nb m_mv9 m_mq (xs (i + 2)) (xs (i + 4)) (xs (i + 5)) sz2 sz1 r_z2 hsz2 r_z1 hsz1 m_hsq) kv_L_170 ⟨rfl, rfl, Nat.le_of_ble_eq_true rfl, Nat.le_of_ble_eq_true rfl⟩ ⟨Nat.le_of_ble_eq_true rfl, Nat.le_of_ble_eq_true rfl⟩ hK hN hZ hP hD hS hA [0, 2, 3, 4, 5, 1] [6, 7, 8, 9, 10, 11, 12, 13, 14, 15, 16] rfl rfl (by decide +kernel) (by decide +kernel) (by decide +kernel) 0 rfl rfl rfl rfl hl.1 rfl (Nat.le_of_ble_eq_true rfl) dL_law_1333 (fun r_144 u_r_144 H locs hw_r_144 hP hD hS => ?_)
      obtain ⟨nb2_145, mv2_146, mq2_147⟩ := u_r_144
      try dsimp only at hw_r_144
      obtain ⟨hw_r_144, i_148, i_149⟩ := hw_r_144
      have hP : va_P D vwCl (@HAppend.hAppend va_W va_W va_W _ [(h0, .inr (8, [.ref qh, .ref qk, .ref qd, .int b0, .ref qa, .ref qm, .ref qs, .ref qp, .ref ql, .ref qt, .ref qz, .ref qf])), (qz, .inl (cS, 4, .inr (.inr (.inr (.inr (xSh s0 s1 s2 s3)))))), (s0, .inr (4, [.int bt0, .int (nI (sz0)), .ref sn0])), (s1, .inr (4, [.int bt1, .int (nI (sz1)), .ref sn1])), (s2, .inr (4, [.int bt2, .int (nI (sz2)), .ref sn2])), (s3, .inr (4, [.int bt3, .int (nI (sz3)), .ref sn3])), (sn0, .inl (cJ, 40, .inr (.inl nu0))), (sn1, .inl (cJ, 40, .inr (.inl nv_141))), (sn2, .inl (cJ, 40, .inr (.inl nu2))), (sn3, .inl (cJ, 40, .inr (.inl nu3))), (qf, .inl (cI, 7, .inl f2_142)), (g0, .inr (9, [.ref m_ys, .ref m_yk, .ref m_yo, .ref m_yt, .int b0, .ref m_yfa, .ref m_yfe, .int m_mL, .int m_mS, .int m_mM, .ref m_yro, .ref m_yhe, .ref m_ygr, .int m_mF, .int m_mC, .int m_mY, .ref m_yta, .int (nI (z)), .int (nI (m_mf)), .int (nI (m_mt)), .int m_mv, .int m_mw, .ref m_ywa, .ref m_ybi, .ref m_ysi, .ref m_ynu, .ref m_ymo])), (m_ybi, .inl (cI, 4, .inl m_bi)), (m_ysi, .inl (cI, 4, .inl m_sq)), (m_ynu, .inl (cJ, 160, .inr (.inl nb2_145))), (m_ymo, .inl (cJ, 40, .inr (.inl mv2_146))), (m_yt, .inl (cI, 7, .inl mq2_147))] tl) H := hP
      have hD : va_D A (@HAppend.hAppend va_W va_W va_W _ [(h0, .inr (8, [.ref qh, .ref qk, .ref qd, .int b0, .ref qa, .ref qm, .ref qs, .ref qp, .ref ql, .ref qt, .ref qz, .ref qf])), (qz, .inl (cS, 4, .inr (.inr (.inr (.inr (xSh s0 s1 s2 s3)))))), (s0, .inr (4, [.int bt0, .int (nI (sz0)), .ref sn0])), (s1, .inr (4, [.int bt1, .int (nI (sz1)), .ref sn1])), (s2, .inr (4, [.int bt2, .int (nI (sz2)), .ref sn2])), (s3, .inr (4, [.int bt3, .int (nI (sz3)), .ref sn3])), (sn0, .inl (cJ, 40, .inr (.inl nu0))), (sn1, .inl (cJ, 40, .inr (.inl nv_141))), (sn2, .inl (cJ, 40, .inr (.inl nu2))), (sn3, .inl (cJ, 40, .inr (.inl nu3))), (qf, .inl (cI, 7, .inl f2_142)), (g0, .inr (9, [.ref m_ys, .ref m_yk, .ref m_yo, .ref m_yt, .int b0, .ref m_yfa, .ref m_yfe, .int m_mL, .int m_mS, .int m_mM, .ref m_yro, .ref m_yhe, .ref m_ygr, .int m_mF, .int m_mC, .int m_mY, .ref m_yta, .int (nI (z)), .int (nI (m_mf)), .int (nI (m_mt)), .int m_mv, .int m_mw, .ref m_ywa, .ref m_ybi, .ref m_ysi, .ref m_ynu, .ref m_ymo])), (m_ybi, .inl (cI, 4, .inl m_bi)), (m_ysi, .inl (cI, 4, .inl m_sq)), (m_ynu, .inl (cJ, 160, .inr (.inl nb2_145))), (m_ymo, .inl (cJ, 40, .inr (.inl mv2_146))), (m_yt, .inl (cI, 7, .inl mq2_147))] tl) := hD
      subst hw_r_144
      refine lv_icmp_eq (tgt := 1482) hx hb dL_law_1336 (by decide) (fun c_150 => ?_) (fun c_150 => absurd (sp_creq r_b2 r_b1) c_150)
      exact kkx _ _ _ nu0 nv_141 nu2 nu3 f2_142 mq2_147 nb2_145 mv2_146 (xt_P hP [0, 1, 2, 3, 4, 5, 6, 7, 8, 9, 10, 11, 16, 12, 13, 14, 15] rfl) (xt_D hD [0, 1, 2, 3, 4, 5, 6, 7, 8, 9, 10, 11, 16, 12, 13, 14, 15] (by decide +kernel) rfl) (fun j hj => (i_149 (0 + j) (by omega)).trans (r_n0 j hj)) (fun j hj => (i_148 j).trans ((sp_cneq r_b2 r_b1 r_n2 (by omega) (r_n1 j hj)).trans (i_143 j).symm)) (fun j hj => (i_149 (80 + j) (by omega)).trans (r_n2 j hj)) (fun j hj => (i_149 (120 + j) (by omega)).trans (r_n3 j hj)) hS hl
    · skip
      refine lv_aload_n hx hb dL_law_1279 rfl (lv_at hl 3 rfl) ?_
      refine lv_iload_n hx hb dL_law_1280 rfl (lv_at hl 0 rfl) ?_
      refine lv_iconst (v := 1) hx hb dL_law_1281 (by decide) ?_
      refine lv_iadd hx hb dL_law_1282 ?_
      refine xl_i (y := nI (i + 1)) (nI_add i 1) ?_
      refine va_sld hx hb hX hbl hbA hS (x_si (k := 1) (by decide) hi hL) dL_law_1283 ?_
      refine xl_i (y := xs (i + 1)) (congrArg xs (x_sc (k := 1) (by decide) hi hL)) ?_
      refine xl_i (y := 2) eq1 ?_
      refine lv_aload_n hx hb dL_law_1284 rfl (lv_at hl 3 rfl) ?_
      refine lv_iload_n hx hb dL_law_1285 rfl (lv_at hl 0 rfl) ?_
      refine lv_iconst (v := 2) hx hb dL_law_1286 (by decide) ?_
      refine lv_iadd hx hb dL_law_1287 ?_
      refine xl_i (y := nI (i + 2)) (nI_add i 2) ?_
      refine va_sld hx hb hX hbl hbA hS (x_si (k := 2) (by decide) hi hL) dL_law_1288 ?_
      refine xl_i (y := xs (i + 2)) (congrArg xs (x_sc (k := 2) (by decide) hi hL)) ?_
      refine lv_aload_n hx hb dL_law_1289 rfl (lv_at hl 3 rfl) ?_
      refine lv_iload_n hx hb dL_law_1290 rfl (lv_at hl 0 rfl) ?_
      refine lv_iconst (v := 3) hx hb dL_law_1291 (by decide) ?_
      refine lv_iadd hx hb dL_law_1292 ?_
      refine xl_i (y := nI (i + 3)) (nI_add i 3) ?_
      refine va_sld hx hb hX hbl hbA hS (x_si (k := 3) (by decide) hi hL) dL_law_1293 ?_
      refine xl_i (y := xs (i + 3)) (congrArg xs (x_sc (k := 3) (by decide) hi hL)) ?_
      refine xl_i (y := 2) eq3 ?_
      refine lv_aload_n hx hb dL_law_1294 rfl (lv_at hl 3 rfl) ?_
      refine lv_iload_n hx hb dL_law_1295 rfl (lv_at hl 0 rfl) ?_
      refine lv_iconst (v := 4) hx hb dL_law_1296 (by decide) ?_
      refine lv_iadd hx hb dL_law_1297 ?_
      refine xl_i (y := nI (i + 4)) (nI_add i 4) ?_
      refine va_sld hx hb hX hbl hbA hS (x_si (k := 4) (by decide) hi hL) dL_law_1298 ?_
      refine xl_i (y := xs (i + 4)) (congrArg xs (x_sc (k := 4) (by decide) hi hL)) ?_
      refine lv_aload_n hx hb dL_law_1299 rfl (lv_at hl 3 rfl) ?_
      refine lv_iload_n hx hb dL_law_1300 rfl (lv_at hl 0 rfl) ?_
      refine lv_iconst (v := 5) hx hb dL_law_1301 (by decide) ?_
      refine lv_iadd hx hb dL_law_1302 ?_
      refine xl_i (y := nI (i + 5)) (nI_add i 5) ?_
      refine va_sld hx hb hX hbl hbA hS (x_si (k := 5) (by decide) hi hL) dL_law_1303 ?_
      refine xl_i (y := xs (i + 5)) (congrArg xs (x_sc (k := 5) (by decide) hi hL)) ?_
      refine xc_ViT (wr := [(g0, .inr (9, [.ref m_ys, .ref m_yk, .ref m_yo, .ref m_yt, .int b0, .ref m_yfa, .ref m_yfe, .int m_mL, .int m_mS, .int m_mM, .ref m_yro, .ref m_yhe, .ref m_ygr, .int m_mF, .int m_mC, .int m_mY, .ref m_yta, .int (nI (z)), .int (nI (m_mf)), .int (nI (m_mt)), .int m_mv, .int m_mw, .ref m_ywa, .ref m_ybi, .ref m_ysi, .ref m_ynu, .ref m_ymo])), (m_yt, .inl (cI, 7, .inl m_mq)), (m_ybi, .inl (cI, 4, .inl m_bi)), (m_ysi, .inl (cI, 4, .inl m_sq)), (m_ynu, .inl (cJ, 160, .inr (.inl m_nb))), (m_ymo, .inl (cJ, 40, .inr (.inl m_mv9)))]) hF (c_X8_copy_22 l D cI cJ cZ cS ta sa sv H.size h0 qh qk qd b0 qa qm qs qp ql qt qz qf s0 s1 s2 s3 bt0 sz0 sn0 bt1 sz1 sn1 bt2 sz2 sn2 bt3 sz3 sn3 nu0 nu1 nu2 nu3 ff (xs (i + 2)) (xs (i + 4)) (xs (i + 5)) hsz0 hsz1 hsz2 hsz3) kv_L_166 ⟨rfl, rfl, Nat.le_of_ble_eq_true rfl, Nat.le_of_ble_eq_true rfl⟩ ⟨Nat.le_of_ble_eq_true rfl, Nat.le_of_ble_eq_true rfl⟩ hK hN hZ hP hD hS hA [0, 1, 2, 3, 4, 5, 6, 7, 8, 9, 10] [11, 12, 13, 14, 15, 16] rfl rfl (by decide +kernel) (by decide +kernel) (by decide +kernel) 0 rfl rfl rfl rfl hl.1 rfl (Nat.le_of_ble_eq_true rfl) dL_law_1304 (fun r_151 u_r_151 H locs hw_r_151 hP hD hS => ?_)
      obtain ⟨nv_152, f2_153⟩ := u_r_151
      try dsimp only at hw_r_151
      obtain ⟨hw_r_151, i_154⟩ := hw_r_151
      have hP : va_P D vwCl (@HAppend.hAppend va_W va_W va_W _ [(g0, .inr (9, [.ref m_ys, .ref m_yk, .ref m_yo, .ref m_yt, .int b0, .ref m_yfa, .ref m_yfe, .int m_mL, .int m_mS, .int m_mM, .ref m_yro, .ref m_yhe, .ref m_ygr, .int m_mF, .int m_mC, .int m_mY, .ref m_yta, .int (nI (z)), .int (nI (m_mf)), .int (nI (m_mt)), .int m_mv, .int m_mw, .ref m_ywa, .ref m_ybi, .ref m_ysi, .ref m_ynu, .ref m_ymo])), (m_yt, .inl (cI, 7, .inl m_mq)), (m_ybi, .inl (cI, 4, .inl m_bi)), (m_ysi, .inl (cI, 4, .inl m_sq)), (m_ynu, .inl (cJ, 160, .inr (.inl m_nb))), (m_ymo, .inl (cJ, 40, .inr (.inl m_mv9))), (h0, .inr (8, [.ref qh, .ref qk, .ref qd, .int b0, .ref qa, .ref qm, .ref qs, .ref qp, .ref ql, .ref qt, .ref qz, .ref qf])), (qz, .inl (cS, 4, .inr (.inr (.inr (.inr (xSh s0 s1 s2 s3)))))), (s0, .inr (4, [.int bt0, .int (nI (sz0)), .ref sn0])), (s1, .inr (4, [.int bt1, .int (nI (sz1)), .ref sn1])), (s2, .inr (4, [.int bt2, .int (nI (sz2)), .ref sn2])), (s3, .inr (4, [.int bt3, .int (nI (sz3)), .ref sn3])), (sn0, .inl (cJ, 40, .inr (.inl nu0))), (sn1, .inl (cJ, 40, .inr (.inl nu1))), (sn2, .inl (cJ, 40, .inr (.inl nv_152))), (sn3, .inl (cJ, 40, .inr (.inl nu3))), (qf, .inl (cI, 7, .inl f2_153))] tl) H := hP
      have hD : va_D A (@HAppend.hAppend va_W va_W va_W _ [(g0, .inr (9, [.ref m_ys, .ref m_yk, .ref m_yo, .ref m_yt, .int b0, .ref m_yfa, .ref m_yfe, .int m_mL, .int m_mS, .int m_mM, .ref m_yro, .ref m_yhe, .ref m_ygr, .int m_mF, .int m_mC, .int m_mY, .ref m_yta, .int (nI (z)), .int (nI (m_mf)), .int (nI (m_mt)), .int m_mv, .int m_mw, .ref m_ywa, .ref m_ybi, .ref m_ysi, .ref m_ynu, .ref m_ymo])), (m_yt, .inl (cI, 7, .inl m_mq)), (m_ybi, .inl (cI, 4, .inl m_bi)), (m_ysi, .inl (cI, 4, .inl m_sq)), (m_ynu, .inl (cJ, 160, .inr (.inl m_nb))), (m_ymo, .inl (cJ, 40, .inr (.inl m_mv9))), (h0, .inr (8, [.ref qh, .ref qk, .ref qd, .int b0, .ref qa, .ref qm, .ref qs, .ref qp, .ref ql, .ref qt, .ref qz, .ref qf])), (qz, .inl (cS, 4, .inr (.inr (.inr (.inr (xSh s0 s1 s2 s3)))))), (s0, .inr (4, [.int bt0, .int (nI (sz0)), .ref sn0])), (s1, .inr (4, [.int bt1, .int (nI (sz1)), .ref sn1])), (s2, .inr (4, [.int bt2, .int (nI (sz2)), .ref sn2])), (s3, .inr (4, [.int bt3, .int (nI (sz3)), .ref sn3])), (sn0, .inl (cJ, 40, .inr (.inl nu0))), (sn1, .inl (cJ, 40, .inr (.inl nu1))), (sn2, .inl (cJ, 40, .inr (.inl nv_152))), (sn3, .inl (cJ, 40, .inr (.inl nu3))), (qf, .inl (cI, 7, .inl f2_153))] tl) := hD
      subst hw_r_151
      refine lv_aload_n hx hb dL_law_1307 rfl (lv_at hl 1 rfl) ?_
      refine lv_aload_n hx hb dL_law_1308 rfl (lv_at hl 3 rfl) ?_
      refine lv_iload_n hx hb dL_law_1309 rfl (lv_at hl 0 rfl) ?_
      refine lv_iconst (v := 1) hx hb dL_law_1310 (by decide) ?_
      refine lv_iadd hx hb dL_law_1311 ?_
      refine xl_i (y := nI (i + 1)) (nI_add i 1) ?_
      refine va_sld hx hb hX hbl hbA hS (x_si (k := 1) (by decide) hi hL) dL_law_1312 ?_
      refine xl_i (y := xs (i + 1)) (congrArg xs (x_sc (k := 1) (by decide) hi hL)) ?_
      refine xl_i (y := 2) eq1 ?_
      refine lv_aload_n hx hb dL_law_1313 rfl (lv_at hl 3 rfl) ?_
      refine lv_iload_n hx hb dL_law_1314 rfl (lv_at hl 0 rfl) ?_
      refine lv_iconst (v := 2) hx hb dL_law_1315 (by decide) ?_
      refine lv_iadd hx hb dL_law_1316 ?_
      refine xl_i (y := nI (i + 2)) (nI_add i 2) ?_
      refine va_sld hx hb hX hbl hbA hS (x_si (k := 2) (by decide) hi hL) dL_law_1317 ?_
      refine xl_i (y := xs (i + 2)) (congrArg xs (x_sc (k := 2) (by decide) hi hL)) ?_
      refine lv_aload_n hx hb dL_law_1318 rfl (lv_at hl 3 rfl) ?_
      refine lv_iload_n hx hb dL_law_1319 rfl (lv_at hl 0 rfl) ?_
      refine lv_iconst (v := 3) hx hb dL_law_1320 (by decide) ?_
      refine lv_iadd hx hb dL_law_1321 ?_
      refine xl_i (y := nI (i + 3)) (nI_add i 3) ?_
      refine va_sld hx hb hX hbl hbA hS (x_si (k := 3) (by decide) hi hL) dL_law_1322 ?_
      refine xl_i (y := xs (i + 3)) (congrArg xs (x_sc (k := 3) (by decide) hi hL)) ?_
      refine xl_i (y := 2) eq3 ?_
      refine lv_aload_n hx hb dL_law_1323 rfl (lv_at hl 3 rfl) ?_
      refine lv_iload_n hx hb dL_law_1324 rfl (lv_at hl 0 rfl) ?_
      refine lv_iconst (v := 4) hx hb dL_law_1325 (by decide) ?_
      refine lv_iadd hx hb dL_law_1326 ?_
      refine xl_i (y := nI (i + 4)) (nI_add i 4) ?_
      refine va_sld hx hb hX hbl hbA hS (x_si (k := 4) (by decide) hi hL) dL_law_1327 ?_
      refine xl_i (y := xs (i + 4)) (congrArg xs (x_sc (k := 4) (by decide) hi hL)) ?_
      refine lv_aload_n hx hb dL_law_1328 rfl (lv_at hl 3 rfl) ?_
      refine lv_iload_n hx hb dL_law_1329 rfl (lv_at hl 0 rfl) ?_
      refine lv_iconst (v := 5) hx hb dL_law_1330 (by decide) ?_
      refine lv_iadd hx hb dL_law_1331 ?_
      refine xl_i (y := nI (i + 5)) (nI_add i 5) ?_
      refine va_sld hx hb hX hbl hbA hS (x_si (k := 5) (by decide) hi hL) dL_law_1332 ?_
      refine xl_i (y := xs (i + 5)) (congrArg xs (x_sc (k := 5) (by decide) hi hL)) ?_
      refine xc_ViT (wr := [(h0, .inr (8, [.ref qh, .ref qk, .ref qd, .int b0, .ref qa, .ref qm, .ref qs, .ref qp, .ref ql, .ref qt, .ref qz, .ref qf])), (qz, .inl (cS, 4, .inr (.inr (.inr (.inr (xSh s0 s1 s2 s3)))))), (s0, .inr (4, [.int bt0, .int (nI (sz0)), .ref sn0])), (s1, .inr (4, [.int bt1, .int (nI (sz1)), .ref sn1])), (s2, .inr (4, [.int bt2, .int (nI (sz2)), .ref sn2])), (s3, .inr (4, [.int bt3, .int (nI (sz3)), .ref sn3])), (sn0, .inl (cJ, 40, .inr (.inl nu0))), (sn1, .inl (cJ, 40, .inr (.inl nu1))), (sn2, .inl (cJ, 40, .inr (.inl nv_152))), (sn3, .inl (cJ, 40, .inr (.inl nu3))), (qf, .inl (cI, 7, .inl f2_153))]) hF (c_X9_copy_22 l D cI cJ cZ cS ta sa sv H.size g0 m_ys m_yk m_yo m_yt b0 m_yfa m_yfe m_mL m_mS m_mM m_yro m_yhe m_ygr m_mF m_mC m_mY m_yta z m_mf m_mt m_mv m_mw m_ywa m_ybi m_ysi m_ynu m_ymo m_bi m_sq m_nb m_mv9 m_mq (xs (i + 2)) (xs (i + 4)) (xs (i + 5)) sz2 sz2 r_z2 hsz2 r_z2 hsz2 m_hsq) kv_L_170 ⟨rfl, rfl, Nat.le_of_ble_eq_true rfl, Nat.le_of_ble_eq_true rfl⟩ ⟨Nat.le_of_ble_eq_true rfl, Nat.le_of_ble_eq_true rfl⟩ hK hN hZ hP hD hS hA [0, 2, 3, 4, 5, 1] [6, 7, 8, 9, 10, 11, 12, 13, 14, 15, 16] rfl rfl (by decide +kernel) (by decide +kernel) (by decide +kernel) 0 rfl rfl rfl rfl hl.1 rfl (Nat.le_of_ble_eq_true rfl) dL_law_1333 (fun r_155 u_r_155 H locs hw_r_155 hP hD hS => ?_)
      obtain ⟨nb2_156, mv2_157, mq2_158⟩ := u_r_155
      try dsimp only at hw_r_155
      obtain ⟨hw_r_155, i_159, i_160⟩ := hw_r_155
      have hP : va_P D vwCl (@HAppend.hAppend va_W va_W va_W _ [(h0, .inr (8, [.ref qh, .ref qk, .ref qd, .int b0, .ref qa, .ref qm, .ref qs, .ref qp, .ref ql, .ref qt, .ref qz, .ref qf])), (qz, .inl (cS, 4, .inr (.inr (.inr (.inr (xSh s0 s1 s2 s3)))))), (s0, .inr (4, [.int bt0, .int (nI (sz0)), .ref sn0])), (s1, .inr (4, [.int bt1, .int (nI (sz1)), .ref sn1])), (s2, .inr (4, [.int bt2, .int (nI (sz2)), .ref sn2])), (s3, .inr (4, [.int bt3, .int (nI (sz3)), .ref sn3])), (sn0, .inl (cJ, 40, .inr (.inl nu0))), (sn1, .inl (cJ, 40, .inr (.inl nu1))), (sn2, .inl (cJ, 40, .inr (.inl nv_152))), (sn3, .inl (cJ, 40, .inr (.inl nu3))), (qf, .inl (cI, 7, .inl f2_153)), (g0, .inr (9, [.ref m_ys, .ref m_yk, .ref m_yo, .ref m_yt, .int b0, .ref m_yfa, .ref m_yfe, .int m_mL, .int m_mS, .int m_mM, .ref m_yro, .ref m_yhe, .ref m_ygr, .int m_mF, .int m_mC, .int m_mY, .ref m_yta, .int (nI (z)), .int (nI (m_mf)), .int (nI (m_mt)), .int m_mv, .int m_mw, .ref m_ywa, .ref m_ybi, .ref m_ysi, .ref m_ynu, .ref m_ymo])), (m_ybi, .inl (cI, 4, .inl m_bi)), (m_ysi, .inl (cI, 4, .inl m_sq)), (m_ynu, .inl (cJ, 160, .inr (.inl nb2_156))), (m_ymo, .inl (cJ, 40, .inr (.inl mv2_157))), (m_yt, .inl (cI, 7, .inl mq2_158))] tl) H := hP
      have hD : va_D A (@HAppend.hAppend va_W va_W va_W _ [(h0, .inr (8, [.ref qh, .ref qk, .ref qd, .int b0, .ref qa, .ref qm, .ref qs, .ref qp, .ref ql, .ref qt, .ref qz, .ref qf])), (qz, .inl (cS, 4, .inr (.inr (.inr (.inr (xSh s0 s1 s2 s3)))))), (s0, .inr (4, [.int bt0, .int (nI (sz0)), .ref sn0])), (s1, .inr (4, [.int bt1, .int (nI (sz1)), .ref sn1])), (s2, .inr (4, [.int bt2, .int (nI (sz2)), .ref sn2])), (s3, .inr (4, [.int bt3, .int (nI (sz3)), .ref sn3])), (sn0, .inl (cJ, 40, .inr (.inl nu0))), (sn1, .inl (cJ, 40, .inr (.inl nu1))), (sn2, .inl (cJ, 40, .inr (.inl nv_152))), (sn3, .inl (cJ, 40, .inr (.inl nu3))), (qf, .inl (cI, 7, .inl f2_153)), (g0, .inr (9, [.ref m_ys, .ref m_yk, .ref m_yo, .ref m_yt, .int b0, .ref m_yfa, .ref m_yfe, .int m_mL, .int m_mS, .int m_mM, .ref m_yro, .ref m_yhe, .ref m_ygr, .int m_mF, .int m_mC, .int m_mY, .ref m_yta, .int (nI (z)), .int (nI (m_mf)), .int (nI (m_mt)), .int m_mv, .int m_mw, .ref m_ywa, .ref m_ybi, .ref m_ysi, .ref m_ynu, .ref m_ymo])), (m_ybi, .inl (cI, 4, .inl m_bi)), (m_ysi, .inl (cI, 4, .inl m_sq)), (m_ynu, .inl (cJ, 160, .inr (.inl nb2_156))), (m_ymo, .inl (cJ, 40, .inr (.inl mv2_157))), (m_yt, .inl (cI, 7, .inl mq2_158))] tl) := hD
      subst hw_r_155
      refine lv_icmp_eq (tgt := 1482) hx hb dL_law_1336 (by decide) (fun c_161 => ?_) (fun c_161 => absurd (sp_creq r_b2 r_b2) c_161)
      exact kkx _ _ _ nu0 nu1 nv_152 nu3 f2_153 mq2_158 nb2_156 mv2_157 (xt_P hP [0, 1, 2, 3, 4, 5, 6, 7, 8, 9, 10, 11, 16, 12, 13, 14, 15] rfl) (xt_D hD [0, 1, 2, 3, 4, 5, 6, 7, 8, 9, 10, 11, 16, 12, 13, 14, 15] (by decide +kernel) rfl) (fun j hj => (i_160 (0 + j) (by omega)).trans (r_n0 j hj)) (fun j hj => (i_160 (40 + j) (by omega)).trans (r_n1 j hj)) (fun j hj => (i_159 j).trans ((sp_cneq r_b2 r_b2 r_n2 (by omega) (r_n2 j hj)).trans (i_154 j).symm)) (fun j hj => (i_160 (120 + j) (by omega)).trans (r_n3 j hj)) hS hl
    · skip
      refine lv_aload_n hx hb dL_law_1279 rfl (lv_at hl 3 rfl) ?_
      refine lv_iload_n hx hb dL_law_1280 rfl (lv_at hl 0 rfl) ?_
      refine lv_iconst (v := 1) hx hb dL_law_1281 (by decide) ?_
      refine lv_iadd hx hb dL_law_1282 ?_
      refine xl_i (y := nI (i + 1)) (nI_add i 1) ?_
      refine va_sld hx hb hX hbl hbA hS (x_si (k := 1) (by decide) hi hL) dL_law_1283 ?_
      refine xl_i (y := xs (i + 1)) (congrArg xs (x_sc (k := 1) (by decide) hi hL)) ?_
      refine xl_i (y := 2) eq1 ?_
      refine lv_aload_n hx hb dL_law_1284 rfl (lv_at hl 3 rfl) ?_
      refine lv_iload_n hx hb dL_law_1285 rfl (lv_at hl 0 rfl) ?_
      refine lv_iconst (v := 2) hx hb dL_law_1286 (by decide) ?_
      refine lv_iadd hx hb dL_law_1287 ?_
      refine xl_i (y := nI (i + 2)) (nI_add i 2) ?_
      refine va_sld hx hb hX hbl hbA hS (x_si (k := 2) (by decide) hi hL) dL_law_1288 ?_
      refine xl_i (y := xs (i + 2)) (congrArg xs (x_sc (k := 2) (by decide) hi hL)) ?_
      refine lv_aload_n hx hb dL_law_1289 rfl (lv_at hl 3 rfl) ?_
      refine lv_iload_n hx hb dL_law_1290 rfl (lv_at hl 0 rfl) ?_
      refine lv_iconst (v := 3) hx hb dL_law_1291 (by decide) ?_
      refine lv_iadd hx hb dL_law_1292 ?_
      refine xl_i (y := nI (i + 3)) (nI_add i 3) ?_
      refine va_sld hx hb hX hbl hbA hS (x_si (k := 3) (by decide) hi hL) dL_law_1293 ?_
      refine xl_i (y := xs (i + 3)) (congrArg xs (x_sc (k := 3) (by decide) hi hL)) ?_
      refine xl_i (y := 3) eq3 ?_
      refine lv_aload_n hx hb dL_law_1294 rfl (lv_at hl 3 rfl) ?_
      refine lv_iload_n hx hb dL_law_1295 rfl (lv_at hl 0 rfl) ?_
      refine lv_iconst (v := 4) hx hb dL_law_1296 (by decide) ?_
      refine lv_iadd hx hb dL_law_1297 ?_
      refine xl_i (y := nI (i + 4)) (nI_add i 4) ?_
      refine va_sld hx hb hX hbl hbA hS (x_si (k := 4) (by decide) hi hL) dL_law_1298 ?_
      refine xl_i (y := xs (i + 4)) (congrArg xs (x_sc (k := 4) (by decide) hi hL)) ?_
      refine lv_aload_n hx hb dL_law_1299 rfl (lv_at hl 3 rfl) ?_
      refine lv_iload_n hx hb dL_law_1300 rfl (lv_at hl 0 rfl) ?_
      refine lv_iconst (v := 5) hx hb dL_law_1301 (by decide) ?_
      refine lv_iadd hx hb dL_law_1302 ?_
      refine xl_i (y := nI (i + 5)) (nI_add i 5) ?_
      refine va_sld hx hb hX hbl hbA hS (x_si (k := 5) (by decide) hi hL) dL_law_1303 ?_
      refine xl_i (y := xs (i + 5)) (congrArg xs (x_sc (k := 5) (by decide) hi hL)) ?_
      refine xc_ViT (wr := [(g0, .inr (9, [.ref m_ys, .ref m_yk, .ref m_yo, .ref m_yt, .int b0, .ref m_yfa, .ref m_yfe, .int m_mL, .int m_mS, .int m_mM, .ref m_yro, .ref m_yhe, .ref m_ygr, .int m_mF, .int m_mC, .int m_mY, .ref m_yta, .int (nI (z)), .int (nI (m_mf)), .int (nI (m_mt)), .int m_mv, .int m_mw, .ref m_ywa, .ref m_ybi, .ref m_ysi, .ref m_ynu, .ref m_ymo])), (m_yt, .inl (cI, 7, .inl m_mq)), (m_ybi, .inl (cI, 4, .inl m_bi)), (m_ysi, .inl (cI, 4, .inl m_sq)), (m_ynu, .inl (cJ, 160, .inr (.inl m_nb))), (m_ymo, .inl (cJ, 40, .inr (.inl m_mv9)))]) hF (c_X8_copy_23 l D cI cJ cZ cS ta sa sv H.size h0 qh qk qd b0 qa qm qs qp ql qt qz qf s0 s1 s2 s3 bt0 sz0 sn0 bt1 sz1 sn1 bt2 sz2 sn2 bt3 sz3 sn3 nu0 nu1 nu2 nu3 ff (xs (i + 2)) (xs (i + 4)) (xs (i + 5)) hsz0 hsz1 hsz2 hsz3) kv_L_166 ⟨rfl, rfl, Nat.le_of_ble_eq_true rfl, Nat.le_of_ble_eq_true rfl⟩ ⟨Nat.le_of_ble_eq_true rfl, Nat.le_of_ble_eq_true rfl⟩ hK hN hZ hP hD hS hA [0, 1, 2, 3, 4, 5, 6, 7, 8, 9, 10] [11, 12, 13, 14, 15, 16] rfl rfl (by decide +kernel) (by decide +kernel) (by decide +kernel) 0 rfl rfl rfl rfl hl.1 rfl (Nat.le_of_ble_eq_true rfl) dL_law_1304 (fun r_162 u_r_162 H locs hw_r_162 hP hD hS => ?_)
      obtain ⟨nv_163, f2_164⟩ := u_r_162
      try dsimp only at hw_r_162
      obtain ⟨hw_r_162, i_165⟩ := hw_r_162
      have hP : va_P D vwCl (@HAppend.hAppend va_W va_W va_W _ [(g0, .inr (9, [.ref m_ys, .ref m_yk, .ref m_yo, .ref m_yt, .int b0, .ref m_yfa, .ref m_yfe, .int m_mL, .int m_mS, .int m_mM, .ref m_yro, .ref m_yhe, .ref m_ygr, .int m_mF, .int m_mC, .int m_mY, .ref m_yta, .int (nI (z)), .int (nI (m_mf)), .int (nI (m_mt)), .int m_mv, .int m_mw, .ref m_ywa, .ref m_ybi, .ref m_ysi, .ref m_ynu, .ref m_ymo])), (m_yt, .inl (cI, 7, .inl m_mq)), (m_ybi, .inl (cI, 4, .inl m_bi)), (m_ysi, .inl (cI, 4, .inl m_sq)), (m_ynu, .inl (cJ, 160, .inr (.inl m_nb))), (m_ymo, .inl (cJ, 40, .inr (.inl m_mv9))), (h0, .inr (8, [.ref qh, .ref qk, .ref qd, .int b0, .ref qa, .ref qm, .ref qs, .ref qp, .ref ql, .ref qt, .ref qz, .ref qf])), (qz, .inl (cS, 4, .inr (.inr (.inr (.inr (xSh s0 s1 s2 s3)))))), (s0, .inr (4, [.int bt0, .int (nI (sz0)), .ref sn0])), (s1, .inr (4, [.int bt1, .int (nI (sz1)), .ref sn1])), (s2, .inr (4, [.int bt2, .int (nI (sz2)), .ref sn2])), (s3, .inr (4, [.int bt3, .int (nI (sz3)), .ref sn3])), (sn0, .inl (cJ, 40, .inr (.inl nu0))), (sn1, .inl (cJ, 40, .inr (.inl nu1))), (sn2, .inl (cJ, 40, .inr (.inl nu2))), (sn3, .inl (cJ, 40, .inr (.inl nv_163))), (qf, .inl (cI, 7, .inl f2_164))] tl) H := hP
      have hD : va_D A (@HAppend.hAppend va_W va_W va_W _ [(g0, .inr (9, [.ref m_ys, .ref m_yk, .ref m_yo, .ref m_yt, .int b0, .ref m_yfa, .ref m_yfe, .int m_mL, .int m_mS, .int m_mM, .ref m_yro, .ref m_yhe, .ref m_ygr, .int m_mF, .int m_mC, .int m_mY, .ref m_yta, .int (nI (z)), .int (nI (m_mf)), .int (nI (m_mt)), .int m_mv, .int m_mw, .ref m_ywa, .ref m_ybi, .ref m_ysi, .ref m_ynu, .ref m_ymo])), (m_yt, .inl (cI, 7, .inl m_mq)), (m_ybi, .inl (cI, 4, .inl m_bi)), (m_ysi, .inl (cI, 4, .inl m_sq)), (m_ynu, .inl (cJ, 160, .inr (.inl m_nb))), (m_ymo, .inl (cJ, 40, .inr (.inl m_mv9))), (h0, .inr (8, [.ref qh, .ref qk, .ref qd, .int b0, .ref qa, .ref qm, .ref qs, .ref qp, .ref ql, .ref qt, .ref qz, .ref qf])), (qz, .inl (cS, 4, .inr (.inr (.inr (.inr (xSh s0 s1 s2 s3)))))), (s0, .inr (4, [.int bt0, .int (nI (sz0)), .ref sn0])), (s1, .inr (4, [.int bt1, .int (nI (sz1)), .ref sn1])), (s2, .inr (4, [.int bt2, .int (nI (sz2)), .ref sn2])), (s3, .inr (4, [.int bt3, .int (nI (sz3)), .ref sn3])), (sn0, .inl (cJ, 40, .inr (.inl nu0))), (sn1, .inl (cJ, 40, .inr (.inl nu1))), (sn2, .inl (cJ, 40, .inr (.inl nu2))), (sn3, .inl (cJ, 40, .inr (.inl nv_163))), (qf, .inl (cI, 7, .inl f2_164))] tl) := hD
      subst hw_r_162
      refine lv_aload_n hx hb dL_law_1307 rfl (lv_at hl 1 rfl) ?_
      refine lv_aload_n hx hb dL_law_1308 rfl (lv_at hl 3 rfl) ?_
      refine lv_iload_n hx hb dL_law_1309 rfl (lv_at hl 0 rfl) ?_
      refine lv_iconst (v := 1) hx hb dL_law_1310 (by decide) ?_
      refine lv_iadd hx hb dL_law_1311 ?_
      refine xl_i (y := nI (i + 1)) (nI_add i 1) ?_
      refine va_sld hx hb hX hbl hbA hS (x_si (k := 1) (by decide) hi hL) dL_law_1312 ?_
      refine xl_i (y := xs (i + 1)) (congrArg xs (x_sc (k := 1) (by decide) hi hL)) ?_
      refine xl_i (y := 2) eq1 ?_
      refine lv_aload_n hx hb dL_law_1313 rfl (lv_at hl 3 rfl) ?_
      refine lv_iload_n hx hb dL_law_1314 rfl (lv_at hl 0 rfl) ?_
      refine lv_iconst (v := 2) hx hb dL_law_1315 (by decide) ?_
      refine lv_iadd hx hb dL_law_1316 ?_
      refine xl_i (y := nI (i + 2)) (nI_add i 2) ?_
      refine va_sld hx hb hX hbl hbA hS (x_si (k := 2) (by decide) hi hL) dL_law_1317 ?_
      refine xl_i (y := xs (i + 2)) (congrArg xs (x_sc (k := 2) (by decide) hi hL)) ?_
      refine lv_aload_n hx hb dL_law_1318 rfl (lv_at hl 3 rfl) ?_
      refine lv_iload_n hx hb dL_law_1319 rfl (lv_at hl 0 rfl) ?_
      refine lv_iconst (v := 3) hx hb dL_law_1320 (by decide) ?_
      refine lv_iadd hx hb dL_law_1321 ?_
      refine xl_i (y := nI (i + 3)) (nI_add i 3) ?_
      refine va_sld hx hb hX hbl hbA hS (x_si (k := 3) (by decide) hi hL) dL_law_1322 ?_
      refine xl_i (y := xs (i + 3)) (congrArg xs (x_sc (k := 3) (by decide) hi hL)) ?_
      refine xl_i (y := 3) eq3 ?_
      refine lv_aload_n hx hb dL_law_1323 rfl (lv_at hl 3 rfl) ?_
      refine lv_iload_n hx hb dL_law_1324 rfl (lv_at hl 0 rfl) ?_
      refine lv_iconst (v := 4) hx hb dL_law_1325 (by decide) ?_
      refine lv_iadd hx hb dL_law_1326 ?_
      refine xl_i (y := nI (i + 4)) (nI_add i 4) ?_
      refine va_sld hx hb hX hbl hbA hS (x_si (k := 4) (by decide) hi hL) dL_law_1327 ?_
      refine xl_i (y := xs (i + 4)) (congrArg xs (x_sc (k := 4) (by decide) hi hL)) ?_
      refine lv_aload_n hx hb dL_law_1328 rfl (lv_at hl 3 rfl) ?_
      refine lv_iload_n hx hb dL_law_1329 rfl (lv_at hl 0 rfl) ?_
      refine lv_iconst (v := 5) hx hb dL_law_1330 (by decide) ?_
      refine lv_iadd hx hb dL_law_1331 ?_
      refine xl_i (y := nI (i + 5)) (nI_add i 5) ?_
      refine va_sld hx hb hX hbl hbA hS (x_si (k := 5) (by decide) hi hL) dL_law_1332 ?_
      refine xl_i (y := xs (i + 5)) (congrArg xs (x_sc (k := 5) (by decide) hi hL)) ?_
      refine xc_ViT (wr := [(h0, .inr (8, [.ref qh, .ref qk, .ref qd, .int b0, .ref qa, .ref qm, .ref qs, .ref qp, .ref ql, .ref qt, .ref qz, .ref qf])), (qz, .inl (cS, 4, .inr (.inr (.inr (.inr (xSh s0 s1 s2 s3)))))), (s0, .inr (4, [.int bt0, .int (nI (sz0)), .ref sn0])), (s1, .inr (4, [.int bt1, .int (nI (sz1)), .ref sn1])), (s2, .inr (4, [.int bt2, .int (nI (sz2)), .ref sn2])), (s3, .inr (4, [.int bt3, .int (nI (sz3)), .ref sn3])), (sn0, .inl (cJ, 40, .inr (.inl nu0))), (sn1, .inl (cJ, 40, .inr (.inl nu1))), (sn2, .inl (cJ, 40, .inr (.inl nu2))), (sn3, .inl (cJ, 40, .inr (.inl nv_163))), (qf, .inl (cI, 7, .inl f2_164))]) hF (c_X9_copy_23 l D cI cJ cZ cS ta sa sv H.size g0 m_ys m_yk m_yo m_yt b0 m_yfa m_yfe m_mL m_mS m_mM m_yro m_yhe m_ygr m_mF m_mC m_mY m_yta z m_mf m_mt m_mv m_mw m_ywa m_ybi m_ysi m_ynu m_ymo m_bi m_sq m_nb m_mv9 m_mq (xs (i + 2)) (xs (i + 4)) (xs (i + 5)) sz2 sz3 r_z2 hsz2 r_z3 hsz3 m_hsq) kv_L_170 ⟨rfl, rfl, Nat.le_of_ble_eq_true rfl, Nat.le_of_ble_eq_true rfl⟩ ⟨Nat.le_of_ble_eq_true rfl, Nat.le_of_ble_eq_true rfl⟩ hK hN hZ hP hD hS hA [0, 2, 3, 4, 5, 1] [6, 7, 8, 9, 10, 11, 12, 13, 14, 15, 16] rfl rfl (by decide +kernel) (by decide +kernel) (by decide +kernel) 0 rfl rfl rfl rfl hl.1 rfl (Nat.le_of_ble_eq_true rfl) dL_law_1333 (fun r_166 u_r_166 H locs hw_r_166 hP hD hS => ?_)
      obtain ⟨nb2_167, mv2_168, mq2_169⟩ := u_r_166
      try dsimp only at hw_r_166
      obtain ⟨hw_r_166, i_170, i_171⟩ := hw_r_166
      have hP : va_P D vwCl (@HAppend.hAppend va_W va_W va_W _ [(h0, .inr (8, [.ref qh, .ref qk, .ref qd, .int b0, .ref qa, .ref qm, .ref qs, .ref qp, .ref ql, .ref qt, .ref qz, .ref qf])), (qz, .inl (cS, 4, .inr (.inr (.inr (.inr (xSh s0 s1 s2 s3)))))), (s0, .inr (4, [.int bt0, .int (nI (sz0)), .ref sn0])), (s1, .inr (4, [.int bt1, .int (nI (sz1)), .ref sn1])), (s2, .inr (4, [.int bt2, .int (nI (sz2)), .ref sn2])), (s3, .inr (4, [.int bt3, .int (nI (sz3)), .ref sn3])), (sn0, .inl (cJ, 40, .inr (.inl nu0))), (sn1, .inl (cJ, 40, .inr (.inl nu1))), (sn2, .inl (cJ, 40, .inr (.inl nu2))), (sn3, .inl (cJ, 40, .inr (.inl nv_163))), (qf, .inl (cI, 7, .inl f2_164)), (g0, .inr (9, [.ref m_ys, .ref m_yk, .ref m_yo, .ref m_yt, .int b0, .ref m_yfa, .ref m_yfe, .int m_mL, .int m_mS, .int m_mM, .ref m_yro, .ref m_yhe, .ref m_ygr, .int m_mF, .int m_mC, .int m_mY, .ref m_yta, .int (nI (z)), .int (nI (m_mf)), .int (nI (m_mt)), .int m_mv, .int m_mw, .ref m_ywa, .ref m_ybi, .ref m_ysi, .ref m_ynu, .ref m_ymo])), (m_ybi, .inl (cI, 4, .inl m_bi)), (m_ysi, .inl (cI, 4, .inl m_sq)), (m_ynu, .inl (cJ, 160, .inr (.inl nb2_167))), (m_ymo, .inl (cJ, 40, .inr (.inl mv2_168))), (m_yt, .inl (cI, 7, .inl mq2_169))] tl) H := hP
      have hD : va_D A (@HAppend.hAppend va_W va_W va_W _ [(h0, .inr (8, [.ref qh, .ref qk, .ref qd, .int b0, .ref qa, .ref qm, .ref qs, .ref qp, .ref ql, .ref qt, .ref qz, .ref qf])), (qz, .inl (cS, 4, .inr (.inr (.inr (.inr (xSh s0 s1 s2 s3)))))), (s0, .inr (4, [.int bt0, .int (nI (sz0)), .ref sn0])), (s1, .inr (4, [.int bt1, .int (nI (sz1)), .ref sn1])), (s2, .inr (4, [.int bt2, .int (nI (sz2)), .ref sn2])), (s3, .inr (4, [.int bt3, .int (nI (sz3)), .ref sn3])), (sn0, .inl (cJ, 40, .inr (.inl nu0))), (sn1, .inl (cJ, 40, .inr (.inl nu1))), (sn2, .inl (cJ, 40, .inr (.inl nu2))), (sn3, .inl (cJ, 40, .inr (.inl nv_163))), (qf, .inl (cI, 7, .inl f2_164)), (g0, .inr (9, [.ref m_ys, .ref m_yk, .ref m_yo, .ref m_yt, .int b0, .ref m_yfa, .ref m_yfe, .int m_mL, .int m_mS, .int m_mM, .ref m_yro, .ref m_yhe, .ref m_ygr, .int m_mF, .int m_mC, .int m_mY, .ref m_yta, .int (nI (z)), .int (nI (m_mf)), .int (nI (m_mt)), .int m_mv, .int m_mw, .ref m_ywa, .ref m_ybi, .ref m_ysi, .ref m_ynu, .ref m_ymo])), (m_ybi, .inl (cI, 4, .inl m_bi)), (m_ysi, .inl (cI, 4, .inl m_sq)), (m_ynu, .inl (cJ, 160, .inr (.inl nb2_167))), (m_ymo, .inl (cJ, 40, .inr (.inl mv2_168))), (m_yt, .inl (cI, 7, .inl mq2_169))] tl) := hD
      subst hw_r_166
      refine lv_icmp_eq (tgt := 1482) hx hb dL_law_1336 (by decide) (fun c_172 => ?_) (fun c_172 => absurd (sp_creq r_b2 r_b3) c_172)
      exact kkx _ _ _ nu0 nu1 nu2 nv_163 f2_164 mq2_169 nb2_167 mv2_168 (xt_P hP [0, 1, 2, 3, 4, 5, 6, 7, 8, 9, 10, 11, 16, 12, 13, 14, 15] rfl) (xt_D hD [0, 1, 2, 3, 4, 5, 6, 7, 8, 9, 10, 11, 16, 12, 13, 14, 15] (by decide +kernel) rfl) (fun j hj => (i_171 (0 + j) (by omega)).trans (r_n0 j hj)) (fun j hj => (i_171 (40 + j) (by omega)).trans (r_n1 j hj)) (fun j hj => (i_171 (80 + j) (by omega)).trans (r_n2 j hj)) (fun j hj => (i_170 j).trans ((sp_cneq r_b2 r_b3 r_n2 (by omega) (r_n3 j hj)).trans (i_165 j).symm)) hS hl
  · skip
    refine lv_aload_n hx hb dL_law_1278 rfl (lv_at hl 2 rfl) ?_
    rcases x_sh4 (xs (i + 3)) with oq3 | eq3 | eq3 | eq3 | eq3
    · skip
      refine lv_aload_n hx hb dL_law_1279 rfl (lv_at hl 3 rfl) ?_
      refine lv_iload_n hx hb dL_law_1280 rfl (lv_at hl 0 rfl) ?_
      refine lv_iconst (v := 1) hx hb dL_law_1281 (by decide) ?_
      refine lv_iadd hx hb dL_law_1282 ?_
      refine xl_i (y := nI (i + 1)) (nI_add i 1) ?_
      refine va_sld hx hb hX hbl hbA hS (x_si (k := 1) (by decide) hi hL) dL_law_1283 ?_
      refine xl_i (y := xs (i + 1)) (congrArg xs (x_sc (k := 1) (by decide) hi hL)) ?_
      refine xl_i (y := 3) eq1 ?_
      refine lv_aload_n hx hb dL_law_1284 rfl (lv_at hl 3 rfl) ?_
      refine lv_iload_n hx hb dL_law_1285 rfl (lv_at hl 0 rfl) ?_
      refine lv_iconst (v := 2) hx hb dL_law_1286 (by decide) ?_
      refine lv_iadd hx hb dL_law_1287 ?_
      refine xl_i (y := nI (i + 2)) (nI_add i 2) ?_
      refine va_sld hx hb hX hbl hbA hS (x_si (k := 2) (by decide) hi hL) dL_law_1288 ?_
      refine xl_i (y := xs (i + 2)) (congrArg xs (x_sc (k := 2) (by decide) hi hL)) ?_
      refine lv_aload_n hx hb dL_law_1289 rfl (lv_at hl 3 rfl) ?_
      refine lv_iload_n hx hb dL_law_1290 rfl (lv_at hl 0 rfl) ?_
      refine lv_iconst (v := 3) hx hb dL_law_1291 (by decide) ?_
      refine lv_iadd hx hb dL_law_1292 ?_
      refine xl_i (y := nI (i + 3)) (nI_add i 3) ?_
      refine va_sld hx hb hX hbl hbA hS (x_si (k := 3) (by decide) hi hL) dL_law_1293 ?_
      refine xl_i (y := xs (i + 3)) (congrArg xs (x_sc (k := 3) (by decide) hi hL)) ?_
      refine lv_aload_n hx hb dL_law_1294 rfl (lv_at hl 3 rfl) ?_
      refine lv_iload_n hx hb dL_law_1295 rfl (lv_at hl 0 rfl) ?_
      refine lv_iconst (v := 4) hx hb dL_law_1296 (by decide) ?_
      refine lv_iadd hx hb dL_law_1297 ?_
      refine xl_i (y := nI (i + 4)) (nI_add i 4) ?_
      refine va_sld hx hb hX hbl hbA hS (x_si (k := 4) (by decide) hi hL) dL_law_1298 ?_
      refine xl_i (y := xs (i + 4)) (congrArg xs (x_sc (k := 4) (by decide) hi hL)) ?_
      refine lv_aload_n hx hb dL_law_1299 rfl (lv_at hl 3 rfl) ?_
      refine lv_iload_n hx hb dL_law_1300 rfl (lv_at hl 0 rfl) ?_
      refine lv_iconst (v := 5) hx hb dL_law_1301 (by decide) ?_
      refine lv_iadd hx hb dL_law_1302 ?_
      refine xl_i (y := nI (i + 5)) (nI_add i 5) ?_
      refine va_sld hx hb hX hbl hbA hS (x_si (k := 5) (by decide) hi hL) dL_law_1303 ?_
      refine xl_i (y := xs (i + 5)) (congrArg xs (x_sc (k := 5) (by decide) hi hL)) ?_
      refine xc_ViT (wr := [(qz, .inl (cS, 4, .inr (.inr (.inr (.inr (xSh s0 s1 s2 s3)))))), (s0, .inr (4, [.int bt0, .int (nI (sz0)), .ref sn0])), (s1, .inr (4, [.int bt1, .int (nI (sz1)), .ref sn1])), (s2, .inr (4, [.int bt2, .int (nI (sz2)), .ref sn2])), (s3, .inr (4, [.int bt3, .int (nI (sz3)), .ref sn3])), (sn0, .inl (cJ, 40, .inr (.inl nu0))), (sn1, .inl (cJ, 40, .inr (.inl nu1))), (sn2, .inl (cJ, 40, .inr (.inl nu2))), (sn3, .inl (cJ, 40, .inr (.inl nu3))), (g0, .inr (9, [.ref m_ys, .ref m_yk, .ref m_yo, .ref m_yt, .int b0, .ref m_yfa, .ref m_yfe, .int m_mL, .int m_mS, .int m_mM, .ref m_yro, .ref m_yhe, .ref m_ygr, .int m_mF, .int m_mC, .int m_mY, .ref m_yta, .int (nI (z)), .int (nI (m_mf)), .int (nI (m_mt)), .int m_mv, .int m_mw, .ref m_ywa, .ref m_ybi, .ref m_ysi, .ref m_ynu, .ref m_ymo])), (m_yt, .inl (cI, 7, .inl m_mq)), (m_ybi, .inl (cI, 4, .inl m_bi)), (m_ysi, .inl (cI, 4, .inl m_sq)), (m_ynu, .inl (cJ, 160, .inr (.inl m_nb))), (m_ymo, .inl (cJ, 40, .inr (.inl m_mv9)))]) hF (c_X8_copy_3o l D cI cJ cZ cS ta sa sv H.size h0 qh qk qd b0 qa qm qs qp ql qt qz qf ff (xs (i + 2)) (xs (i + 3)) (xs (i + 4)) (xs (i + 5)) oq3) kv_L_166 ⟨rfl, rfl, Nat.le_of_ble_eq_true rfl, Nat.le_of_ble_eq_true rfl⟩ ⟨Nat.le_of_ble_eq_true rfl, Nat.le_of_ble_eq_true rfl⟩ hK hN hZ hP hD hS hA [0, 10] [1, 2, 3, 4, 5, 6, 7, 8, 9, 11, 12, 13, 14, 15, 16] rfl rfl rfl (by decide +kernel) (by decide +kernel) 0 rfl rfl rfl rfl hl.1 rfl (Nat.le_of_ble_eq_true rfl) dL_law_1304 (fun r_173 u_r_173 H locs hw_r_173 hP hD hS => ?_)
      obtain ⟨f2_174, rfl⟩ : ∃ z, z = u_r_173 := ⟨_, rfl⟩
      try dsimp only at hw_r_173
      have hP : va_P D vwCl (@HAppend.hAppend va_W va_W va_W _ [(qz, .inl (cS, 4, .inr (.inr (.inr (.inr (xSh s0 s1 s2 s3)))))), (s0, .inr (4, [.int bt0, .int (nI (sz0)), .ref sn0])), (s1, .inr (4, [.int bt1, .int (nI (sz1)), .ref sn1])), (s2, .inr (4, [.int bt2, .int (nI (sz2)), .ref sn2])), (s3, .inr (4, [.int bt3, .int (nI (sz3)), .ref sn3])), (sn0, .inl (cJ, 40, .inr (.inl nu0))), (sn1, .inl (cJ, 40, .inr (.inl nu1))), (sn2, .inl (cJ, 40, .inr (.inl nu2))), (sn3, .inl (cJ, 40, .inr (.inl nu3))), (g0, .inr (9, [.ref m_ys, .ref m_yk, .ref m_yo, .ref m_yt, .int b0, .ref m_yfa, .ref m_yfe, .int m_mL, .int m_mS, .int m_mM, .ref m_yro, .ref m_yhe, .ref m_ygr, .int m_mF, .int m_mC, .int m_mY, .ref m_yta, .int (nI (z)), .int (nI (m_mf)), .int (nI (m_mt)), .int m_mv, .int m_mw, .ref m_ywa, .ref m_ybi, .ref m_ysi, .ref m_ynu, .ref m_ymo])), (m_yt, .inl (cI, 7, .inl m_mq)), (m_ybi, .inl (cI, 4, .inl m_bi)), (m_ysi, .inl (cI, 4, .inl m_sq)), (m_ynu, .inl (cJ, 160, .inr (.inl m_nb))), (m_ymo, .inl (cJ, 40, .inr (.inl m_mv9))), (h0, .inr (8, [.ref qh, .ref qk, .ref qd, .int b0, .ref qa, .ref qm, .ref qs, .ref qp, .ref ql, .ref qt, .ref qz, .ref qf])), (qf, .inl (cI, 7, .inl f2_174))] tl) H := hP
      have hD : va_D A (@HAppend.hAppend va_W va_W va_W _ [(qz, .inl (cS, 4, .inr (.inr (.inr (.inr (xSh s0 s1 s2 s3)))))), (s0, .inr (4, [.int bt0, .int (nI (sz0)), .ref sn0])), (s1, .inr (4, [.int bt1, .int (nI (sz1)), .ref sn1])), (s2, .inr (4, [.int bt2, .int (nI (sz2)), .ref sn2])), (s3, .inr (4, [.int bt3, .int (nI (sz3)), .ref sn3])), (sn0, .inl (cJ, 40, .inr (.inl nu0))), (sn1, .inl (cJ, 40, .inr (.inl nu1))), (sn2, .inl (cJ, 40, .inr (.inl nu2))), (sn3, .inl (cJ, 40, .inr (.inl nu3))), (g0, .inr (9, [.ref m_ys, .ref m_yk, .ref m_yo, .ref m_yt, .int b0, .ref m_yfa, .ref m_yfe, .int m_mL, .int m_mS, .int m_mM, .ref m_yro, .ref m_yhe, .ref m_ygr, .int m_mF, .int m_mC, .int m_mY, .ref m_yta, .int (nI (z)), .int (nI (m_mf)), .int (nI (m_mt)), .int m_mv, .int m_mw, .ref m_ywa, .ref m_ybi, .ref m_ysi, .ref m_ynu, .ref m_ymo])), (m_yt, .inl (cI, 7, .inl m_mq)), (m_ybi, .inl (cI, 4, .inl m_bi)), (m_ysi, .inl (cI, 4, .inl m_sq)), (m_ynu, .inl (cJ, 160, .inr (.inl m_nb))), (m_ymo, .inl (cJ, 40, .inr (.inl m_mv9))), (h0, .inr (8, [.ref qh, .ref qk, .ref qd, .int b0, .ref qa, .ref qm, .ref qs, .ref qp, .ref ql, .ref qt, .ref qz, .ref qf])), (qf, .inl (cI, 7, .inl f2_174))] tl) := hD
      subst hw_r_173
      refine lv_aload_n hx hb dL_law_1307 rfl (lv_at hl 1 rfl) ?_
      refine lv_aload_n hx hb dL_law_1308 rfl (lv_at hl 3 rfl) ?_
      refine lv_iload_n hx hb dL_law_1309 rfl (lv_at hl 0 rfl) ?_
      refine lv_iconst (v := 1) hx hb dL_law_1310 (by decide) ?_
      refine lv_iadd hx hb dL_law_1311 ?_
      refine xl_i (y := nI (i + 1)) (nI_add i 1) ?_
      refine va_sld hx hb hX hbl hbA hS (x_si (k := 1) (by decide) hi hL) dL_law_1312 ?_
      refine xl_i (y := xs (i + 1)) (congrArg xs (x_sc (k := 1) (by decide) hi hL)) ?_
      refine xl_i (y := 3) eq1 ?_
      refine lv_aload_n hx hb dL_law_1313 rfl (lv_at hl 3 rfl) ?_
      refine lv_iload_n hx hb dL_law_1314 rfl (lv_at hl 0 rfl) ?_
      refine lv_iconst (v := 2) hx hb dL_law_1315 (by decide) ?_
      refine lv_iadd hx hb dL_law_1316 ?_
      refine xl_i (y := nI (i + 2)) (nI_add i 2) ?_
      refine va_sld hx hb hX hbl hbA hS (x_si (k := 2) (by decide) hi hL) dL_law_1317 ?_
      refine xl_i (y := xs (i + 2)) (congrArg xs (x_sc (k := 2) (by decide) hi hL)) ?_
      refine lv_aload_n hx hb dL_law_1318 rfl (lv_at hl 3 rfl) ?_
      refine lv_iload_n hx hb dL_law_1319 rfl (lv_at hl 0 rfl) ?_
      refine lv_iconst (v := 3) hx hb dL_law_1320 (by decide) ?_
      refine lv_iadd hx hb dL_law_1321 ?_
      refine xl_i (y := nI (i + 3)) (nI_add i 3) ?_
      refine va_sld hx hb hX hbl hbA hS (x_si (k := 3) (by decide) hi hL) dL_law_1322 ?_
      refine xl_i (y := xs (i + 3)) (congrArg xs (x_sc (k := 3) (by decide) hi hL)) ?_
      refine lv_aload_n hx hb dL_law_1323 rfl (lv_at hl 3 rfl) ?_
      refine lv_iload_n hx hb dL_law_1324 rfl (lv_at hl 0 rfl) ?_
      refine lv_iconst (v := 4) hx hb dL_law_1325 (by decide) ?_
      refine lv_iadd hx hb dL_law_1326 ?_
      refine xl_i (y := nI (i + 4)) (nI_add i 4) ?_
      refine va_sld hx hb hX hbl hbA hS (x_si (k := 4) (by decide) hi hL) dL_law_1327 ?_
      refine xl_i (y := xs (i + 4)) (congrArg xs (x_sc (k := 4) (by decide) hi hL)) ?_
      refine lv_aload_n hx hb dL_law_1328 rfl (lv_at hl 3 rfl) ?_
      refine lv_iload_n hx hb dL_law_1329 rfl (lv_at hl 0 rfl) ?_
      refine lv_iconst (v := 5) hx hb dL_law_1330 (by decide) ?_
      refine lv_iadd hx hb dL_law_1331 ?_
      refine xl_i (y := nI (i + 5)) (nI_add i 5) ?_
      refine va_sld hx hb hX hbl hbA hS (x_si (k := 5) (by decide) hi hL) dL_law_1332 ?_
      refine xl_i (y := xs (i + 5)) (congrArg xs (x_sc (k := 5) (by decide) hi hL)) ?_
      refine xc_ViT (wr := [(qz, .inl (cS, 4, .inr (.inr (.inr (.inr (xSh s0 s1 s2 s3)))))), (s0, .inr (4, [.int bt0, .int (nI (sz0)), .ref sn0])), (s1, .inr (4, [.int bt1, .int (nI (sz1)), .ref sn1])), (s2, .inr (4, [.int bt2, .int (nI (sz2)), .ref sn2])), (s3, .inr (4, [.int bt3, .int (nI (sz3)), .ref sn3])), (sn0, .inl (cJ, 40, .inr (.inl nu0))), (sn1, .inl (cJ, 40, .inr (.inl nu1))), (sn2, .inl (cJ, 40, .inr (.inl nu2))), (sn3, .inl (cJ, 40, .inr (.inl nu3))), (m_ybi, .inl (cI, 4, .inl m_bi)), (m_ysi, .inl (cI, 4, .inl m_sq)), (m_ynu, .inl (cJ, 160, .inr (.inl m_nb))), (m_ymo, .inl (cJ, 40, .inr (.inl m_mv9))), (h0, .inr (8, [.ref qh, .ref qk, .ref qd, .int b0, .ref qa, .ref qm, .ref qs, .ref qp, .ref ql, .ref qt, .ref qz, .ref qf])), (qf, .inl (cI, 7, .inl f2_174))]) hF (c_X9_copy_3o l D cI cJ cZ cS ta sa sv H.size g0 m_ys m_yk m_yo m_yt b0 m_yfa m_yfe m_mL m_mS m_mM m_yro m_yhe m_ygr m_mF m_mC m_mY m_yta z m_mf m_mt m_mv m_mw m_ywa m_ybi m_ysi m_ynu m_ymo m_mq (xs (i + 2)) (xs (i + 3)) (xs (i + 4)) (xs (i + 5)) oq3) kv_L_170 ⟨rfl, rfl, Nat.le_of_ble_eq_true rfl, Nat.le_of_ble_eq_true rfl⟩ ⟨Nat.le_of_ble_eq_true rfl, Nat.le_of_ble_eq_true rfl⟩ hK hN hZ hP hD hS hA [9, 10] [0, 1, 2, 3, 4, 5, 6, 7, 8, 11, 12, 13, 14, 15, 16] rfl rfl rfl (by decide +kernel) (by decide +kernel) 0 rfl rfl rfl rfl hl.1 rfl (Nat.le_of_ble_eq_true rfl) dL_law_1333 (fun r_175 u_r_175 H locs hw_r_175 hP hD hS => ?_)
      obtain ⟨mq2_176, rfl⟩ : ∃ z, z = u_r_175 := ⟨_, rfl⟩
      try dsimp only at hw_r_175
      have hP : va_P D vwCl (@HAppend.hAppend va_W va_W va_W _ [(qz, .inl (cS, 4, .inr (.inr (.inr (.inr (xSh s0 s1 s2 s3)))))), (s0, .inr (4, [.int bt0, .int (nI (sz0)), .ref sn0])), (s1, .inr (4, [.int bt1, .int (nI (sz1)), .ref sn1])), (s2, .inr (4, [.int bt2, .int (nI (sz2)), .ref sn2])), (s3, .inr (4, [.int bt3, .int (nI (sz3)), .ref sn3])), (sn0, .inl (cJ, 40, .inr (.inl nu0))), (sn1, .inl (cJ, 40, .inr (.inl nu1))), (sn2, .inl (cJ, 40, .inr (.inl nu2))), (sn3, .inl (cJ, 40, .inr (.inl nu3))), (m_ybi, .inl (cI, 4, .inl m_bi)), (m_ysi, .inl (cI, 4, .inl m_sq)), (m_ynu, .inl (cJ, 160, .inr (.inl m_nb))), (m_ymo, .inl (cJ, 40, .inr (.inl m_mv9))), (h0, .inr (8, [.ref qh, .ref qk, .ref qd, .int b0, .ref qa, .ref qm, .ref qs, .ref qp, .ref ql, .ref qt, .ref qz, .ref qf])), (qf, .inl (cI, 7, .inl f2_174)), (g0, .inr (9, [.ref m_ys, .ref m_yk, .ref m_yo, .ref m_yt, .int b0, .ref m_yfa, .ref m_yfe, .int m_mL, .int m_mS, .int m_mM, .ref m_yro, .ref m_yhe, .ref m_ygr, .int m_mF, .int m_mC, .int m_mY, .ref m_yta, .int (nI (z)), .int (nI (m_mf)), .int (nI (m_mt)), .int m_mv, .int m_mw, .ref m_ywa, .ref m_ybi, .ref m_ysi, .ref m_ynu, .ref m_ymo])), (m_yt, .inl (cI, 7, .inl mq2_176))] tl) H := hP
      have hD : va_D A (@HAppend.hAppend va_W va_W va_W _ [(qz, .inl (cS, 4, .inr (.inr (.inr (.inr (xSh s0 s1 s2 s3)))))), (s0, .inr (4, [.int bt0, .int (nI (sz0)), .ref sn0])), (s1, .inr (4, [.int bt1, .int (nI (sz1)), .ref sn1])), (s2, .inr (4, [.int bt2, .int (nI (sz2)), .ref sn2])), (s3, .inr (4, [.int bt3, .int (nI (sz3)), .ref sn3])), (sn0, .inl (cJ, 40, .inr (.inl nu0))), (sn1, .inl (cJ, 40, .inr (.inl nu1))), (sn2, .inl (cJ, 40, .inr (.inl nu2))), (sn3, .inl (cJ, 40, .inr (.inl nu3))), (m_ybi, .inl (cI, 4, .inl m_bi)), (m_ysi, .inl (cI, 4, .inl m_sq)), (m_ynu, .inl (cJ, 160, .inr (.inl m_nb))), (m_ymo, .inl (cJ, 40, .inr (.inl m_mv9))), (h0, .inr (8, [.ref qh, .ref qk, .ref qd, .int b0, .ref qa, .ref qm, .ref qs, .ref qp, .ref ql, .ref qt, .ref qz, .ref qf])), (qf, .inl (cI, 7, .inl f2_174)), (g0, .inr (9, [.ref m_ys, .ref m_yk, .ref m_yo, .ref m_yt, .int b0, .ref m_yfa, .ref m_yfe, .int m_mL, .int m_mS, .int m_mM, .ref m_yro, .ref m_yhe, .ref m_ygr, .int m_mF, .int m_mC, .int m_mY, .ref m_yta, .int (nI (z)), .int (nI (m_mf)), .int (nI (m_mt)), .int m_mv, .int m_mw, .ref m_ywa, .ref m_ybi, .ref m_ysi, .ref m_ynu, .ref m_ymo])), (m_yt, .inl (cI, 7, .inl mq2_176))] tl) := hD
      subst hw_r_175
      refine lv_icmp_eq (tgt := 1482) hx hb dL_law_1336 (by decide) (fun c_177 => ?_) (fun c_177 => absurd (by decide) c_177)
      exact kkx _ _ _ nu0 nu1 nu2 nu3 f2_174 mq2_176 m_nb m_mv9 (xt_P hP [13, 0, 1, 2, 3, 4, 5, 6, 7, 8, 14, 15, 16, 9, 10, 11, 12] rfl) (xt_D hD [13, 0, 1, 2, 3, 4, 5, 6, 7, 8, 14, 15, 16, 9, 10, 11, 12] (by decide +kernel) rfl) r_n0 r_n1 r_n2 r_n3 hS hl
    · skip
      refine lv_aload_n hx hb dL_law_1279 rfl (lv_at hl 3 rfl) ?_
      refine lv_iload_n hx hb dL_law_1280 rfl (lv_at hl 0 rfl) ?_
      refine lv_iconst (v := 1) hx hb dL_law_1281 (by decide) ?_
      refine lv_iadd hx hb dL_law_1282 ?_
      refine xl_i (y := nI (i + 1)) (nI_add i 1) ?_
      refine va_sld hx hb hX hbl hbA hS (x_si (k := 1) (by decide) hi hL) dL_law_1283 ?_
      refine xl_i (y := xs (i + 1)) (congrArg xs (x_sc (k := 1) (by decide) hi hL)) ?_
      refine xl_i (y := 3) eq1 ?_
      refine lv_aload_n hx hb dL_law_1284 rfl (lv_at hl 3 rfl) ?_
      refine lv_iload_n hx hb dL_law_1285 rfl (lv_at hl 0 rfl) ?_
      refine lv_iconst (v := 2) hx hb dL_law_1286 (by decide) ?_
      refine lv_iadd hx hb dL_law_1287 ?_
      refine xl_i (y := nI (i + 2)) (nI_add i 2) ?_
      refine va_sld hx hb hX hbl hbA hS (x_si (k := 2) (by decide) hi hL) dL_law_1288 ?_
      refine xl_i (y := xs (i + 2)) (congrArg xs (x_sc (k := 2) (by decide) hi hL)) ?_
      refine lv_aload_n hx hb dL_law_1289 rfl (lv_at hl 3 rfl) ?_
      refine lv_iload_n hx hb dL_law_1290 rfl (lv_at hl 0 rfl) ?_
      refine lv_iconst (v := 3) hx hb dL_law_1291 (by decide) ?_
      refine lv_iadd hx hb dL_law_1292 ?_
      refine xl_i (y := nI (i + 3)) (nI_add i 3) ?_
      refine va_sld hx hb hX hbl hbA hS (x_si (k := 3) (by decide) hi hL) dL_law_1293 ?_
      refine xl_i (y := xs (i + 3)) (congrArg xs (x_sc (k := 3) (by decide) hi hL)) ?_
      refine xl_i (y := 0) eq3 ?_
      refine lv_aload_n hx hb dL_law_1294 rfl (lv_at hl 3 rfl) ?_
      refine lv_iload_n hx hb dL_law_1295 rfl (lv_at hl 0 rfl) ?_
      refine lv_iconst (v := 4) hx hb dL_law_1296 (by decide) ?_
      refine lv_iadd hx hb dL_law_1297 ?_
      refine xl_i (y := nI (i + 4)) (nI_add i 4) ?_
      refine va_sld hx hb hX hbl hbA hS (x_si (k := 4) (by decide) hi hL) dL_law_1298 ?_
      refine xl_i (y := xs (i + 4)) (congrArg xs (x_sc (k := 4) (by decide) hi hL)) ?_
      refine lv_aload_n hx hb dL_law_1299 rfl (lv_at hl 3 rfl) ?_
      refine lv_iload_n hx hb dL_law_1300 rfl (lv_at hl 0 rfl) ?_
      refine lv_iconst (v := 5) hx hb dL_law_1301 (by decide) ?_
      refine lv_iadd hx hb dL_law_1302 ?_
      refine xl_i (y := nI (i + 5)) (nI_add i 5) ?_
      refine va_sld hx hb hX hbl hbA hS (x_si (k := 5) (by decide) hi hL) dL_law_1303 ?_
      refine xl_i (y := xs (i + 5)) (congrArg xs (x_sc (k := 5) (by decide) hi hL)) ?_
      refine xc_ViT (wr := [(g0, .inr (9, [.ref m_ys, .ref m_yk, .ref m_yo, .ref m_yt, .int b0, .ref m_yfa, .ref m_yfe, .int m_mL, .int m_mS, .int m_mM, .ref m_yro, .ref m_yhe, .ref m_ygr, .int m_mF, .int m_mC, .int m_mY, .ref m_yta, .int (nI (z)), .int (nI (m_mf)), .int (nI (m_mt)), .int m_mv, .int m_mw, .ref m_ywa, .ref m_ybi, .ref m_ysi, .ref m_ynu, .ref m_ymo])), (m_yt, .inl (cI, 7, .inl m_mq)), (m_ybi, .inl (cI, 4, .inl m_bi)), (m_ysi, .inl (cI, 4, .inl m_sq)), (m_ynu, .inl (cJ, 160, .inr (.inl m_nb))), (m_ymo, .inl (cJ, 40, .inr (.inl m_mv9)))]) hF (c_X8_copy_30 l D cI cJ cZ cS ta sa sv H.size h0 qh qk qd b0 qa qm qs qp ql qt qz qf s0 s1 s2 s3 bt0 sz0 sn0 bt1 sz1 sn1 bt2 sz2 sn2 bt3 sz3 sn3 nu0 nu1 nu2 nu3 ff (xs (i + 2)) (xs (i + 4)) (xs (i + 5)) hsz0 hsz1 hsz2 hsz3) kv_L_166 ⟨rfl, rfl, Nat.le_of_ble_eq_true rfl, Nat.le_of_ble_eq_true rfl⟩ ⟨Nat.le_of_ble_eq_true rfl, Nat.le_of_ble_eq_true rfl⟩ hK hN hZ hP hD hS hA [0, 1, 2, 3, 4, 5, 6, 7, 8, 9, 10] [11, 12, 13, 14, 15, 16] rfl rfl (by decide +kernel) (by decide +kernel) (by decide +kernel) 0 rfl rfl rfl rfl hl.1 rfl (Nat.le_of_ble_eq_true rfl) dL_law_1304 (fun r_178 u_r_178 H locs hw_r_178 hP hD hS => ?_)
      obtain ⟨nv_179, f2_180⟩ := u_r_178
      try dsimp only at hw_r_178
      obtain ⟨hw_r_178, i_181⟩ := hw_r_178
      have hP : va_P D vwCl (@HAppend.hAppend va_W va_W va_W _ [(g0, .inr (9, [.ref m_ys, .ref m_yk, .ref m_yo, .ref m_yt, .int b0, .ref m_yfa, .ref m_yfe, .int m_mL, .int m_mS, .int m_mM, .ref m_yro, .ref m_yhe, .ref m_ygr, .int m_mF, .int m_mC, .int m_mY, .ref m_yta, .int (nI (z)), .int (nI (m_mf)), .int (nI (m_mt)), .int m_mv, .int m_mw, .ref m_ywa, .ref m_ybi, .ref m_ysi, .ref m_ynu, .ref m_ymo])), (m_yt, .inl (cI, 7, .inl m_mq)), (m_ybi, .inl (cI, 4, .inl m_bi)), (m_ysi, .inl (cI, 4, .inl m_sq)), (m_ynu, .inl (cJ, 160, .inr (.inl m_nb))), (m_ymo, .inl (cJ, 40, .inr (.inl m_mv9))), (h0, .inr (8, [.ref qh, .ref qk, .ref qd, .int b0, .ref qa, .ref qm, .ref qs, .ref qp, .ref ql, .ref qt, .ref qz, .ref qf])), (qz, .inl (cS, 4, .inr (.inr (.inr (.inr (xSh s0 s1 s2 s3)))))), (s0, .inr (4, [.int bt0, .int (nI (sz0)), .ref sn0])), (s1, .inr (4, [.int bt1, .int (nI (sz1)), .ref sn1])), (s2, .inr (4, [.int bt2, .int (nI (sz2)), .ref sn2])), (s3, .inr (4, [.int bt3, .int (nI (sz3)), .ref sn3])), (sn0, .inl (cJ, 40, .inr (.inl nv_179))), (sn1, .inl (cJ, 40, .inr (.inl nu1))), (sn2, .inl (cJ, 40, .inr (.inl nu2))), (sn3, .inl (cJ, 40, .inr (.inl nu3))), (qf, .inl (cI, 7, .inl f2_180))] tl) H := hP
      have hD : va_D A (@HAppend.hAppend va_W va_W va_W _ [(g0, .inr (9, [.ref m_ys, .ref m_yk, .ref m_yo, .ref m_yt, .int b0, .ref m_yfa, .ref m_yfe, .int m_mL, .int m_mS, .int m_mM, .ref m_yro, .ref m_yhe, .ref m_ygr, .int m_mF, .int m_mC, .int m_mY, .ref m_yta, .int (nI (z)), .int (nI (m_mf)), .int (nI (m_mt)), .int m_mv, .int m_mw, .ref m_ywa, .ref m_ybi, .ref m_ysi, .ref m_ynu, .ref m_ymo])), (m_yt, .inl (cI, 7, .inl m_mq)), (m_ybi, .inl (cI, 4, .inl m_bi)), (m_ysi, .inl (cI, 4, .inl m_sq)), (m_ynu, .inl (cJ, 160, .inr (.inl m_nb))), (m_ymo, .inl (cJ, 40, .inr (.inl m_mv9))), (h0, .inr (8, [.ref qh, .ref qk, .ref qd, .int b0, .ref qa, .ref qm, .ref qs, .ref qp, .ref ql, .ref qt, .ref qz, .ref qf])), (qz, .inl (cS, 4, .inr (.inr (.inr (.inr (xSh s0 s1 s2 s3)))))), (s0, .inr (4, [.int bt0, .int (nI (sz0)), .ref sn0])), (s1, .inr (4, [.int bt1, .int (nI (sz1)), .ref sn1])), (s2, .inr (4, [.int bt2, .int (nI (sz2)), .ref sn2])), (s3, .inr (4, [.int bt3, .int (nI (sz3)), .ref sn3])), (sn0, .inl (cJ, 40, .inr (.inl nv_179))), (sn1, .inl (cJ, 40, .inr (.inl nu1))), (sn2, .inl (cJ, 40, .inr (.inl nu2))), (sn3, .inl (cJ, 40, .inr (.inl nu3))), (qf, .inl (cI, 7, .inl f2_180))] tl) := hD
      subst hw_r_178
      refine lv_aload_n hx hb dL_law_1307 rfl (lv_at hl 1 rfl) ?_
      refine lv_aload_n hx hb dL_law_1308 rfl (lv_at hl 3 rfl) ?_
      refine lv_iload_n hx hb dL_law_1309 rfl (lv_at hl 0 rfl) ?_
      refine lv_iconst (v := 1) hx hb dL_law_1310 (by decide) ?_
      refine lv_iadd hx hb dL_law_1311 ?_
      refine xl_i (y := nI (i + 1)) (nI_add i 1) ?_
      refine va_sld hx hb hX hbl hbA hS (x_si (k := 1) (by decide) hi hL) dL_law_1312 ?_
      refine xl_i (y := xs (i + 1)) (congrArg xs (x_sc (k := 1) (by decide) hi hL)) ?_
      refine xl_i (y := 3) eq1 ?_
      refine lv_aload_n hx hb dL_law_1313 rfl (lv_at hl 3 rfl) ?_
      refine lv_iload_n hx hb dL_law_1314 rfl (lv_at hl 0 rfl) ?_
      refine lv_iconst (v := 2) hx hb dL_law_1315 (by decide) ?_
      refine lv_iadd hx hb dL_law_1316 ?_
      refine xl_i (y := nI (i + 2)) (nI_add i 2) ?_
      refine va_sld hx hb hX hbl hbA hS (x_si (k := 2) (by decide) hi hL) dL_law_1317 ?_
      refine xl_i (y := xs (i + 2)) (congrArg xs (x_sc (k := 2) (by decide) hi hL)) ?_
      refine lv_aload_n hx hb dL_law_1318 rfl (lv_at hl 3 rfl) ?_
      refine lv_iload_n hx hb dL_law_1319 rfl (lv_at hl 0 rfl) ?_
      refine lv_iconst (v := 3) hx hb dL_law_1320 (by decide) ?_
      refine lv_iadd hx hb dL_law_1321 ?_
      refine xl_i (y := nI (i + 3)) (nI_add i 3) ?_
      refine va_sld hx hb hX hbl hbA hS (x_si (k := 3) (by decide) hi hL) dL_law_1322 ?_
      refine xl_i (y := xs (i + 3)) (congrArg xs (x_sc (k := 3) (by decide) hi hL)) ?_
      refine xl_i (y := 0) eq3 ?_
      refine lv_aload_n hx hb dL_law_1323 rfl (lv_at hl 3 rfl) ?_
      refine lv_iload_n hx hb dL_law_1324 rfl (lv_at hl 0 rfl) ?_
      refine lv_iconst (v := 4) hx hb dL_law_1325 (by decide) ?_
      refine lv_iadd hx hb dL_law_1326 ?_
      refine xl_i (y := nI (i + 4)) (nI_add i 4) ?_
      refine va_sld hx hb hX hbl hbA hS (x_si (k := 4) (by decide) hi hL) dL_law_1327 ?_
      refine xl_i (y := xs (i + 4)) (congrArg xs (x_sc (k := 4) (by decide) hi hL)) ?_
      refine lv_aload_n hx hb dL_law_1328 rfl (lv_at hl 3 rfl) ?_
      refine lv_iload_n hx hb dL_law_1329 rfl (lv_at hl 0 rfl) ?_
      refine lv_iconst (v := 5) hx hb dL_law_1330 (by decide) ?_
      refine lv_iadd hx hb dL_law_1331 ?_
      refine xl_i (y := nI (i + 5)) (nI_add i 5) ?_
      refine va_sld hx hb hX hbl hbA hS (x_si (k := 5) (by decide) hi hL) dL_law_1332 ?_
      refine xl_i (y := xs (i + 5)) (congrArg xs (x_sc (k := 5) (by decide) hi hL)) ?_
      refine xc_ViT (wr := [(h0, .inr (8, [.ref qh, .ref qk, .ref qd, .int b0, .ref qa, .ref qm, .ref qs, .ref qp, .ref ql, .ref qt, .ref qz, .ref qf])), (qz, .inl (cS, 4, .inr (.inr (.inr (.inr (xSh s0 s1 s2 s3)))))), (s0, .inr (4, [.int bt0, .int (nI (sz0)), .ref sn0])), (s1, .inr (4, [.int bt1, .int (nI (sz1)), .ref sn1])), (s2, .inr (4, [.int bt2, .int (nI (sz2)), .ref sn2])), (s3, .inr (4, [.int bt3, .int (nI (sz3)), .ref sn3])), (sn0, .inl (cJ, 40, .inr (.inl nv_179))), (sn1, .inl (cJ, 40, .inr (.inl nu1))), (sn2, .inl (cJ, 40, .inr (.inl nu2))), (sn3, .inl (cJ, 40, .inr (.inl nu3))), (qf, .inl (cI, 7, .inl f2_180))]) hF (c_X9_copy_30 l D cI cJ cZ cS ta sa sv H.size g0 m_ys m_yk m_yo m_yt b0 m_yfa m_yfe m_mL m_mS m_mM m_yro m_yhe m_ygr m_mF m_mC m_mY m_yta z m_mf m_mt m_mv m_mw m_ywa m_ybi m_ysi m_ynu m_ymo m_bi m_sq m_nb m_mv9 m_mq (xs (i + 2)) (xs (i + 4)) (xs (i + 5)) sz3 sz0 r_z3 hsz3 r_z0 hsz0 m_hsq) kv_L_170 ⟨rfl, rfl, Nat.le_of_ble_eq_true rfl, Nat.le_of_ble_eq_true rfl⟩ ⟨Nat.le_of_ble_eq_true rfl, Nat.le_of_ble_eq_true rfl⟩ hK hN hZ hP hD hS hA [0, 2, 3, 4, 5, 1] [6, 7, 8, 9, 10, 11, 12, 13, 14, 15, 16] rfl rfl (by decide +kernel) (by decide +kernel) (by decide +kernel) 0 rfl rfl rfl rfl hl.1 rfl (Nat.le_of_ble_eq_true rfl) dL_law_1333 (fun r_182 u_r_182 H locs hw_r_182 hP hD hS => ?_)
      obtain ⟨nb2_183, mv2_184, mq2_185⟩ := u_r_182
      try dsimp only at hw_r_182
      obtain ⟨hw_r_182, i_186, i_187⟩ := hw_r_182
      have hP : va_P D vwCl (@HAppend.hAppend va_W va_W va_W _ [(h0, .inr (8, [.ref qh, .ref qk, .ref qd, .int b0, .ref qa, .ref qm, .ref qs, .ref qp, .ref ql, .ref qt, .ref qz, .ref qf])), (qz, .inl (cS, 4, .inr (.inr (.inr (.inr (xSh s0 s1 s2 s3)))))), (s0, .inr (4, [.int bt0, .int (nI (sz0)), .ref sn0])), (s1, .inr (4, [.int bt1, .int (nI (sz1)), .ref sn1])), (s2, .inr (4, [.int bt2, .int (nI (sz2)), .ref sn2])), (s3, .inr (4, [.int bt3, .int (nI (sz3)), .ref sn3])), (sn0, .inl (cJ, 40, .inr (.inl nv_179))), (sn1, .inl (cJ, 40, .inr (.inl nu1))), (sn2, .inl (cJ, 40, .inr (.inl nu2))), (sn3, .inl (cJ, 40, .inr (.inl nu3))), (qf, .inl (cI, 7, .inl f2_180)), (g0, .inr (9, [.ref m_ys, .ref m_yk, .ref m_yo, .ref m_yt, .int b0, .ref m_yfa, .ref m_yfe, .int m_mL, .int m_mS, .int m_mM, .ref m_yro, .ref m_yhe, .ref m_ygr, .int m_mF, .int m_mC, .int m_mY, .ref m_yta, .int (nI (z)), .int (nI (m_mf)), .int (nI (m_mt)), .int m_mv, .int m_mw, .ref m_ywa, .ref m_ybi, .ref m_ysi, .ref m_ynu, .ref m_ymo])), (m_ybi, .inl (cI, 4, .inl m_bi)), (m_ysi, .inl (cI, 4, .inl m_sq)), (m_ynu, .inl (cJ, 160, .inr (.inl nb2_183))), (m_ymo, .inl (cJ, 40, .inr (.inl mv2_184))), (m_yt, .inl (cI, 7, .inl mq2_185))] tl) H := hP
      have hD : va_D A (@HAppend.hAppend va_W va_W va_W _ [(h0, .inr (8, [.ref qh, .ref qk, .ref qd, .int b0, .ref qa, .ref qm, .ref qs, .ref qp, .ref ql, .ref qt, .ref qz, .ref qf])), (qz, .inl (cS, 4, .inr (.inr (.inr (.inr (xSh s0 s1 s2 s3)))))), (s0, .inr (4, [.int bt0, .int (nI (sz0)), .ref sn0])), (s1, .inr (4, [.int bt1, .int (nI (sz1)), .ref sn1])), (s2, .inr (4, [.int bt2, .int (nI (sz2)), .ref sn2])), (s3, .inr (4, [.int bt3, .int (nI (sz3)), .ref sn3])), (sn0, .inl (cJ, 40, .inr (.inl nv_179))), (sn1, .inl (cJ, 40, .inr (.inl nu1))), (sn2, .inl (cJ, 40, .inr (.inl nu2))), (sn3, .inl (cJ, 40, .inr (.inl nu3))), (qf, .inl (cI, 7, .inl f2_180)), (g0, .inr (9, [.ref m_ys, .ref m_yk, .ref m_yo, .ref m_yt, .int b0, .ref m_yfa, .ref m_yfe, .int m_mL, .int m_mS, .int m_mM, .ref m_yro, .ref m_yhe, .ref m_ygr, .int m_mF, .int m_mC, .int m_mY, .ref m_yta, .int (nI (z)), .int (nI (m_mf)), .int (nI (m_mt)), .int m_mv, .int m_mw, .ref m_ywa, .ref m_ybi, .ref m_ysi, .ref m_ynu, .ref m_ymo])), (m_ybi, .inl (cI, 4, .inl m_bi)), (m_ysi, .inl (cI, 4, .inl m_sq)), (m_ynu, .inl (cJ, 160, .inr (.inl nb2_183))), (m_ymo, .inl (cJ, 40, .inr (.inl mv2_184))), (m_yt, .inl (cI, 7, .inl mq2_185))] tl) := hD
      subst hw_r_182
      refine lv_icmp_eq (tgt := 1482) hx hb dL_law_1336 (by decide) (fun c_188 => ?_) (fun c_188 => absurd (sp_creq r_b3 r_b0) c_188)
      exact kkx _ _ _ nv_179 nu1 nu2 nu3 f2_180 mq2_185 nb2_183 mv2_184 (xt_P hP [0, 1, 2, 3, 4, 5, 6, 7, 8, 9, 10, 11, 16, 12, 13, 14, 15] rfl) (xt_D hD [0, 1, 2, 3, 4, 5, 6, 7, 8, 9, 10, 11, 16, 12, 13, 14, 15] (by decide +kernel) rfl) (fun j hj => (i_186 j).trans ((sp_cneq r_b3 r_b0 r_n3 (by omega) (r_n0 j hj)).trans (i_181 j).symm)) (fun j hj => (i_187 (40 + j) (by omega)).trans (r_n1 j hj)) (fun j hj => (i_187 (80 + j) (by omega)).trans (r_n2 j hj)) (fun j hj => (i_187 (120 + j) (by omega)).trans (r_n3 j hj)) hS hl
    · skip
      refine lv_aload_n hx hb dL_law_1279 rfl (lv_at hl 3 rfl) ?_
      refine lv_iload_n hx hb dL_law_1280 rfl (lv_at hl 0 rfl) ?_
      refine lv_iconst (v := 1) hx hb dL_law_1281 (by decide) ?_
      refine lv_iadd hx hb dL_law_1282 ?_
      refine xl_i (y := nI (i + 1)) (nI_add i 1) ?_
      refine va_sld hx hb hX hbl hbA hS (x_si (k := 1) (by decide) hi hL) dL_law_1283 ?_
      refine xl_i (y := xs (i + 1)) (congrArg xs (x_sc (k := 1) (by decide) hi hL)) ?_
      refine xl_i (y := 3) eq1 ?_
      refine lv_aload_n hx hb dL_law_1284 rfl (lv_at hl 3 rfl) ?_
      refine lv_iload_n hx hb dL_law_1285 rfl (lv_at hl 0 rfl) ?_
      refine lv_iconst (v := 2) hx hb dL_law_1286 (by decide) ?_
      refine lv_iadd hx hb dL_law_1287 ?_
      refine xl_i (y := nI (i + 2)) (nI_add i 2) ?_
      refine va_sld hx hb hX hbl hbA hS (x_si (k := 2) (by decide) hi hL) dL_law_1288 ?_
      refine xl_i (y := xs (i + 2)) (congrArg xs (x_sc (k := 2) (by decide) hi hL)) ?_
      refine lv_aload_n hx hb dL_law_1289 rfl (lv_at hl 3 rfl) ?_
      refine lv_iload_n hx hb dL_law_1290 rfl (lv_at hl 0 rfl) ?_
      refine lv_iconst (v := 3) hx hb dL_law_1291 (by decide) ?_
      refine lv_iadd hx hb dL_law_1292 ?_
      refine xl_i (y := nI (i + 3)) (nI_add i 3) ?_
      refine va_sld hx hb hX hbl hbA hS (x_si (k := 3) (by decide) hi hL) dL_law_1293 ?_
      refine xl_i (y := xs (i + 3)) (congrArg xs (x_sc (k := 3) (by decide) hi hL)) ?_
      refine xl_i (y := 1) eq3 ?_
      refine lv_aload_n hx hb dL_law_1294 rfl (lv_at hl 3 rfl) ?_
      refine lv_iload_n hx hb dL_law_1295 rfl (lv_at hl 0 rfl) ?_
      refine lv_iconst (v := 4) hx hb dL_law_1296 (by decide) ?_
      refine lv_iadd hx hb dL_law_1297 ?_
      refine xl_i (y := nI (i + 4)) (nI_add i 4) ?_
      refine va_sld hx hb hX hbl hbA hS (x_si (k := 4) (by decide) hi hL) dL_law_1298 ?_
      refine xl_i (y := xs (i + 4)) (congrArg xs (x_sc (k := 4) (by decide) hi hL)) ?_
      refine lv_aload_n hx hb dL_law_1299 rfl (lv_at hl 3 rfl) ?_
      refine lv_iload_n hx hb dL_law_1300 rfl (lv_at hl 0 rfl) ?_
      refine lv_iconst (v := 5) hx hb dL_law_1301 (by decide) ?_
      refine lv_iadd hx hb dL_law_1302 ?_
      refine xl_i (y := nI (i + 5)) (nI_add i 5) ?_
      refine va_sld hx hb hX hbl hbA hS (x_si (k := 5) (by decide) hi hL) dL_law_1303 ?_
      refine xl_i (y := xs (i + 5)) (congrArg xs (x_sc (k := 5) (by decide) hi hL)) ?_
      refine xc_ViT (wr := [(g0, .inr (9, [.ref m_ys, .ref m_yk, .ref m_yo, .ref m_yt, .int b0, .ref m_yfa, .ref m_yfe, .int m_mL, .int m_mS, .int m_mM, .ref m_yro, .ref m_yhe, .ref m_ygr, .int m_mF, .int m_mC, .int m_mY, .ref m_yta, .int (nI (z)), .int (nI (m_mf)), .int (nI (m_mt)), .int m_mv, .int m_mw, .ref m_ywa, .ref m_ybi, .ref m_ysi, .ref m_ynu, .ref m_ymo])), (m_yt, .inl (cI, 7, .inl m_mq)), (m_ybi, .inl (cI, 4, .inl m_bi)), (m_ysi, .inl (cI, 4, .inl m_sq)), (m_ynu, .inl (cJ, 160, .inr (.inl m_nb))), (m_ymo, .inl (cJ, 40, .inr (.inl m_mv9)))]) hF (c_X8_copy_31 l D cI cJ cZ cS ta sa sv H.size h0 qh qk qd b0 qa qm qs qp ql qt qz qf s0 s1 s2 s3 bt0 sz0 sn0 bt1 sz1 sn1 bt2 sz2 sn2 bt3 sz3 sn3 nu0 nu1 nu2 nu3 ff (xs (i + 2)) (xs (i + 4)) (xs (i + 5)) hsz0 hsz1 hsz2 hsz3) kv_L_166 ⟨rfl, rfl, Nat.le_of_ble_eq_true rfl, Nat.le_of_ble_eq_true rfl⟩ ⟨Nat.le_of_ble_eq_true rfl, Nat.le_of_ble_eq_true rfl⟩ hK hN hZ hP hD hS hA [0, 1, 2, 3, 4, 5, 6, 7, 8, 9, 10] [11, 12, 13, 14, 15, 16] rfl rfl (by decide +kernel) (by decide +kernel) (by decide +kernel) 0 rfl rfl rfl rfl hl.1 rfl (Nat.le_of_ble_eq_true rfl) dL_law_1304 (fun r_189 u_r_189 H locs hw_r_189 hP hD hS => ?_)
      obtain ⟨nv_190, f2_191⟩ := u_r_189
      try dsimp only at hw_r_189
      obtain ⟨hw_r_189, i_192⟩ := hw_r_189
      have hP : va_P D vwCl (@HAppend.hAppend va_W va_W va_W _ [(g0, .inr (9, [.ref m_ys, .ref m_yk, .ref m_yo, .ref m_yt, .int b0, .ref m_yfa, .ref m_yfe, .int m_mL, .int m_mS, .int m_mM, .ref m_yro, .ref m_yhe, .ref m_ygr, .int m_mF, .int m_mC, .int m_mY, .ref m_yta, .int (nI (z)), .int (nI (m_mf)), .int (nI (m_mt)), .int m_mv, .int m_mw, .ref m_ywa, .ref m_ybi, .ref m_ysi, .ref m_ynu, .ref m_ymo])), (m_yt, .inl (cI, 7, .inl m_mq)), (m_ybi, .inl (cI, 4, .inl m_bi)), (m_ysi, .inl (cI, 4, .inl m_sq)), (m_ynu, .inl (cJ, 160, .inr (.inl m_nb))), (m_ymo, .inl (cJ, 40, .inr (.inl m_mv9))), (h0, .inr (8, [.ref qh, .ref qk, .ref qd, .int b0, .ref qa, .ref qm, .ref qs, .ref qp, .ref ql, .ref qt, .ref qz, .ref qf])), (qz, .inl (cS, 4, .inr (.inr (.inr (.inr (xSh s0 s1 s2 s3)))))), (s0, .inr (4, [.int bt0, .int (nI (sz0)), .ref sn0])), (s1, .inr (4, [.int bt1, .int (nI (sz1)), .ref sn1])), (s2, .inr (4, [.int bt2, .int (nI (sz2)), .ref sn2])), (s3, .inr (4, [.int bt3, .int (nI (sz3)), .ref sn3])), (sn0, .inl (cJ, 40, .inr (.inl nu0))), (sn1, .inl (cJ, 40, .inr (.inl nv_190))), (sn2, .inl (cJ, 40, .inr (.inl nu2))), (sn3, .inl (cJ, 40, .inr (.inl nu3))), (qf, .inl (cI, 7, .inl f2_191))] tl) H := hP
      have hD : va_D A (@HAppend.hAppend va_W va_W va_W _ [(g0, .inr (9, [.ref m_ys, .ref m_yk, .ref m_yo, .ref m_yt, .int b0, .ref m_yfa, .ref m_yfe, .int m_mL, .int m_mS, .int m_mM, .ref m_yro, .ref m_yhe, .ref m_ygr, .int m_mF, .int m_mC, .int m_mY, .ref m_yta, .int (nI (z)), .int (nI (m_mf)), .int (nI (m_mt)), .int m_mv, .int m_mw, .ref m_ywa, .ref m_ybi, .ref m_ysi, .ref m_ynu, .ref m_ymo])), (m_yt, .inl (cI, 7, .inl m_mq)), (m_ybi, .inl (cI, 4, .inl m_bi)), (m_ysi, .inl (cI, 4, .inl m_sq)), (m_ynu, .inl (cJ, 160, .inr (.inl m_nb))), (m_ymo, .inl (cJ, 40, .inr (.inl m_mv9))), (h0, .inr (8, [.ref qh, .ref qk, .ref qd, .int b0, .ref qa, .ref qm, .ref qs, .ref qp, .ref ql, .ref qt, .ref qz, .ref qf])), (qz, .inl (cS, 4, .inr (.inr (.inr (.inr (xSh s0 s1 s2 s3)))))), (s0, .inr (4, [.int bt0, .int (nI (sz0)), .ref sn0])), (s1, .inr (4, [.int bt1, .int (nI (sz1)), .ref sn1])), (s2, .inr (4, [.int bt2, .int (nI (sz2)), .ref sn2])), (s3, .inr (4, [.int bt3, .int (nI (sz3)), .ref sn3])), (sn0, .inl (cJ, 40, .inr (.inl nu0))), (sn1, .inl (cJ, 40, .inr (.inl nv_190))), (sn2, .inl (cJ, 40, .inr (.inl nu2))), (sn3, .inl (cJ, 40, .inr (.inl nu3))), (qf, .inl (cI, 7, .inl f2_191))] tl) := hD
      subst hw_r_189
      refine lv_aload_n hx hb dL_law_1307 rfl (lv_at hl 1 rfl) ?_
      refine lv_aload_n hx hb dL_law_1308 rfl (lv_at hl 3 rfl) ?_
      refine lv_iload_n hx hb dL_law_1309 rfl (lv_at hl 0 rfl) ?_
      refine lv_iconst (v := 1) hx hb dL_law_1310 (by decide) ?_
      refine lv_iadd hx hb dL_law_1311 ?_
      refine xl_i (y := nI (i + 1)) (nI_add i 1) ?_
      refine va_sld hx hb hX hbl hbA hS (x_si (k := 1) (by decide) hi hL) dL_law_1312 ?_
      refine xl_i (y := xs (i + 1)) (congrArg xs (x_sc (k := 1) (by decide) hi hL)) ?_
      refine xl_i (y := 3) eq1 ?_
      refine lv_aload_n hx hb dL_law_1313 rfl (lv_at hl 3 rfl) ?_
      refine lv_iload_n hx hb dL_law_1314 rfl (lv_at hl 0 rfl) ?_
      refine lv_iconst (v := 2) hx hb dL_law_1315 (by decide) ?_
      refine lv_iadd hx hb dL_law_1316 ?_
      refine xl_i (y := nI (i + 2)) (nI_add i 2) ?_
      refine va_sld hx hb hX hbl hbA hS (x_si (k := 2) (by decide) hi hL) dL_law_1317 ?_
      refine xl_i (y := xs (i + 2)) (congrArg xs (x_sc (k := 2) (by decide) hi hL)) ?_
      refine lv_aload_n hx hb dL_law_1318 rfl (lv_at hl 3 rfl) ?_
      refine lv_iload_n hx hb dL_law_1319 rfl (lv_at hl 0 rfl) ?_
      refine lv_iconst (v := 3) hx hb dL_law_1320 (by decide) ?_
      refine lv_iadd hx hb dL_law_1321 ?_
      refine xl_i (y := nI (i + 3)) (nI_add i 3) ?_
      refine va_sld hx hb hX hbl hbA hS (x_si (k := 3) (by decide) hi hL) dL_law_1322 ?_
      refine xl_i (y := xs (i + 3)) (congrArg xs (x_sc (k := 3) (by decide) hi hL)) ?_
      refine xl_i (y := 1) eq3 ?_
      refine lv_aload_n hx hb dL_law_1323 rfl (lv_at hl 3 rfl) ?_
      refine lv_iload_n hx hb dL_law_1324 rfl (lv_at hl 0 rfl) ?_
      refine lv_iconst (v := 4) hx hb dL_law_1325 (by decide) ?_
      refine lv_iadd hx hb dL_law_1326 ?_
      refine xl_i (y := nI (i + 4)) (nI_add i 4) ?_
      refine va_sld hx hb hX hbl hbA hS (x_si (k := 4) (by decide) hi hL) dL_law_1327 ?_
      refine xl_i (y := xs (i + 4)) (congrArg xs (x_sc (k := 4) (by decide) hi hL)) ?_
      refine lv_aload_n hx hb dL_law_1328 rfl (lv_at hl 3 rfl) ?_
      refine lv_iload_n hx hb dL_law_1329 rfl (lv_at hl 0 rfl) ?_
      refine lv_iconst (v := 5) hx hb dL_law_1330 (by decide) ?_
      refine lv_iadd hx hb dL_law_1331 ?_
      refine xl_i (y := nI (i + 5)) (nI_add i 5) ?_
      refine va_sld hx hb hX hbl hbA hS (x_si (k := 5) (by decide) hi hL) dL_law_1332 ?_
      refine xl_i (y := xs (i + 5)) (congrArg xs (x_sc (k := 5) (by decide) hi hL)) ?_
      refine xc_ViT (wr := [(h0, .inr (8, [.ref qh, .ref qk, .ref qd, .int b0, .ref qa, .ref qm, .ref qs, .ref qp, .ref ql, .ref qt, .ref qz, .ref qf])), (qz, .inl (cS, 4, .inr (.inr (.inr (.inr (xSh s0 s1 s2 s3)))))), (s0, .inr (4, [.int bt0, .int (nI (sz0)), .ref sn0])), (s1, .inr (4, [.int bt1, .int (nI (sz1)), .ref sn1])), (s2, .inr (4, [.int bt2, .int (nI (sz2)), .ref sn2])), (s3, .inr (4, [.int bt3, .int (nI (sz3)), .ref sn3])), (sn0, .inl (cJ, 40, .inr (.inl nu0))), (sn1, .inl (cJ, 40, .inr (.inl nv_190))), (sn2, .inl (cJ, 40, .inr (.inl nu2))), (sn3, .inl (cJ, 40, .inr (.inl nu3))), (qf, .inl (cI, 7, .inl f2_191))]) hF (c_X9_copy_31 l D cI cJ cZ cS ta sa sv H.size g0 m_ys m_yk m_yo m_yt b0 m_yfa m_yfe m_mL m_mS m_mM m_yro m_yhe m_ygr m_mF m_mC m_mY m_yta z m_mf m_mt m_mv m_mw m_ywa m_ybi m_ysi m_ynu m_ymo m_bi m_sq m_nb m_mv9 m_mq (xs (i + 2)) (xs (i + 4)) (xs (i + 5)) sz3 sz1 r_z3 hsz3 r_z1 hsz1 m_hsq) kv_L_170 ⟨rfl, rfl, Nat.le_of_ble_eq_true rfl, Nat.le_of_ble_eq_true rfl⟩ ⟨Nat.le_of_ble_eq_true rfl, Nat.le_of_ble_eq_true rfl⟩ hK hN hZ hP hD hS hA [0, 2, 3, 4, 5, 1] [6, 7, 8, 9, 10, 11, 12, 13, 14, 15, 16] rfl rfl (by decide +kernel) (by decide +kernel) (by decide +kernel) 0 rfl rfl rfl rfl hl.1 rfl (Nat.le_of_ble_eq_true rfl) dL_law_1333 (fun r_193 u_r_193 H locs hw_r_193 hP hD hS => ?_)
      obtain ⟨nb2_194, mv2_195, mq2_196⟩ := u_r_193
      try dsimp only at hw_r_193
      obtain ⟨hw_r_193, i_197, i_198⟩ := hw_r_193
      have hP : va_P D vwCl (@HAppend.hAppend va_W va_W va_W _ [(h0, .inr (8, [.ref qh, .ref qk, .ref qd, .int b0, .ref qa, .ref qm, .ref qs, .ref qp, .ref ql, .ref qt, .ref qz, .ref qf])), (qz, .inl (cS, 4, .inr (.inr (.inr (.inr (xSh s0 s1 s2 s3)))))), (s0, .inr (4, [.int bt0, .int (nI (sz0)), .ref sn0])), (s1, .inr (4, [.int bt1, .int (nI (sz1)), .ref sn1])), (s2, .inr (4, [.int bt2, .int (nI (sz2)), .ref sn2])), (s3, .inr (4, [.int bt3, .int (nI (sz3)), .ref sn3])), (sn0, .inl (cJ, 40, .inr (.inl nu0))), (sn1, .inl (cJ, 40, .inr (.inl nv_190))), (sn2, .inl (cJ, 40, .inr (.inl nu2))), (sn3, .inl (cJ, 40, .inr (.inl nu3))), (qf, .inl (cI, 7, .inl f2_191)), (g0, .inr (9, [.ref m_ys, .ref m_yk, .ref m_yo, .ref m_yt, .int b0, .ref m_yfa, .ref m_yfe, .int m_mL, .int m_mS, .int m_mM, .ref m_yro, .ref m_yhe, .ref m_ygr, .int m_mF, .int m_mC, .int m_mY, .ref m_yta, .int (nI (z)), .int (nI (m_mf)), .int (nI (m_mt)), .int m_mv, .int m_mw, .ref m_ywa, .ref m_ybi, .ref m_ysi, .ref m_ynu, .ref m_ymo])), (m_ybi, .inl (cI, 4, .inl m_bi)), (m_ysi, .inl (cI, 4, .inl m_sq)), (m_ynu, .inl (cJ, 160, .inr (.inl nb2_194))), (m_ymo, .inl (cJ, 40, .inr (.inl mv2_195))), (m_yt, .inl (cI, 7, .inl mq2_196))] tl) H := hP
      have hD : va_D A (@HAppend.hAppend va_W va_W va_W _ [(h0, .inr (8, [.ref qh, .ref qk, .ref qd, .int b0, .ref qa, .ref qm, .ref qs, .ref qp, .ref ql, .ref qt, .ref qz, .ref qf])), (qz, .inl (cS, 4, .inr (.inr (.inr (.inr (xSh s0 s1 s2 s3)))))), (s0, .inr (4, [.int bt0, .int (nI (sz0)), .ref sn0])), (s1, .inr (4, [.int bt1, .int (nI (sz1)), .ref sn1])), (s2, .inr (4, [.int bt2, .int (nI (sz2)), .ref sn2])), (s3, .inr (4, [.int bt3, .int (nI (sz3)), .ref sn3])), (sn0, .inl (cJ, 40, .inr (.inl nu0))), (sn1, .inl (cJ, 40, .inr (.inl nv_190))), (sn2, .inl (cJ, 40, .inr (.inl nu2))), (sn3, .inl (cJ, 40, .inr (.inl nu3))), (qf, .inl (cI, 7, .inl f2_191)), (g0, .inr (9, [.ref m_ys, .ref m_yk, .ref m_yo, .ref m_yt, .int b0, .ref m_yfa, .ref m_yfe, .int m_mL, .int m_mS, .int m_mM, .ref m_yro, .ref m_yhe, .ref m_ygr, .int m_mF, .int m_mC, .int m_mY, .ref m_yta, .int (nI (z)), .int (nI (m_mf)), .int (nI (m_mt)), .int m_mv, .int m_mw, .ref m_ywa, .ref m_ybi, .ref m_ysi, .ref m_ynu, .ref m_ymo])), (m_ybi, .inl (cI, 4, .inl m_bi)), (m_ysi, .inl (cI, 4, .inl m_sq)), (m_ynu, .inl (cJ, 160, .inr (.inl nb2_194))), (m_ymo, .inl (cJ, 40, .inr (.inl mv2_195))), (m_yt, .inl (cI, 7, .inl mq2_196))] tl) := hD
      subst hw_r_193
      refine lv_icmp_eq (tgt := 1482) hx hb dL_law_1336 (by decide) (fun c_199 => ?_) (fun c_199 => absurd (sp_creq r_b3 r_b1) c_199)
      exact kkx _ _ _ nu0 nv_190 nu2 nu3 f2_191 mq2_196 nb2_194 mv2_195 (xt_P hP [0, 1, 2, 3, 4, 5, 6, 7, 8, 9, 10, 11, 16, 12, 13, 14, 15] rfl) (xt_D hD [0, 1, 2, 3, 4, 5, 6, 7, 8, 9, 10, 11, 16, 12, 13, 14, 15] (by decide +kernel) rfl) (fun j hj => (i_198 (0 + j) (by omega)).trans (r_n0 j hj)) (fun j hj => (i_197 j).trans ((sp_cneq r_b3 r_b1 r_n3 (by omega) (r_n1 j hj)).trans (i_192 j).symm)) (fun j hj => (i_198 (80 + j) (by omega)).trans (r_n2 j hj)) (fun j hj => (i_198 (120 + j) (by omega)).trans (r_n3 j hj)) hS hl
    · skip
      refine lv_aload_n hx hb dL_law_1279 rfl (lv_at hl 3 rfl) ?_
      refine lv_iload_n hx hb dL_law_1280 rfl (lv_at hl 0 rfl) ?_
      refine lv_iconst (v := 1) hx hb dL_law_1281 (by decide) ?_
      refine lv_iadd hx hb dL_law_1282 ?_
      refine xl_i (y := nI (i + 1)) (nI_add i 1) ?_
      refine va_sld hx hb hX hbl hbA hS (x_si (k := 1) (by decide) hi hL) dL_law_1283 ?_
      refine xl_i (y := xs (i + 1)) (congrArg xs (x_sc (k := 1) (by decide) hi hL)) ?_
      refine xl_i (y := 3) eq1 ?_
      refine lv_aload_n hx hb dL_law_1284 rfl (lv_at hl 3 rfl) ?_
      refine lv_iload_n hx hb dL_law_1285 rfl (lv_at hl 0 rfl) ?_
      refine lv_iconst (v := 2) hx hb dL_law_1286 (by decide) ?_
      refine lv_iadd hx hb dL_law_1287 ?_
      refine xl_i (y := nI (i + 2)) (nI_add i 2) ?_
      refine va_sld hx hb hX hbl hbA hS (x_si (k := 2) (by decide) hi hL) dL_law_1288 ?_
      refine xl_i (y := xs (i + 2)) (congrArg xs (x_sc (k := 2) (by decide) hi hL)) ?_
      refine lv_aload_n hx hb dL_law_1289 rfl (lv_at hl 3 rfl) ?_
      refine lv_iload_n hx hb dL_law_1290 rfl (lv_at hl 0 rfl) ?_
      refine lv_iconst (v := 3) hx hb dL_law_1291 (by decide) ?_
      refine lv_iadd hx hb dL_law_1292 ?_
      refine xl_i (y := nI (i + 3)) (nI_add i 3) ?_
      refine va_sld hx hb hX hbl hbA hS (x_si (k := 3) (by decide) hi hL) dL_law_1293 ?_
      refine xl_i (y := xs (i + 3)) (congrArg xs (x_sc (k := 3) (by decide) hi hL)) ?_
      refine xl_i (y := 2) eq3 ?_
      refine lv_aload_n hx hb dL_law_1294 rfl (lv_at hl 3 rfl) ?_
      refine lv_iload_n hx hb dL_law_1295 rfl (lv_at hl 0 rfl) ?_
      refine lv_iconst (v := 4) hx hb dL_law_1296 (by decide) ?_
      refine lv_iadd hx hb dL_law_1297 ?_
      refine xl_i (y := nI (i + 4)) (nI_add i 4) ?_
      refine va_sld hx hb hX hbl hbA hS (x_si (k := 4) (by decide) hi hL) dL_law_1298 ?_
      refine xl_i (y := xs (i + 4)) (congrArg xs (x_sc (k := 4) (by decide) hi hL)) ?_
      refine lv_aload_n hx hb dL_law_1299 rfl (lv_at hl 3 rfl) ?_
      refine lv_iload_n hx hb dL_law_1300 rfl (lv_at hl 0 rfl) ?_
      refine lv_iconst (v := 5) hx hb dL_law_1301 (by decide) ?_
      refine lv_iadd hx hb dL_law_1302 ?_
      refine xl_i (y := nI (i + 5)) (nI_add i 5) ?_
      refine va_sld hx hb hX hbl hbA hS (x_si (k := 5) (by decide) hi hL) dL_law_1303 ?_
      refine xl_i (y := xs (i + 5)) (congrArg xs (x_sc (k := 5) (by decide) hi hL)) ?_
      refine xc_ViT (wr := [(g0, .inr (9, [.ref m_ys, .ref m_yk, .ref m_yo, .ref m_yt, .int b0, .ref m_yfa, .ref m_yfe, .int m_mL, .int m_mS, .int m_mM, .ref m_yro, .ref m_yhe, .ref m_ygr, .int m_mF, .int m_mC, .int m_mY, .ref m_yta, .int (nI (z)), .int (nI (m_mf)), .int (nI (m_mt)), .int m_mv, .int m_mw, .ref m_ywa, .ref m_ybi, .ref m_ysi, .ref m_ynu, .ref m_ymo])), (m_yt, .inl (cI, 7, .inl m_mq)), (m_ybi, .inl (cI, 4, .inl m_bi)), (m_ysi, .inl (cI, 4, .inl m_sq)), (m_ynu, .inl (cJ, 160, .inr (.inl m_nb))), (m_ymo, .inl (cJ, 40, .inr (.inl m_mv9)))]) hF (c_X8_copy_32 l D cI cJ cZ cS ta sa sv H.size h0 qh qk qd b0 qa qm qs qp ql qt qz qf s0 s1 s2 s3 bt0 sz0 sn0 bt1 sz1 sn1 bt2 sz2 sn2 bt3 sz3 sn3 nu0 nu1 nu2 nu3 ff (xs (i + 2)) (xs (i + 4)) (xs (i + 5)) hsz0 hsz1 hsz2 hsz3) kv_L_166 ⟨rfl, rfl, Nat.le_of_ble_eq_true rfl, Nat.le_of_ble_eq_true rfl⟩ ⟨Nat.le_of_ble_eq_true rfl, Nat.le_of_ble_eq_true rfl⟩ hK hN hZ hP hD hS hA [0, 1, 2, 3, 4, 5, 6, 7, 8, 9, 10] [11, 12, 13, 14, 15, 16] rfl rfl (by decide +kernel) (by decide +kernel) (by decide +kernel) 0 rfl rfl rfl rfl hl.1 rfl (Nat.le_of_ble_eq_true rfl) dL_law_1304 (fun r_200 u_r_200 H locs hw_r_200 hP hD hS => ?_)
      obtain ⟨nv_201, f2_202⟩ := u_r_200
      try dsimp only at hw_r_200
      obtain ⟨hw_r_200, i_203⟩ := hw_r_200
      have hP : va_P D vwCl (@HAppend.hAppend va_W va_W va_W _ [(g0, .inr (9, [.ref m_ys, .ref m_yk, .ref m_yo, .ref m_yt, .int b0, .ref m_yfa, .ref m_yfe, .int m_mL, .int m_mS, .int m_mM, .ref m_yro, .ref m_yhe, .ref m_ygr, .int m_mF, .int m_mC, .int m_mY, .ref m_yta, .int (nI (z)), .int (nI (m_mf)), .int (nI (m_mt)), .int m_mv, .int m_mw, .ref m_ywa, .ref m_ybi, .ref m_ysi, .ref m_ynu, .ref m_ymo])), (m_yt, .inl (cI, 7, .inl m_mq)), (m_ybi, .inl (cI, 4, .inl m_bi)), (m_ysi, .inl (cI, 4, .inl m_sq)), (m_ynu, .inl (cJ, 160, .inr (.inl m_nb))), (m_ymo, .inl (cJ, 40, .inr (.inl m_mv9))), (h0, .inr (8, [.ref qh, .ref qk, .ref qd, .int b0, .ref qa, .ref qm, .ref qs, .ref qp, .ref ql, .ref qt, .ref qz, .ref qf])), (qz, .inl (cS, 4, .inr (.inr (.inr (.inr (xSh s0 s1 s2 s3)))))), (s0, .inr (4, [.int bt0, .int (nI (sz0)), .ref sn0])), (s1, .inr (4, [.int bt1, .int (nI (sz1)), .ref sn1])), (s2, .inr (4, [.int bt2, .int (nI (sz2)), .ref sn2])), (s3, .inr (4, [.int bt3, .int (nI (sz3)), .ref sn3])), (sn0, .inl (cJ, 40, .inr (.inl nu0))), (sn1, .inl (cJ, 40, .inr (.inl nu1))), (sn2, .inl (cJ, 40, .inr (.inl nv_201))), (sn3, .inl (cJ, 40, .inr (.inl nu3))), (qf, .inl (cI, 7, .inl f2_202))] tl) H := hP
      have hD : va_D A (@HAppend.hAppend va_W va_W va_W _ [(g0, .inr (9, [.ref m_ys, .ref m_yk, .ref m_yo, .ref m_yt, .int b0, .ref m_yfa, .ref m_yfe, .int m_mL, .int m_mS, .int m_mM, .ref m_yro, .ref m_yhe, .ref m_ygr, .int m_mF, .int m_mC, .int m_mY, .ref m_yta, .int (nI (z)), .int (nI (m_mf)), .int (nI (m_mt)), .int m_mv, .int m_mw, .ref m_ywa, .ref m_ybi, .ref m_ysi, .ref m_ynu, .ref m_ymo])), (m_yt, .inl (cI, 7, .inl m_mq)), (m_ybi, .inl (cI, 4, .inl m_bi)), (m_ysi, .inl (cI, 4, .inl m_sq)), (m_ynu, .inl (cJ, 160, .inr (.inl m_nb))), (m_ymo, .inl (cJ, 40, .inr (.inl m_mv9))), (h0, .inr (8, [.ref qh, .ref qk, .ref qd, .int b0, .ref qa, .ref qm, .ref qs, .ref qp, .ref ql, .ref qt, .ref qz, .ref qf])), (qz, .inl (cS, 4, .inr (.inr (.inr (.inr (xSh s0 s1 s2 s3)))))), (s0, .inr (4, [.int bt0, .int (nI (sz0)), .ref sn0])), (s1, .inr (4, [.int bt1, .int (nI (sz1)), .ref sn1])), (s2, .inr (4, [.int bt2, .int (nI (sz2)), .ref sn2])), (s3, .inr (4, [.int bt3, .int (nI (sz3)), .ref sn3])), (sn0, .inl (cJ, 40, .inr (.inl nu0))), (sn1, .inl (cJ, 40, .inr (.inl nu1))), (sn2, .inl (cJ, 40, .inr (.inl nv_201))), (sn3, .inl (cJ, 40, .inr (.inl nu3))), (qf, .inl (cI, 7, .inl f2_202))] tl) := hD
      subst hw_r_200
      refine lv_aload_n hx hb dL_law_1307 rfl (lv_at hl 1 rfl) ?_
      refine lv_aload_n hx hb dL_law_1308 rfl (lv_at hl 3 rfl) ?_
      refine lv_iload_n hx hb dL_law_1309 rfl (lv_at hl 0 rfl) ?_
      refine lv_iconst (v := 1) hx hb dL_law_1310 (by decide) ?_
      refine lv_iadd hx hb dL_law_1311 ?_
      refine xl_i (y := nI (i + 1)) (nI_add i 1) ?_
      refine va_sld hx hb hX hbl hbA hS (x_si (k := 1) (by decide) hi hL) dL_law_1312 ?_
      refine xl_i (y := xs (i + 1)) (congrArg xs (x_sc (k := 1) (by decide) hi hL)) ?_
      refine xl_i (y := 3) eq1 ?_
      refine lv_aload_n hx hb dL_law_1313 rfl (lv_at hl 3 rfl) ?_
      refine lv_iload_n hx hb dL_law_1314 rfl (lv_at hl 0 rfl) ?_
      refine lv_iconst (v := 2) hx hb dL_law_1315 (by decide) ?_
      refine lv_iadd hx hb dL_law_1316 ?_
      refine xl_i (y := nI (i + 2)) (nI_add i 2) ?_
      refine va_sld hx hb hX hbl hbA hS (x_si (k := 2) (by decide) hi hL) dL_law_1317 ?_
      refine xl_i (y := xs (i + 2)) (congrArg xs (x_sc (k := 2) (by decide) hi hL)) ?_
      refine lv_aload_n hx hb dL_law_1318 rfl (lv_at hl 3 rfl) ?_
      refine lv_iload_n hx hb dL_law_1319 rfl (lv_at hl 0 rfl) ?_
      refine lv_iconst (v := 3) hx hb dL_law_1320 (by decide) ?_
      refine lv_iadd hx hb dL_law_1321 ?_
      refine xl_i (y := nI (i + 3)) (nI_add i 3) ?_
      refine va_sld hx hb hX hbl hbA hS (x_si (k := 3) (by decide) hi hL) dL_law_1322 ?_
      refine xl_i (y := xs (i + 3)) (congrArg xs (x_sc (k := 3) (by decide) hi hL)) ?_
      refine xl_i (y := 2) eq3 ?_
      refine lv_aload_n hx hb dL_law_1323 rfl (lv_at hl 3 rfl) ?_
      refine lv_iload_n hx hb dL_law_1324 rfl (lv_at hl 0 rfl) ?_
      refine lv_iconst (v := 4) hx hb dL_law_1325 (by decide) ?_
      refine lv_iadd hx hb dL_law_1326 ?_
      refine xl_i (y := nI (i + 4)) (nI_add i 4) ?_
      refine va_sld hx hb hX hbl hbA hS (x_si (k := 4) (by decide) hi hL) dL_law_1327 ?_
      refine xl_i (y := xs (i + 4)) (congrArg xs (x_sc (k := 4) (by decide) hi hL)) ?_
      refine lv_aload_n hx hb dL_law_1328 rfl (lv_at hl 3 rfl) ?_
      refine lv_iload_n hx hb dL_law_1329 rfl (lv_at hl 0 rfl) ?_
      refine lv_iconst (v := 5) hx hb dL_law_1330 (by decide) ?_
      refine lv_iadd hx hb dL_law_1331 ?_
      refine xl_i (y := nI (i + 5)) (nI_add i 5) ?_
      refine va_sld hx hb hX hbl hbA hS (x_si (k := 5) (by decide) hi hL) dL_law_1332 ?_
      refine xl_i (y := xs (i + 5)) (congrArg xs (x_sc (k := 5) (by decide) hi hL)) ?_
      refine xc_ViT (wr := [(h0, .inr (8, [.ref qh, .ref qk, .ref qd, .int b0, .ref qa, .ref qm, .ref qs, .ref qp, .ref ql, .ref qt, .ref qz, .ref qf])), (qz, .inl (cS, 4, .inr (.inr (.inr (.inr (xSh s0 s1 s2 s3)))))), (s0, .inr (4, [.int bt0, .int (nI (sz0)), .ref sn0])), (s1, .inr (4, [.int bt1, .int (nI (sz1)), .ref sn1])), (s2, .inr (4, [.int bt2, .int (nI (sz2)), .ref sn2])), (s3, .inr (4, [.int bt3, .int (nI (sz3)), .ref sn3])), (sn0, .inl (cJ, 40, .inr (.inl nu0))), (sn1, .inl (cJ, 40, .inr (.inl nu1))), (sn2, .inl (cJ, 40, .inr (.inl nv_201))), (sn3, .inl (cJ, 40, .inr (.inl nu3))), (qf, .inl (cI, 7, .inl f2_202))]) hF (c_X9_copy_32 l D cI cJ cZ cS ta sa sv H.size g0 m_ys m_yk m_yo m_yt b0 m_yfa m_yfe m_mL m_mS m_mM m_yro m_yhe m_ygr m_mF m_mC m_mY m_yta z m_mf m_mt m_mv m_mw m_ywa m_ybi m_ysi m_ynu m_ymo m_bi m_sq m_nb m_mv9 m_mq (xs (i + 2)) (xs (i + 4)) (xs (i + 5)) sz3 sz2 r_z3 hsz3 r_z2 hsz2 m_hsq) kv_L_170 ⟨rfl, rfl, Nat.le_of_ble_eq_true rfl, Nat.le_of_ble_eq_true rfl⟩ ⟨Nat.le_of_ble_eq_true rfl, Nat.le_of_ble_eq_true rfl⟩ hK hN hZ hP hD hS hA [0, 2, 3, 4, 5, 1] [6, 7, 8, 9, 10, 11, 12, 13, 14, 15, 16] rfl rfl (by decide +kernel) (by decide +kernel) (by decide +kernel) 0 rfl rfl rfl rfl hl.1 rfl (Nat.le_of_ble_eq_true rfl) dL_law_1333 (fun r_204 u_r_204 H locs hw_r_204 hP hD hS => ?_)
      obtain ⟨nb2_205, mv2_206, mq2_207⟩ := u_r_204
      try dsimp only at hw_r_204
      obtain ⟨hw_r_204, i_208, i_209⟩ := hw_r_204
      have hP : va_P D vwCl (@HAppend.hAppend va_W va_W va_W _ [(h0, .inr (8, [.ref qh, .ref qk, .ref qd, .int b0, .ref qa, .ref qm, .ref qs, .ref qp, .ref ql, .ref qt, .ref qz, .ref qf])), (qz, .inl (cS, 4, .inr (.inr (.inr (.inr (xSh s0 s1 s2 s3)))))), (s0, .inr (4, [.int bt0, .int (nI (sz0)), .ref sn0])), (s1, .inr (4, [.int bt1, .int (nI (sz1)), .ref sn1])), (s2, .inr (4, [.int bt2, .int (nI (sz2)), .ref sn2])), (s3, .inr (4, [.int bt3, .int (nI (sz3)), .ref sn3])), (sn0, .inl (cJ, 40, .inr (.inl nu0))), (sn1, .inl (cJ, 40, .inr (.inl nu1))), (sn2, .inl (cJ, 40, .inr (.inl nv_201))), (sn3, .inl (cJ, 40, .inr (.inl nu3))), (qf, .inl (cI, 7, .inl f2_202)), (g0, .inr (9, [.ref m_ys, .ref m_yk, .ref m_yo, .ref m_yt, .int b0, .ref m_yfa, .ref m_yfe, .int m_mL, .int m_mS, .int m_mM, .ref m_yro, .ref m_yhe, .ref m_ygr, .int m_mF, .int m_mC, .int m_mY, .ref m_yta, .int (nI (z)), .int (nI (m_mf)), .int (nI (m_mt)), .int m_mv, .int m_mw, .ref m_ywa, .ref m_ybi, .ref m_ysi, .ref m_ynu, .ref m_ymo])), (m_ybi, .inl (cI, 4, .inl m_bi)), (m_ysi, .inl (cI, 4, .inl m_sq)), (m_ynu, .inl (cJ, 160, .inr (.inl nb2_205))), (m_ymo, .inl (cJ, 40, .inr (.inl mv2_206))), (m_yt, .inl (cI, 7, .inl mq2_207))] tl) H := hP
      have hD : va_D A (@HAppend.hAppend va_W va_W va_W _ [(h0, .inr (8, [.ref qh, .ref qk, .ref qd, .int b0, .ref qa, .ref qm, .ref qs, .ref qp, .ref ql, .ref qt, .ref qz, .ref qf])), (qz, .inl (cS, 4, .inr (.inr (.inr (.inr (xSh s0 s1 s2 s3)))))), (s0, .inr (4, [.int bt0, .int (nI (sz0)), .ref sn0])), (s1, .inr (4, [.int bt1, .int (nI (sz1)), .ref sn1])), (s2, .inr (4, [.int bt2, .int (nI (sz2)), .ref sn2])), (s3, .inr (4, [.int bt3, .int (nI (sz3)), .ref sn3])), (sn0, .inl (cJ, 40, .inr (.inl nu0))), (sn1, .inl (cJ, 40, .inr (.inl nu1))), (sn2, .inl (cJ, 40, .inr (.inl nv_201))), (sn3, .inl (cJ, 40, .inr (.inl nu3))), (qf, .inl (cI, 7, .inl f2_202)), (g0, .inr (9, [.ref m_ys, .ref m_yk, .ref m_yo, .ref m_yt, .int b0, .ref m_yfa, .ref m_yfe, .int m_mL, .int m_mS, .int m_mM, .ref m_yro, .ref m_yhe, .ref m_ygr, .int m_mF, .int m_mC, .int m_mY, .ref m_yta, .int (nI (z)), .int (nI (m_mf)), .int (nI (m_mt)), .int m_mv, .int m_mw, .ref m_ywa, .ref m_ybi, .ref m_ysi, .ref m_ynu, .ref m_ymo])), (m_ybi, .inl (cI, 4, .inl m_bi)), (m_ysi, .inl (cI, 4, .inl m_sq)), (m_ynu, .inl (cJ, 160, .inr (.inl nb2_205))), (m_ymo, .inl (cJ, 40, .inr (.inl mv2_206))), (m_yt, .inl (cI, 7, .inl mq2_207))] tl) := hD
      subst hw_r_204
      refine lv_icmp_eq (tgt := 1482) hx hb dL_law_1336 (by decide) (fun c_210 => ?_) (fun c_210 => absurd (sp_creq r_b3 r_b2) c_210)
      exact kkx _ _ _ nu0 nu1 nv_201 nu3 f2_202 mq2_207 nb2_205 mv2_206 (xt_P hP [0, 1, 2, 3, 4, 5, 6, 7, 8, 9, 10, 11, 16, 12, 13, 14, 15] rfl) (xt_D hD [0, 1, 2, 3, 4, 5, 6, 7, 8, 9, 10, 11, 16, 12, 13, 14, 15] (by decide +kernel) rfl) (fun j hj => (i_209 (0 + j) (by omega)).trans (r_n0 j hj)) (fun j hj => (i_209 (40 + j) (by omega)).trans (r_n1 j hj)) (fun j hj => (i_208 j).trans ((sp_cneq r_b3 r_b2 r_n3 (by omega) (r_n2 j hj)).trans (i_203 j).symm)) (fun j hj => (i_209 (120 + j) (by omega)).trans (r_n3 j hj)) hS hl
    · skip
      refine lv_aload_n hx hb dL_law_1279 rfl (lv_at hl 3 rfl) ?_
      refine lv_iload_n hx hb dL_law_1280 rfl (lv_at hl 0 rfl) ?_
      refine lv_iconst (v := 1) hx hb dL_law_1281 (by decide) ?_
      refine lv_iadd hx hb dL_law_1282 ?_
      refine xl_i (y := nI (i + 1)) (nI_add i 1) ?_
      refine va_sld hx hb hX hbl hbA hS (x_si (k := 1) (by decide) hi hL) dL_law_1283 ?_
      refine xl_i (y := xs (i + 1)) (congrArg xs (x_sc (k := 1) (by decide) hi hL)) ?_
      refine xl_i (y := 3) eq1 ?_
      refine lv_aload_n hx hb dL_law_1284 rfl (lv_at hl 3 rfl) ?_
      refine lv_iload_n hx hb dL_law_1285 rfl (lv_at hl 0 rfl) ?_
      refine lv_iconst (v := 2) hx hb dL_law_1286 (by decide) ?_
      refine lv_iadd hx hb dL_law_1287 ?_
      refine xl_i (y := nI (i + 2)) (nI_add i 2) ?_
      refine va_sld hx hb hX hbl hbA hS (x_si (k := 2) (by decide) hi hL) dL_law_1288 ?_
      refine xl_i (y := xs (i + 2)) (congrArg xs (x_sc (k := 2) (by decide) hi hL)) ?_
      refine lv_aload_n hx hb dL_law_1289 rfl (lv_at hl 3 rfl) ?_
      refine lv_iload_n hx hb dL_law_1290 rfl (lv_at hl 0 rfl) ?_
      refine lv_iconst (v := 3) hx hb dL_law_1291 (by decide) ?_
      refine lv_iadd hx hb dL_law_1292 ?_
      refine xl_i (y := nI (i + 3)) (nI_add i 3) ?_
      refine va_sld hx hb hX hbl hbA hS (x_si (k := 3) (by decide) hi hL) dL_law_1293 ?_
      refine xl_i (y := xs (i + 3)) (congrArg xs (x_sc (k := 3) (by decide) hi hL)) ?_
      refine xl_i (y := 3) eq3 ?_
      refine lv_aload_n hx hb dL_law_1294 rfl (lv_at hl 3 rfl) ?_
      refine lv_iload_n hx hb dL_law_1295 rfl (lv_at hl 0 rfl) ?_
      refine lv_iconst (v := 4) hx hb dL_law_1296 (by decide) ?_
      refine lv_iadd hx hb dL_law_1297 ?_
      refine xl_i (y := nI (i + 4)) (nI_add i 4) ?_
      refine va_sld hx hb hX hbl hbA hS (x_si (k := 4) (by decide) hi hL) dL_law_1298 ?_
      refine xl_i (y := xs (i + 4)) (congrArg xs (x_sc (k := 4) (by decide) hi hL)) ?_
      refine lv_aload_n hx hb dL_law_1299 rfl (lv_at hl 3 rfl) ?_
      refine lv_iload_n hx hb dL_law_1300 rfl (lv_at hl 0 rfl) ?_
      refine lv_iconst (v := 5) hx hb dL_law_1301 (by decide) ?_
      refine lv_iadd hx hb dL_law_1302 ?_
      refine xl_i (y := nI (i + 5)) (nI_add i 5) ?_
      refine va_sld hx hb hX hbl hbA hS (x_si (k := 5) (by decide) hi hL) dL_law_1303 ?_
      refine xl_i (y := xs (i + 5)) (congrArg xs (x_sc (k := 5) (by decide) hi hL)) ?_
      refine xc_ViT (wr := [(g0, .inr (9, [.ref m_ys, .ref m_yk, .ref m_yo, .ref m_yt, .int b0, .ref m_yfa, .ref m_yfe, .int m_mL, .int m_mS, .int m_mM, .ref m_yro, .ref m_yhe, .ref m_ygr, .int m_mF, .int m_mC, .int m_mY, .ref m_yta, .int (nI (z)), .int (nI (m_mf)), .int (nI (m_mt)), .int m_mv, .int m_mw, .ref m_ywa, .ref m_ybi, .ref m_ysi, .ref m_ynu, .ref m_ymo])), (m_yt, .inl (cI, 7, .inl m_mq)), (m_ybi, .inl (cI, 4, .inl m_bi)), (m_ysi, .inl (cI, 4, .inl m_sq)), (m_ynu, .inl (cJ, 160, .inr (.inl m_nb))), (m_ymo, .inl (cJ, 40, .inr (.inl m_mv9)))]) hF (c_X8_copy_33 l D cI cJ cZ cS ta sa sv H.size h0 qh qk qd b0 qa qm qs qp ql qt qz qf s0 s1 s2 s3 bt0 sz0 sn0 bt1 sz1 sn1 bt2 sz2 sn2 bt3 sz3 sn3 nu0 nu1 nu2 nu3 ff (xs (i + 2)) (xs (i + 4)) (xs (i + 5)) hsz0 hsz1 hsz2 hsz3) kv_L_166 ⟨rfl, rfl, Nat.le_of_ble_eq_true rfl, Nat.le_of_ble_eq_true rfl⟩ ⟨Nat.le_of_ble_eq_true rfl, Nat.le_of_ble_eq_true rfl⟩ hK hN hZ hP hD hS hA [0, 1, 2, 3, 4, 5, 6, 7, 8, 9, 10] [11, 12, 13, 14, 15, 16] rfl rfl (by decide +kernel) (by decide +kernel) (by decide +kernel) 0 rfl rfl rfl rfl hl.1 rfl (Nat.le_of_ble_eq_true rfl) dL_law_1304 (fun r_211 u_r_211 H locs hw_r_211 hP hD hS => ?_)
      obtain ⟨nv_212, f2_213⟩ := u_r_211
      try dsimp only at hw_r_211
      obtain ⟨hw_r_211, i_214⟩ := hw_r_211
      have hP : va_P D vwCl (@HAppend.hAppend va_W va_W va_W _ [(g0, .inr (9, [.ref m_ys, .ref m_yk, .ref m_yo, .ref m_yt, .int b0, .ref m_yfa, .ref m_yfe, .int m_mL, .int m_mS, .int m_mM, .ref m_yro, .ref m_yhe, .ref m_ygr, .int m_mF, .int m_mC, .int m_mY, .ref m_yta, .int (nI (z)), .int (nI (m_mf)), .int (nI (m_mt)), .int m_mv, .int m_mw, .ref m_ywa, .ref m_ybi, .ref m_ysi, .ref m_ynu, .ref m_ymo])), (m_yt, .inl (cI, 7, .inl m_mq)), (m_ybi, .inl (cI, 4, .inl m_bi)), (m_ysi, .inl (cI, 4, .inl m_sq)), (m_ynu, .inl (cJ, 160, .inr (.inl m_nb))), (m_ymo, .inl (cJ, 40, .inr (.inl m_mv9))), (h0, .inr (8, [.ref qh, .ref qk, .ref qd, .int b0, .ref qa, .ref qm, .ref qs, .ref qp, .ref ql, .ref qt, .ref qz, .ref qf])), (qz, .inl (cS, 4, .inr (.inr (.inr (.inr (xSh s0 s1 s2 s3)))))), (s0, .inr (4, [.int bt0, .int (nI (sz0)), .ref sn0])), (s1, .inr (4, [.int bt1, .int (nI (sz1)), .ref sn1])), (s2, .inr (4, [.int bt2, .int (nI (sz2)), .ref sn2])), (s3, .inr (4, [.int bt3, .int (nI (sz3)), .ref sn3])), (sn0, .inl (cJ, 40, .inr (.inl nu0))), (sn1, .inl (cJ, 40, .inr (.inl nu1))), (sn2, .inl (cJ, 40, .inr (.inl nu2))), (sn3, .inl (cJ, 40, .inr (.inl nv_212))), (qf, .inl (cI, 7, .inl f2_213))] tl) H := hP
      have hD : va_D A (@HAppend.hAppend va_W va_W va_W _ [(g0, .inr (9, [.ref m_ys, .ref m_yk, .ref m_yo, .ref m_yt, .int b0, .ref m_yfa, .ref m_yfe, .int m_mL, .int m_mS, .int m_mM, .ref m_yro, .ref m_yhe, .ref m_ygr, .int m_mF, .int m_mC, .int m_mY, .ref m_yta, .int (nI (z)), .int (nI (m_mf)), .int (nI (m_mt)), .int m_mv, .int m_mw, .ref m_ywa, .ref m_ybi, .ref m_ysi, .ref m_ynu, .ref m_ymo])), (m_yt, .inl (cI, 7, .inl m_mq)), (m_ybi, .inl (cI, 4, .inl m_bi)), (m_ysi, .inl (cI, 4, .inl m_sq)), (m_ynu, .inl (cJ, 160, .inr (.inl m_nb))), (m_ymo, .inl (cJ, 40, .inr (.inl m_mv9))), (h0, .inr (8, [.ref qh, .ref qk, .ref qd, .int b0, .ref qa, .ref qm, .ref qs, .ref qp, .ref ql, .ref qt, .ref qz, .ref qf])), (qz, .inl (cS, 4, .inr (.inr (.inr (.inr (xSh s0 s1 s2 s3)))))), (s0, .inr (4, [.int bt0, .int (nI (sz0)), .ref sn0])), (s1, .inr (4, [.int bt1, .int (nI (sz1)), .ref sn1])), (s2, .inr (4, [.int bt2, .int (nI (sz2)), .ref sn2])), (s3, .inr (4, [.int bt3, .int (nI (sz3)), .ref sn3])), (sn0, .inl (cJ, 40, .inr (.inl nu0))), (sn1, .inl (cJ, 40, .inr (.inl nu1))), (sn2, .inl (cJ, 40, .inr (.inl nu2))), (sn3, .inl (cJ, 40, .inr (.inl nv_212))), (qf, .inl (cI, 7, .inl f2_213))] tl) := hD
      subst hw_r_211
      refine lv_aload_n hx hb dL_law_1307 rfl (lv_at hl 1 rfl) ?_
      refine lv_aload_n hx hb dL_law_1308 rfl (lv_at hl 3 rfl) ?_
      refine lv_iload_n hx hb dL_law_1309 rfl (lv_at hl 0 rfl) ?_
      refine lv_iconst (v := 1) hx hb dL_law_1310 (by decide) ?_
      refine lv_iadd hx hb dL_law_1311 ?_
      refine xl_i (y := nI (i + 1)) (nI_add i 1) ?_
      refine va_sld hx hb hX hbl hbA hS (x_si (k := 1) (by decide) hi hL) dL_law_1312 ?_
      refine xl_i (y := xs (i + 1)) (congrArg xs (x_sc (k := 1) (by decide) hi hL)) ?_
      refine xl_i (y := 3) eq1 ?_
      refine lv_aload_n hx hb dL_law_1313 rfl (lv_at hl 3 rfl) ?_
      refine lv_iload_n hx hb dL_law_1314 rfl (lv_at hl 0 rfl) ?_
      refine lv_iconst (v := 2) hx hb dL_law_1315 (by decide) ?_
      refine lv_iadd hx hb dL_law_1316 ?_
      refine xl_i (y := nI (i + 2)) (nI_add i 2) ?_
      refine va_sld hx hb hX hbl hbA hS (x_si (k := 2) (by decide) hi hL) dL_law_1317 ?_
      refine xl_i (y := xs (i + 2)) (congrArg xs (x_sc (k := 2) (by decide) hi hL)) ?_
      refine lv_aload_n hx hb dL_law_1318 rfl (lv_at hl 3 rfl) ?_
      refine lv_iload_n hx hb dL_law_1319 rfl (lv_at hl 0 rfl) ?_
      refine lv_iconst (v := 3) hx hb dL_law_1320 (by decide) ?_
      refine lv_iadd hx hb dL_law_1321 ?_
      refine xl_i (y := nI (i + 3)) (nI_add i 3) ?_
      refine va_sld hx hb hX hbl hbA hS (x_si (k := 3) (by decide) hi hL) dL_law_1322 ?_
      refine xl_i (y := xs (i + 3)) (congrArg xs (x_sc (k := 3) (by decide) hi hL)) ?_
      refine xl_i (y := 3) eq3 ?_
      refine lv_aload_n hx hb dL_law_1323 rfl (lv_at hl 3 rfl) ?_
      refine lv_iload_n hx hb dL_law_1324 rfl (lv_at hl 0 rfl) ?_
      refine lv_iconst (v := 4) hx hb dL_law_1325 (by decide) ?_
      refine lv_iadd hx hb dL_law_1326 ?_
      refine xl_i (y := nI (i + 4)) (nI_add i 4) ?_
      refine va_sld hx hb hX hbl hbA hS (x_si (k := 4) (by decide) hi hL) dL_law_1327 ?_
      refine xl_i (y := xs (i + 4)) (congrArg xs (x_sc (k := 4) (by decide) hi hL)) ?_
      refine lv_aload_n hx hb dL_law_1328 rfl (lv_at hl 3 rfl) ?_
      refine lv_iload_n hx hb dL_law_1329 rfl (lv_at hl 0 rfl) ?_
      refine lv_iconst (v := 5) hx hb dL_law_1330 (by decide) ?_
      refine lv_iadd hx hb dL_law_1331 ?_
      refine xl_i (y := nI (i + 5)) (nI_add i 5) ?_
      refine va_sld hx hb hX hbl hbA hS (x_si (k := 5) (by decide) hi hL) dL_law_1332 ?_
      refine xl_i (y := xs (i + 5)) (congrArg xs (x_sc (k := 5) (by decide) hi hL)) ?_
      refine xc_ViT (wr := [(h0, .inr (8, [.ref qh, .ref qk, .ref qd, .int b0, .ref qa, .ref qm, .ref qs, .ref qp, .ref ql, .ref qt, .ref qz, .ref qf])), (qz, .inl (cS, 4, .inr (.inr (.inr (.inr (xSh s0 s1 s2 s3)))))), (s0, .inr (4, [.int bt0, .int (nI (sz0)), .ref sn0])), (s1, .inr (4, [.int bt1, .int (nI (sz1)), .ref sn1])), (s2, .inr (4, [.int bt2, .int (nI (sz2)), .ref sn2])), (s3, .inr (4, [.int bt3, .int (nI (sz3)), .ref sn3])), (sn0, .inl (cJ, 40, .inr (.inl nu0))), (sn1, .inl (cJ, 40, .inr (.inl nu1))), (sn2, .inl (cJ, 40, .inr (.inl nu2))), (sn3, .inl (cJ, 40, .inr (.inl nv_212))), (qf, .inl (cI, 7, .inl f2_213))]) hF (c_X9_copy_33 l D cI cJ cZ cS ta sa sv H.size g0 m_ys m_yk m_yo m_yt b0 m_yfa m_yfe m_mL m_mS m_mM m_yro m_yhe m_ygr m_mF m_mC m_mY m_yta z m_mf m_mt m_mv m_mw m_ywa m_ybi m_ysi m_ynu m_ymo m_bi m_sq m_nb m_mv9 m_mq (xs (i + 2)) (xs (i + 4)) (xs (i + 5)) sz3 sz3 r_z3 hsz3 r_z3 hsz3 m_hsq) kv_L_170 ⟨rfl, rfl, Nat.le_of_ble_eq_true rfl, Nat.le_of_ble_eq_true rfl⟩ ⟨Nat.le_of_ble_eq_true rfl, Nat.le_of_ble_eq_true rfl⟩ hK hN hZ hP hD hS hA [0, 2, 3, 4, 5, 1] [6, 7, 8, 9, 10, 11, 12, 13, 14, 15, 16] rfl rfl (by decide +kernel) (by decide +kernel) (by decide +kernel) 0 rfl rfl rfl rfl hl.1 rfl (Nat.le_of_ble_eq_true rfl) dL_law_1333 (fun r_215 u_r_215 H locs hw_r_215 hP hD hS => ?_)
      obtain ⟨nb2_216, mv2_217, mq2_218⟩ := u_r_215
      try dsimp only at hw_r_215
      obtain ⟨hw_r_215, i_219, i_220⟩ := hw_r_215
      have hP : va_P D vwCl (@HAppend.hAppend va_W va_W va_W _ [(h0, .inr (8, [.ref qh, .ref qk, .ref qd, .int b0, .ref qa, .ref qm, .ref qs, .ref qp, .ref ql, .ref qt, .ref qz, .ref qf])), (qz, .inl (cS, 4, .inr (.inr (.inr (.inr (xSh s0 s1 s2 s3)))))), (s0, .inr (4, [.int bt0, .int (nI (sz0)), .ref sn0])), (s1, .inr (4, [.int bt1, .int (nI (sz1)), .ref sn1])), (s2, .inr (4, [.int bt2, .int (nI (sz2)), .ref sn2])), (s3, .inr (4, [.int bt3, .int (nI (sz3)), .ref sn3])), (sn0, .inl (cJ, 40, .inr (.inl nu0))), (sn1, .inl (cJ, 40, .inr (.inl nu1))), (sn2, .inl (cJ, 40, .inr (.inl nu2))), (sn3, .inl (cJ, 40, .inr (.inl nv_212))), (qf, .inl (cI, 7, .inl f2_213)), (g0, .inr (9, [.ref m_ys, .ref m_yk, .ref m_yo, .ref m_yt, .int b0, .ref m_yfa, .ref m_yfe, .int m_mL, .int m_mS, .int m_mM, .ref m_yro, .ref m_yhe, .ref m_ygr, .int m_mF, .int m_mC, .int m_mY, .ref m_yta, .int (nI (z)), .int (nI (m_mf)), .int (nI (m_mt)), .int m_mv, .int m_mw, .ref m_ywa, .ref m_ybi, .ref m_ysi, .ref m_ynu, .ref m_ymo])), (m_ybi, .inl (cI, 4, .inl m_bi)), (m_ysi, .inl (cI, 4, .inl m_sq)), (m_ynu, .inl (cJ, 160, .inr (.inl nb2_216))), (m_ymo, .inl (cJ, 40, .inr (.inl mv2_217))), (m_yt, .inl (cI, 7, .inl mq2_218))] tl) H := hP
      have hD : va_D A (@HAppend.hAppend va_W va_W va_W _ [(h0, .inr (8, [.ref qh, .ref qk, .ref qd, .int b0, .ref qa, .ref qm, .ref qs, .ref qp, .ref ql, .ref qt, .ref qz, .ref qf])), (qz, .inl (cS, 4, .inr (.inr (.inr (.inr (xSh s0 s1 s2 s3)))))), (s0, .inr (4, [.int bt0, .int (nI (sz0)), .ref sn0])), (s1, .inr (4, [.int bt1, .int (nI (sz1)), .ref sn1])), (s2, .inr (4, [.int bt2, .int (nI (sz2)), .ref sn2])), (s3, .inr (4, [.int bt3, .int (nI (sz3)), .ref sn3])), (sn0, .inl (cJ, 40, .inr (.inl nu0))), (sn1, .inl (cJ, 40, .inr (.inl nu1))), (sn2, .inl (cJ, 40, .inr (.inl nu2))), (sn3, .inl (cJ, 40, .inr (.inl nv_212))), (qf, .inl (cI, 7, .inl f2_213)), (g0, .inr (9, [.ref m_ys, .ref m_yk, .ref m_yo, .ref m_yt, .int b0, .ref m_yfa, .ref m_yfe, .int m_mL, .int m_mS, .int m_mM, .ref m_yro, .ref m_yhe, .ref m_ygr, .int m_mF, .int m_mC, .int m_mY, .ref m_yta, .int (nI (z)), .int (nI (m_mf)), .int (nI (m_mt)), .int m_mv, .int m_mw, .ref m_ywa, .ref m_ybi, .ref m_ysi, .ref m_ynu, .ref m_ymo])), (m_ybi, .inl (cI, 4, .inl m_bi)), (m_ysi, .inl (cI, 4, .inl m_sq)), (m_ynu, .inl (cJ, 160, .inr (.inl nb2_216))), (m_ymo, .inl (cJ, 40, .inr (.inl mv2_217))), (m_yt, .inl (cI, 7, .inl mq2_218))] tl) := hD
      subst hw_r_215
      refine lv_icmp_eq (tgt := 1482) hx hb dL_law_1336 (by decide) (fun c_221 => ?_) (fun c_221 => absurd (sp_creq r_b3 r_b3) c_221)
      exact kkx _ _ _ nu0 nu1 nu2 nv_212 f2_213 mq2_218 nb2_216 mv2_217 (xt_P hP [0, 1, 2, 3, 4, 5, 6, 7, 8, 9, 10, 11, 16, 12, 13, 14, 15] rfl) (xt_D hD [0, 1, 2, 3, 4, 5, 6, 7, 8, 9, 10, 11, 16, 12, 13, 14, 15] (by decide +kernel) rfl) (fun j hj => (i_220 (0 + j) (by omega)).trans (r_n0 j hj)) (fun j hj => (i_220 (40 + j) (by omega)).trans (r_n1 j hj)) (fun j hj => (i_220 (80 + j) (by omega)).trans (r_n2 j hj)) (fun j hj => (i_219 j).trans ((sp_cneq r_b3 r_b3 r_n3 (by omega) (r_n3 j hj)).trans (i_214 j).symm)) hS hl
