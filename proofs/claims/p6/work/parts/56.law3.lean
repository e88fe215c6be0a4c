set_option maxHeartbeats 4000000 in
set_option maxRecDepth 100000 in
theorem law_36 {p : Program} {e : Env} {s : State} {m : MethodId} {below : List Frame} {meth : Method} {c : Code} (l : Launch) (D : va_G) (cI cJ cZ cS : ClassId) (ta : Nat) (sa sv : Nat → Nat) {b L : Nat} {xs : Nat → Int32} {A : Nat → Prop} (hL : L ≤ 3072) (hF : CallFix p m c cL_law 4 s #[Value.ref b] (Cond.initialized RX8 :: wsU) RL) (hr : meth.sig.returnType = ret) (hlk : meth.locks = false) (hK : va_K D vwCl (xT cI cJ cZ cS) s) (hN : XN sa s) (hX : va_X b L xs s s.heap) (hbl : b < s.heap.size) (hA : ∀ q : Nat, s.heap.size ≤ q → A q) (hbA : ¬ A b) (hAs : ∀ q, A q → s.heap.size ≤ q) (hZ : ST ta sa sv A s s.heap) (h0 g0 i : Nat) (hi : i + 6 ≤ L) (qh : Nat) (qk : Nat) (qd : Nat) (b0 : Int32) (qa : Nat) (qm : Nat) (qs : Nat) (qp : Nat) (ql : Nat) (qt : Nat) (qz : Nat) (qf : Nat) (s0 : Nat) (s1 : Nat) (s2 : Nat) (s3 : Nat) (bt0 : Int32) (sz0 : Nat) (sn0 : Nat) (bt1 : Int32) (sz1 : Nat) (sn1 : Nat) (bt2 : Int32) (sz2 : Nat) (sn2 : Nat) (bt3 : Int32) (sz3 : Nat) (sn3 : Nat) (nu0 : Nat → Int64) (nu1 : Nat → Int64) (nu2 : Nat → Int64) (nu3 : Nat → Int64) (ff : Nat → Int32) (m_ys : Nat) (m_yk : Nat) (m_yo : Nat) (m_yt : Nat) (m_yfa : Nat) (m_yfe : Nat) (m_mL : Int32) (m_mS : Int32) (m_mM : Int32) (m_yro : Nat) (m_yhe : Nat) (m_ygr : Nat) (m_mF : Int32) (m_mC : Int32) (m_mY : Int32) (m_yta : Nat) (z : Nat) (m_mf : Nat) (m_mt : Nat) (m_mv : Int32) (m_mw : Int32) (m_ywa : Nat) (m_ybi : Nat) (m_ysi : Nat) (m_ynu : Nat) (m_ymo : Nat) (m_mq : Nat → Int32) (m_bi : Nat → Int32) (m_sq : Nat → Int32) (m_nb : Nat → Int64) (m_mv9 : Nat → Int64) {tl : va_W} {H : Heap} {locs : List Loc} {ls : Array Slot} (hP : va_P D vwCl (@HAppend.hAppend va_W va_W va_W _ [(h0, .inr (8, [.ref qh, .ref qk, .ref qd, .int b0, .ref qa, .ref qm, .ref qs, .ref qp, .ref ql, .ref qt, .ref qz, .ref qf])), (qz, .inl (cS, 4, .inr (.inr (.inr (.inr (xSh s0 s1 s2 s3)))))), (s0, .inr (4, [.int bt0, .int (nI (sz0)), .ref sn0])), (s1, .inr (4, [.int bt1, .int (nI (sz1)), .ref sn1])), (s2, .inr (4, [.int bt2, .int (nI (sz2)), .ref sn2])), (s3, .inr (4, [.int bt3, .int (nI (sz3)), .ref sn3])), (sn0, .inl (cJ, 40, .inr (.inl nu0))), (sn1, .inl (cJ, 40, .inr (.inl nu1))), (sn2, .inl (cJ, 40, .inr (.inl nu2))), (sn3, .inl (cJ, 40, .inr (.inl nu3))), (qf, .inl (cI, 7, .inl ff)), (g0, .inr (9, [.ref m_ys, .ref m_yk, .ref m_yo, .ref m_yt, .int b0, .ref m_yfa, .ref m_yfe, .int m_mL, .int m_mS, .int m_mM, .ref m_yro, .ref m_yhe, .ref m_ygr, .int m_mF, .int m_mC, .int m_mY, .ref m_yta, .int (nI (z)), .int (nI (m_mf)), .int (nI (m_mt)), .int m_mv, .int m_mw, .ref m_ywa, .ref m_ybi, .ref m_ysi, .ref m_ynu, .ref m_ymo])), (m_yt, .inl (cI, 7, .inl m_mq)), (m_ybi, .inl (cI, 4, .inl m_bi)), (m_ysi, .inl (cI, 4, .inl m_sq)), (m_ynu, .inl (cJ, 160, .inr (.inl m_nb))), (m_ymo, .inl (cJ, 40, .inr (.inl m_mv9)))] tl) H) (hD : va_D A (@HAppend.hAppend va_W va_W va_W _ [(h0, .inr (8, [.ref qh, .ref qk, .ref qd, .int b0, .ref qa, .ref qm, .ref qs, .ref qp, .ref ql, .ref qt, .ref qz, .ref qf])), (qz, .inl (cS, 4, .inr (.inr (.inr (.inr (xSh s0 s1 s2 s3)))))), (s0, .inr (4, [.int bt0, .int (nI (sz0)), .ref sn0])), (s1, .inr (4, [.int bt1, .int (nI (sz1)), .ref sn1])), (s2, .inr (4, [.int bt2, .int (nI (sz2)), .ref sn2])), (s3, .inr (4, [.int bt3, .int (nI (sz3)), .ref sn3])), (sn0, .inl (cJ, 40, .inr (.inl nu0))), (sn1, .inl (cJ, 40, .inr (.inl nu1))), (sn2, .inl (cJ, 40, .inr (.inl nu2))), (sn3, .inl (cJ, 40, .inr (.inl nu3))), (qf, .inl (cI, 7, .inl ff)), (g0, .inr (9, [.ref m_ys, .ref m_yk, .ref m_yo, .ref m_yt, .int b0, .ref m_yfa, .ref m_yfe, .int m_mL, .int m_mS, .int m_mM, .ref m_yro, .ref m_yhe, .ref m_ygr, .int m_mF, .int m_mC, .int m_mY, .ref m_yta, .int (nI (z)), .int (nI (m_mf)), .int (nI (m_mt)), .int m_mv, .int m_mw, .ref m_ywa, .ref m_ybi, .ref m_ysi, .ref m_ynu, .ref m_ymo])), (m_yt, .inl (cI, 7, .inl m_mq)), (m_ybi, .inl (cI, 4, .inl m_bi)), (m_ysi, .inl (cI, 4, .inl m_sq)), (m_ynu, .inl (cJ, 160, .inr (.inl m_nb))), (m_ymo, .inl (cJ, 40, .inr (.inl m_mv9)))] tl)) (hz : z ≤ 120) (hsz0 : sz0 ≤ 40) (hsz1 : sz1 ≤ 40) (hsz2 : sz2 ≤ 40) (hsz3 : sz3 ≤ 40) (r_b0 : m_bi 0 = bt0) (r_z0 : m_sq 0 = nI sz0) (r_n0 : ∀ j, j < 40 → m_nb (0 + j) = nu0 j) (r_b1 : m_bi 1 = bt1) (r_z1 : m_sq 1 = nI sz1) (r_n1 : ∀ j, j < 40 → m_nb (40 + j) = nu1 j) (r_b2 : m_bi 2 = bt2) (r_z2 : m_sq 2 = nI sz2) (r_n2 : ∀ j, j < 40 → m_nb (80 + j) = nu2 j) (r_b3 : m_bi 3 = bt3) (r_z3 : m_sq 3 = nI sz3) (r_n3 : ∀ j, j < 40 → m_nb (120 + j) = nu3 j) (m_hsq : BA 4 41 m_sq) (hS : va_S A s.heap H locs) (hl : lv_has ls 4 [(3, .int (nI i)), (2, .ref g0), (1, .ref h0), (0, .ref b)]) (kkx : ∀ (H : Heap) (locs : List Loc) (ls : Array Slot) (nu0_n : Nat → Int64) (nu1_n : Nat → Int64) (nu2_n : Nat → Int64) (nu3_n : Nat → Int64) (ff_n : Nat → Int32) (m_mq_n : Nat → Int32) (m_nb_n : Nat → Int64) (m_mv9_n : Nat → Int64), va_P D vwCl (@HAppend.hAppend va_W va_W va_W _ [(h0, .inr (8, [.ref qh, .ref qk, .ref qd, .int b0, .ref qa, .ref qm, .ref qs, .ref qp, .ref ql, .ref qt, .ref qz, .ref qf])), (qz, .inl (cS, 4, .inr (.inr (.inr (.inr (xSh s0 s1 s2 s3)))))), (s0, .inr (4, [.int bt0, .int (nI (sz0)), .ref sn0])), (s1, .inr (4, [.int bt1, .int (nI (sz1)), .ref sn1])), (s2, .inr (4, [.int bt2, .int (nI (sz2)), .ref sn2])), (s3, .inr (4, [.int bt3, .int (nI (sz3)), .ref sn3])), (sn0, .inl (cJ, 40, .inr (.inl nu0_n))), (sn1, .inl (cJ, 40, .inr (.inl nu1_n))), (sn2, .inl (cJ, 40, .inr (.inl nu2_n))), (sn3, .inl (cJ, 40, .inr (.inl nu3_n))), (qf, .inl (cI, 7, .inl ff_n)), (g0, .inr (9, [.ref m_ys, .ref m_yk, .ref m_yo, .ref m_yt, .int b0, .ref m_yfa, .ref m_yfe, .int m_mL, .int m_mS, .int m_mM, .ref m_yro, .ref m_yhe, .ref m_ygr, .int m_mF, .int m_mC, .int m_mY, .ref m_yta, .int (nI (z)), .int (nI (m_mf)), .int (nI (m_mt)), .int m_mv, .int m_mw, .ref m_ywa, .ref m_ybi, .ref m_ysi, .ref m_ynu, .ref m_ymo])), (m_yt, .inl (cI, 7, .inl m_mq_n)), (m_ybi, .inl (cI, 4, .inl m_bi)), (m_ysi, .inl (cI, 4, .inl m_sq)), (m_ynu, .inl (cJ, 160, .inr (.inl m_nb_n))), (m_ymo, .inl (cJ, 40, .inr (.inl m_mv9_n)))] tl) H → va_D A (@HAppend.hAppend va_W va_W va_W _ [(h0, .inr (8, [.ref qh, .ref qk, .ref qd, .int b0, .ref qa, .ref qm, .ref qs, .ref qp, .ref ql, .ref qt, .ref qz, .ref qf])), (qz, .inl (cS, 4, .inr (.inr (.inr (.inr (xSh s0 s1 s2 s3)))))), (s0, .inr (4, [.int bt0, .int (nI (sz0)), .ref sn0])), (s1, .inr (4, [.int bt1, .int (nI (sz1)), .ref sn1])), (s2, .inr (4, [.int bt2, .int (nI (sz2)), .ref sn2])), (s3, .inr (4, [.int bt3, .int (nI (sz3)), .ref sn3])), (sn0, .inl (cJ, 40, .inr (.inl nu0_n))), (sn1, .inl (cJ, 40, .inr (.inl nu1_n))), (sn2, .inl (cJ, 40, .inr (.inl nu2_n))), (sn3, .inl (cJ, 40, .inr (.inl nu3_n))), (qf, .inl (cI, 7, .inl ff_n)), (g0, .inr (9, [.ref m_ys, .ref m_yk, .ref m_yo, .ref m_yt, .int b0, .ref m_yfa, .ref m_yfe, .int m_mL, .int m_mS, .int m_mM, .ref m_yro, .ref m_yhe, .ref m_ygr, .int m_mF, .int m_mC, .int m_mY, .ref m_yta, .int (nI (z)), .int (nI (m_mf)), .int (nI (m_mt)), .int m_mv, .int m_mw, .ref m_ywa, .ref m_ybi, .ref m_ysi, .ref m_ynu, .ref m_ymo])), (m_yt, .inl (cI, 7, .inl m_mq_n)), (m_ybi, .inl (cI, 4, .inl m_bi)), (m_ysi, .inl (cI, 4, .inl m_sq)), (m_ynu, .inl (cJ, 160, .inr (.inl m_nb_n))), (m_ymo, .inl (cJ, 40, .inr (.inl m_mv9_n)))] tl) → (∀ j, j < 40 → m_nb_n (0 + j) = nu0_n j) → (∀ j, j < 40 → m_nb_n (40 + j) = nu1_n j) → (∀ j, j < 40 → m_nb_n (80 + j) = nu2_n j) → (∀ j, j < 40 → m_nb_n (120 + j) = nu3_n j) → va_S A s.heap H locs → lv_has ls 4 [(3, .int (nI i)), (2, .ref g0), (1, .ref h0), (0, .ref b)] → W p l e room_1 s m #[Value.ref b] below meth c H locs 82 4273 (lw_Z below #[Value.ref b] s) (F0 m 1482 ls [])) : W p l e room_1 s m #[Value.ref b] below meth c H locs 82 4273 (lw_Z below #[Value.ref b] s) (F0 m 1278 ls []) := by
  have hx := hF.1
  have hb := hF.2.1
  have hml := hF.2.2.1
  have hown := hF.2.2.2.1
  have hu : ∀ w ∈ wsU, w.before _ s = true := fun w h => hF.2.2.2.2 w (List.mem_cons_of_mem _ h)
  rcases x_sh4 (xs (i + 1)) with oq1 | eq1 | eq1 | eq1 | eq1
  · skip
    refine lv_aload_n hx hb dL_law_1278 rfl (lv_at hl 2 rfl) ?_
    rcases x_sh4 (xs (i + 3)) with oq3 | eq3 | eq3 | eq3 | eq3
    · skip
      refine lv_aload_n hx hb dL_law_1279 rfl (lv_at hl 3 rfl) ?_
      refine lv_iload_n hx hb dL_law_1280 rfl (lv_at hl 0 rfl) ?_
      refine lv_iconst (v := 1) hx hb dL_law_1281 (by decide) ?_
      refine lv_iadd hx hb dL_law_1282 ?_
      refine xl_i (y := nI (i + 1)) (nI_add i 1) ?_
      refine va_sld hx hb hX hbl hbA hS (x_si (k := 1) (by decide) hi hL) dL_law_1283 ?_
      refine xl_i (y := xs (i + 1)) (congrArg xs (x_sc (k := 1) (by decide) hi hL)) ?_
      refine lv_aload_n hx hb dL_law_1284 rfl (lv_at hl 3 rfl) ?_
      refine lv_iload_n hx hb dL_law_1285 rfl (lv_at hl 0 rfl) ?_
      refine lv_iconst (v := 2) hx hb dL_law_1286 (by decide) ?_
      refine lv_iadd hx hb dL_law_1287 ?_
      refine xl_i (y := nI (i + 2)) (nI_add i 2) ?_
      refine va_sld hx hb hX hbl hbA hS (x_si (k := 2) (by decide) hi hL) dL_law_1288 ?_
      refine xl_i (y := xs (i + 2)) (congrArg xs (x_sc (k := 2) (by decide) hi hL)) ?_
      refine lv_aload_n hx hb dL_law_1289 rfl (lv_at hl 3 rfl) ?_
      refine lv_iload_n hx hb dL_law_1290 rfl (lv_at hl 0 rfl) ?_
      refine lv_iconst (v := 3) hx hb dL_law_1291 (by decide) ?_
      refine lv_iadd hx hb dL_law_1292 ?_
      refine xl_i (y := nI (i + 3)) (nI_add i 3) ?_
      refine va_sld hx hb hX hbl hbA hS (x_si (k := 3) (by decide) hi hL) dL_law_1293 ?_
      refine xl_i (y := xs (i + 3)) (congrArg xs (x_sc (k := 3) (by decide) hi hL)) ?_
      refine lv_aload_n hx hb dL_law_1294 rfl (lv_at hl 3 rfl) ?_
      refine lv_iload_n hx hb dL_law_1295 rfl (lv_at hl 0 rfl) ?_
      refine lv_iconst (v := 4) hx hb dL_law_1296 (by decide) ?_
      refine lv_iadd hx hb dL_law_1297 ?_
      refine xl_i (y := nI (i + 4)) (nI_add i 4) ?_
      refine va_sld hx hb hX hbl hbA hS (x_si (k := 4) (by decide) hi hL) dL_law_1298 ?_
      refine xl_i (y := xs (i + 4)) (congrArg xs (x_sc (k := 4) (by decide) hi hL)) ?_
      refine lv_aload_n hx hb dL_law_1299 rfl (lv_at hl 3 rfl) ?_
      refine lv_iload_n hx hb dL_law_1300 rfl (lv_at hl 0 rfl) ?_
      refine lv_iconst (v := 5) hx hb dL_law_1301 (by decide) ?_
      refine lv_iadd hx hb dL_law_1302 ?_
      refine xl_i (y := nI (i + 5)) (nI_add i 5) ?_
      refine va_sld hx hb hX hbl hbA hS (x_si (k := 5) (by decide) hi hL) dL_law_1303 ?_
      refine xl_i (y := xs (i + 5)) (congrArg xs (x_sc (k := 5) (by decide) hi hL)) ?_
      refine xc_ViT (wr := [(qz, .inl (cS, 4, .inr (.inr (.inr (.inr (xSh s0 s1 s2 s3)))))), (s0, .inr (4, [.int bt0, .int (nI (sz0)), .ref sn0])), (s1, .inr (4, [.int bt1, .int (nI (sz1)), .ref sn1])), (s2, .inr (4, [.int bt2, .int (nI (sz2)), .ref sn2])), (s3, .inr (4, [.int bt3, .int (nI (sz3)), .ref sn3])), (sn0, .inl (cJ, 40, .inr (.inl nu0))), (sn1, .inl (cJ, 40, .inr (.inl nu1))), (sn2, .inl (cJ, 40, .inr (.inl nu2))), (sn3, .inl (cJ, 40, .inr (.inl nu3))), (g0, .inr (9, [.ref m_ys, .ref m_yk, .ref m_yo, .ref m_yt, .int b0, .ref m_yfa, .ref m_yfe, .int m_mL, .int m_mS, .int m_mM, .ref m_yro, .ref m_yhe, .ref m_ygr, .int m_mF, .int m_mC, .int m_mY, .ref m_yta, .int (nI (z)), .int (nI (m_mf)), .int (nI (m_mt)), .int m_mv, .int m_mw, .ref m_ywa, .ref m_ybi, .ref m_ysi, .ref m_ynu, .ref m_ymo])), (m_yt, .inl (cI, 7, .inl m_mq)), (m_ybi, .inl (cI, 4, .inl m_bi)), (m_ysi, .inl (cI, 4, .inl m_sq)), (m_ynu, .inl (cJ, 160, .inr (.inl m_nb))), (m_ymo, .inl (cJ, 40, .inr (.inl m_mv9)))]) hF (c_X8_copy_o l D cI cJ cZ cS ta sa sv H.size h0 qh qk qd b0 qa qm qs qp ql qt qz qf ff (xs (i + 1)) (xs (i + 2)) (xs (i + 3)) (xs (i + 4)) (xs (i + 5)) oq1) kv_L_166 ⟨rfl, rfl, Nat.le_of_ble_eq_true rfl, Nat.le_of_ble_eq_true rfl⟩ ⟨Nat.le_of_ble_eq_true rfl, Nat.le_of_ble_eq_true rfl⟩ hK hN hZ hP hD hS hA [0, 10] [1, 2, 3, 4, 5, 6, 7, 8, 9, 11, 12, 13, 14, 15, 16] rfl rfl rfl (by decide +kernel) (by decide +kernel) 0 rfl rfl rfl rfl hl.1 rfl (Nat.le_of_ble_eq_true rfl) dL_law_1304 (fun r_1 u_r_1 H locs hw_r_1 hP hD hS => ?_)
      obtain ⟨f2_2, rfl⟩ : ∃ z, z = u_r_1 := ⟨_, rfl⟩
      try dsimp only at hw_r_1
      have hP : va_P D vwCl (@HAppend.hAppend va_W va_W va_W _ [(qz, .inl (cS, 4, .inr (.inr (.inr (.inr (xSh s0 s1 s2 s3)))))), (s0, .inr (4, [.int bt0, .int (nI (sz0)), .ref sn0])), (s1, .inr (4, [.int bt1, .int (nI (sz1)), .ref sn1])), (s2, .inr (4, [.int bt2, .int (nI (sz2)), .ref sn2])), (s3, .inr (4, [.int bt3, .int (nI (sz3)), .ref sn3])), (sn0, .inl (cJ, 40, .inr (.inl nu0))), (sn1, .inl (cJ, 40, .inr (.inl nu1))), (sn2, .inl (cJ, 40, .inr (.inl nu2))), (sn3, .inl (cJ, 40, .inr (.inl nu3))), (g0, .inr (9, [.ref m_ys, .ref m_yk, .ref m_yo, .ref m_yt, .int b0, .ref m_yfa, .ref m_yfe, .int m_mL, .int m_mS, .int m_mM, .ref m_yro, .ref m_yhe, .ref m_ygr, .int m_mF, .int m_mC, .int m_mY, .ref m_yta, .int (nI (z)), .int (nI (m_mf)), .int (nI (m_mt)), .int m_mv, .int m_mw, .ref m_ywa, .ref m_ybi, .ref m_ysi, .ref m_ynu, .ref m_ymo])), (m_yt, .inl (cI, 7, .inl m_mq)), (m_ybi, .inl (cI, 4, .inl m_bi)), (m_ysi, .inl (cI, 4, .inl m_sq)), (m_ynu, .inl (cJ, 160, .inr (.inl m_nb))), (m_ymo, .inl (cJ, 40, .inr (.inl m_mv9))), (h0, .inr (8, [.ref qh, .ref qk, .ref qd, .int b0, .ref qa, .ref qm, .ref qs, .ref qp, .ref ql, .ref qt, .ref qz, .ref qf])), (qf, .inl (cI, 7, .inl f2_2))] tl) H := hP
      have hD : va_D A (@HAppend.hAppend va_W va_W va_W _ [(qz, .inl (cS, 4, .inr (.inr (.inr (.inr (xSh s0 s1 s2 s3)))))), (s0, .inr (4, [.int bt0, .int (nI (sz0)), .ref sn0])), (s1, .inr (4, [.int bt1, .int (nI (sz1)), .ref sn1])), (s2, .inr (4, [.int bt2, .int (nI (sz2)), .ref sn2])), (s3, .inr (4, [.int bt3, .int (nI (sz3)), .ref sn3])), (sn0, .inl (cJ, 40, .inr (.inl nu0))), (sn1, .inl (cJ, 40, .inr (.inl nu1))), (sn2, .inl (cJ, 40, .inr (.inl nu2))), (sn3, .inl (cJ, 40, .inr (.inl nu3))), (g0, .inr (9, [.ref m_ys, .ref m_yk, .ref m_yo, .ref m_yt, .int b0, .ref m_yfa, .ref m_yfe, .int m_mL, .int m_mS, .int m_mM, .ref m_yro, .ref m_yhe, .ref m_ygr, .int m_mF, .int m_mC, .int m_mY, .ref m_yta, .int (nI (z)), .int (nI (m_mf)), .int (nI (m_mt)), .int m_mv, .int m_mw, .ref m_ywa, .ref m_ybi, .ref m_ysi, .ref m_ynu, .ref m_ymo])), (m_yt, .inl (cI, 7, .inl m_mq)), (m_ybi, .inl (cI, 4, .inl m_bi)), (m_ysi, .inl (cI, 4, .inl m_sq)), (m_ynu, .inl (cJ, 160, .inr (.inl m_nb))), (m_ymo, .inl (cJ, 40, .inr (.inl m_mv9))), (h0, .inr (8, [.ref qh, .ref qk, .ref qd, .int b0, .ref qa, .ref qm, .ref qs, .ref qp, .ref ql, .ref qt, .ref qz, .ref qf])), (qf, .inl (cI, 7, .inl f2_2))] tl) := hD
      subst hw_r_1
      refine lv_pop hx hb dL_law_1307 rfl ?_
      refine lv_aload_n hx hb dL_law_1308 rfl (lv_at hl 1 rfl) ?_
      refine lv_aload_n hx hb dL_law_1309 rfl (lv_at hl 3 rfl) ?_
      refine lv_iload_n hx hb dL_law_1310 rfl (lv_at hl 0 rfl) ?_
      refine lv_iconst (v := 1) hx hb dL_law_1311 (by decide) ?_
      refine lv_iadd hx hb dL_law_1312 ?_
      refine xl_i (y := nI (i + 1)) (nI_add i 1) ?_
      refine va_sld hx hb hX hbl hbA hS (x_si (k := 1) (by decide) hi hL) dL_law_1313 ?_
      refine xl_i (y := xs (i + 1)) (congrArg xs (x_sc (k := 1) (by decide) hi hL)) ?_
      refine lv_aload_n hx hb dL_law_1314 rfl (lv_at hl 3 rfl) ?_
      refine lv_iload_n hx hb dL_law_1315 rfl (lv_at hl 0 rfl) ?_
      refine lv_iconst (v := 2) hx hb dL_law_1316 (by decide) ?_
      refine lv_iadd hx hb dL_law_1317 ?_
      refine xl_i (y := nI (i + 2)) (nI_add i 2) ?_
      refine va_sld hx hb hX hbl hbA hS (x_si (k := 2) (by decide) hi hL) dL_law_1318 ?_
      refine xl_i (y := xs (i + 2)) (congrArg xs (x_sc (k := 2) (by decide) hi hL)) ?_
      refine lv_aload_n hx hb dL_law_1319 rfl (lv_at hl 3 rfl) ?_
      refine lv_iload_n hx hb dL_law_1320 rfl (lv_at hl 0 rfl) ?_
      refine lv_iconst (v := 3) hx hb dL_law_1321 (by decide) ?_
      refine lv_iadd hx hb dL_law_1322 ?_
      refine xl_i (y := nI (i + 3)) (nI_add i 3) ?_
      refine va_sld hx hb hX hbl hbA hS (x_si (k := 3) (by decide) hi hL) dL_law_1323 ?_
      refine xl_i (y := xs (i + 3)) (congrArg xs (x_sc (k := 3) (by decide) hi hL)) ?_
      refine lv_aload_n hx hb dL_law_1324 rfl (lv_at hl 3 rfl) ?_
      refine lv_iload_n hx hb dL_law_1325 rfl (lv_at hl 0 rfl) ?_
      refine lv_iconst (v := 4) hx hb dL_law_1326 (by decide) ?_
      refine lv_iadd hx hb dL_law_1327 ?_
      refine xl_i (y := nI (i + 4)) (nI_add i 4) ?_
      refine va_sld hx hb hX hbl hbA hS (x_si (k := 4) (by decide) hi hL) dL_law_1328 ?_
      refine xl_i (y := xs (i + 4)) (congrArg xs (x_sc (k := 4) (by decide) hi hL)) ?_
      refine lv_aload_n hx hb dL_law_1329 rfl (lv_at hl 3 rfl) ?_
      refine lv_iload_n hx hb dL_law_1330 rfl (lv_at hl 0 rfl) ?_
      refine lv_iconst (v := 5) hx hb dL_law_1331 (by decide) ?_
      refine lv_iadd hx hb dL_law_1332 ?_
      refine xl_i (y := nI (i + 5)) (nI_add i 5) ?_
      refine va_sld hx hb hX hbl hbA hS (x_si (k := 5) (by decide) hi hL) dL_law_1333 ?_
      refine xl_i (y := xs (i + 5)) (congrArg xs (x_sc (k := 5) (by decide) hi hL)) ?_
      refine xc_ViT (wr := [(qz, .inl (cS, 4, .inr (.inr (.inr (.inr (xSh s0 s1 s2 s3)))))), (s0, .inr (4, [.int bt0, .int (nI (sz0)), .ref sn0])), (s1, .inr (4, [.int bt1, .int (nI (sz1)), .ref sn1])), (s2, .inr (4, [.int bt2, .int (nI (sz2)), .ref sn2])), (s3, .inr (4, [.int bt3, .int (nI (sz3)), .ref sn3])), (sn0, .inl (cJ, 40, .inr (.inl nu0))), (sn1, .inl (cJ, 40, .inr (.inl nu1))), (sn2, .inl (cJ, 40, .inr (.inl nu2))), (sn3, .inl (cJ, 40, .inr (.inl nu3))), (m_ybi, .inl (cI, 4, .inl m_bi)), (m_ysi, .inl (cI, 4, .inl m_sq)), (m_ynu, .inl (cJ, 160, .inr (.inl m_nb))), (m_ymo, .inl (cJ, 40, .inr (.inl m_mv9))), (h0, .inr (8, [.ref qh, .ref qk, .ref qd, .int b0, .ref qa, .ref qm, .ref qs, .ref qp, .ref ql, .ref qt, .ref qz, .ref qf])), (qf, .inl (cI, 7, .inl f2_2))]) hF (c_X9_copy_o l D cI cJ cZ cS ta sa sv H.size g0 m_ys m_yk m_yo m_yt b0 m_yfa m_yfe m_mL m_mS m_mM m_yro m_yhe m_ygr m_mF m_mC m_mY m_yta z m_mf m_mt m_mv m_mw m_ywa m_ybi m_ysi m_ynu m_ymo m_mq (xs (i + 1)) (xs (i + 2)) (xs (i + 3)) (xs (i + 4)) (xs (i + 5)) oq1) kv_L_170 ⟨rfl, rfl, Nat.le_of_ble_eq_true rfl, Nat.le_of_ble_eq_true rfl⟩ ⟨Nat.le_of_ble_eq_true rfl, Nat.le_of_ble_eq_true rfl⟩ hK hN hZ hP hD hS hA [9, 10] [0, 1, 2, 3, 4, 5, 6, 7, 8, 11, 12, 13, 14, 15, 16] rfl rfl rfl (by decide +kernel) (by decide +kernel) 0 rfl rfl rfl rfl hl.1 rfl (Nat.le_of_ble_eq_true rfl) dL_law_1334 (fun r_3 u_r_3 H locs hw_r_3 hP hD hS => ?_)
      obtain ⟨mq2_4, rfl⟩ : ∃ z, z = u_r_3 := ⟨_, rfl⟩
      try dsimp only at hw_r_3
      have hP : va_P D vwCl (@HAppend.hAppend va_W va_W va_W _ [(qz, .inl (cS, 4, .inr (.inr (.inr (.inr (xSh s0 s1 s2 s3)))))), (s0, .inr (4, [.int bt0, .int (nI (sz0)), .ref sn0])), (s1, .inr (4, [.int bt1, .int (nI (sz1)), .ref sn1])), (s2, .inr (4, [.int bt2, .int (nI (sz2)), .ref sn2])), (s3, .inr (4, [.int bt3, .int (nI (sz3)), .ref sn3])), (sn0, .inl (cJ, 40, .inr (.inl nu0))), (sn1, .inl (cJ, 40, .inr (.inl nu1))), (sn2, .inl (cJ, 40, .inr (.inl nu2))), (sn3, .inl (cJ, 40, .inr (.inl nu3))), (m_ybi, .inl (cI, 4, .inl m_bi)), (m_ysi, .inl (cI, 4, .inl m_sq)), (m_ynu, .inl (cJ, 160, .inr (.inl m_nb))), (m_ymo, .inl (cJ, 40, .inr (.inl m_mv9))), (h0, .inr (8, [.ref qh, .ref qk, .ref qd, .int b0, .ref qa, .ref qm, .ref qs, .ref qp, .ref ql, .ref qt, .ref qz, .ref qf])), (qf, .inl (cI, 7, .inl f2_2)), (g0, .inr (9, [.ref m_ys, .ref m_yk, .ref m_yo, .ref m_yt, .int b0, .ref m_yfa, .ref m_yfe, .int m_mL, .int m_mS, .int m_mM, .ref m_yro, .ref m_yhe, .ref m_ygr, .int m_mF, .int m_mC, .int m_mY, .ref m_yta, .int (nI (z)), .int (nI (m_mf)), .int (nI (m_mt)), .int m_mv, .int m_mw, .ref m_ywa, .ref m_ybi, .ref m_ysi, .ref m_ynu, .ref m_ymo])), (m_yt, .inl (cI, 7, .inl mq2_4))] tl) H := hP
      have hD : va_D A (@HAppend.hAppend va_W va_W va_W _ [(qz, .inl (cS, 4, .inr (.inr (.inr (.inr (xSh s0 s1 s2 s3)))))), (s0, .inr (4, [.int bt0, .int (nI (sz0)), .ref sn0])), (s1, .inr (4, [.int bt1, .int (nI (sz1)), .ref sn1])), (s2, .inr (4, [.int bt2, .int (nI (sz2)), .ref sn2])), (s3, .inr (4, [.int bt3, .int (nI (sz3)), .ref sn3])), (sn0, .inl (cJ, 40, .inr (.inl nu0))), (sn1, .inl (cJ, 40, .inr (.inl nu1))), (sn2, .inl (cJ, 40, .inr (.inl nu2))), (sn3, .inl (cJ, 40, .inr (.inl nu3))), (m_ybi, .inl (cI, 4, .inl m_bi)), (m_ysi, .inl (cI, 4, .inl m_sq)), (m_ynu, .inl (cJ, 160, .inr (.inl m_nb))), (m_ymo, .inl (cJ, 40, .inr (.inl m_mv9))), (h0, .inr (8, [.ref qh, .ref qk, .ref qd, .int b0, .ref qa, .ref qm, .ref qs, .ref qp, .ref ql, .ref qt, .ref qz, .ref qf])), (qf, .inl (cI, 7, .inl f2_2)), (g0, .inr (9, [.ref m_ys, .ref m_yk, .ref m_yo, .ref m_yt, .int b0, .ref m_yfa, .ref m_yfe, .int m_mL, .int m_mS, .int m_mM, .ref m_yro, .ref m_yhe, .ref m_ygr, .int m_mF, .int m_mC, .int m_mY, .ref m_yta, .int (nI (z)), .int (nI (m_mf)), .int (nI (m_mt)), .int m_mv, .int m_mw, .ref m_ywa, .ref m_ybi, .ref m_ysi, .ref m_ynu, .ref m_ymo])), (m_yt, .inl (cI, 7, .inl mq2_4))] tl) := hD
      subst hw_r_3
      refine lv_pop hx hb dL_law_1337 rfl ?_
      refine lv_goto (tgt := 1482) hx hb dL_law_1338 (by decide) ?_
      exact kkx _ _ _ nu0 nu1 nu2 nu3 f2_2 mq2_4 m_nb m_mv9 (xt_P hP [13, 0, 1, 2, 3, 4, 5, 6, 7, 8, 14, 15, 16, 9, 10, 11, 12] rfl) (xt_D hD [13, 0, 1, 2, 3, 4, 5, 6, 7, 8, 14, 15, 16, 9, 10, 11, 12] (by decide +kernel) rfl) r_n0 r_n1 r_n2 r_n3 hS hl
    · skip
      refine lv_aload_n hx hb dL_law_1279 rfl (lv_at hl 3 rfl) ?_
      refine lv_iload_n hx hb dL_law_1280 rfl (lv_at hl 0 rfl) ?_
      refine lv_iconst (v := 1) hx hb dL_law_1281 (by decide) ?_
      refine lv_iadd hx hb dL_law_1282 ?_
      refine xl_i (y := nI (i + 1)) (nI_add i 1) ?_
      refine va_sld hx hb hX hbl hbA hS (x_si (k := 1) (by decide) hi hL) dL_law_1283 ?_
      refine xl_i (y := xs (i + 1)) (congrArg xs (x_sc (k := 1) (by decide) hi hL)) ?_
      refine lv_aload_n hx hb dL_law_1284 rfl (lv_at hl 3 rfl) ?_
      refine lv_iload_n hx hb dL_law_1285 rfl (lv_at hl 0 rfl) ?_
      refine lv_iconst (v := 2) hx hb dL_law_1286 (by decide) ?_
      refine lv_iadd hx hb dL_law_1287 ?_
      refine xl_i (y := nI (i + 2)) (nI_add i 2) ?_
      refine va_sld hx hb hX hbl hbA hS (x_si (k := 2) (by decide) hi hL) dL_law_1288 ?_
      refine xl_i (y := xs (i + 2)) (congrArg xs (x_sc (k := 2) (by decide) hi hL)) ?_
      refine lv_aload_n hx hb dL_law_1289 rfl (lv_at hl 3 rfl) ?_
      refine lv_iload_n hx hb dL_law_1290 rfl (lv_at hl 0 rfl) ?_
      refine lv_iconst (v := 3) hx hb dL_law_1291 (by decide) ?_
      refine lv_iadd hx hb dL_law_1292 ?_
      refine xl_i (y := nI (i + 3)) (nI_add i 3) ?_
      refine va_sld hx hb hX hbl hbA hS (x_si (k := 3) (by decide) hi hL) dL_law_1293 ?_
      refine xl_i (y := xs (i + 3)) (congrArg xs (x_sc (k := 3) (by decide) hi hL)) ?_
      refine xl_i (y := 0) eq3 ?_
      refine lv_aload_n hx hb dL_law_1294 rfl (lv_at hl 3 rfl) ?_
      refine lv_iload_n hx hb dL_law_1295 rfl (lv_at hl 0 rfl) ?_
      refine lv_iconst (v := 4) hx hb dL_law_1296 (by decide) ?_
      refine lv_iadd hx hb dL_law_1297 ?_
      refine xl_i (y := nI (i + 4)) (nI_add i 4) ?_
      refine va_sld hx hb hX hbl hbA hS (x_si (k := 4) (by decide) hi hL) dL_law_1298 ?_
      refine xl_i (y := xs (i + 4)) (congrArg xs (x_sc (k := 4) (by decide) hi hL)) ?_
      refine lv_aload_n hx hb dL_law_1299 rfl (lv_at hl 3 rfl) ?_
      refine lv_iload_n hx hb dL_law_1300 rfl (lv_at hl 0 rfl) ?_
      refine lv_iconst (v := 5) hx hb dL_law_1301 (by decide) ?_
      refine lv_iadd hx hb dL_law_1302 ?_
      refine xl_i (y := nI (i + 5)) (nI_add i 5) ?_
      refine va_sld hx hb hX hbl hbA hS (x_si (k := 5) (by decide) hi hL) dL_law_1303 ?_
      refine xl_i (y := xs (i + 5)) (congrArg xs (x_sc (k := 5) (by decide) hi hL)) ?_
      refine xc_ViT (wr := [(qz, .inl (cS, 4, .inr (.inr (.inr (.inr (xSh s0 s1 s2 s3)))))), (s0, .inr (4, [.int bt0, .int (nI (sz0)), .ref sn0])), (s1, .inr (4, [.int bt1, .int (nI (sz1)), .ref sn1])), (s2, .inr (4, [.int bt2, .int (nI (sz2)), .ref sn2])), (s3, .inr (4, [.int bt3, .int (nI (sz3)), .ref sn3])), (sn0, .inl (cJ, 40, .inr (.inl nu0))), (sn1, .inl (cJ, 40, .inr (.inl nu1))), (sn2, .inl (cJ, 40, .inr (.inl nu2))), (sn3, .inl (cJ, 40, .inr (.inl nu3))), (g0, .inr (9, [.ref m_ys, .ref m_yk, .ref m_yo, .ref m_yt, .int b0, .ref m_yfa, .ref m_yfe, .int m_mL, .int m_mS, .int m_mM, .ref m_yro, .ref m_yhe, .ref m_ygr, .int m_mF, .int m_mC, .int m_mY, .ref m_yta, .int (nI (z)), .int (nI (m_mf)), .int (nI (m_mt)), .int m_mv, .int m_mw, .ref m_ywa, .ref m_ybi, .ref m_ysi, .ref m_ynu, .ref m_ymo])), (m_yt, .inl (cI, 7, .inl m_mq)), (m_ybi, .inl (cI, 4, .inl m_bi)), (m_ysi, .inl (cI, 4, .inl m_sq)), (m_ynu, .inl (cJ, 160, .inr (.inl m_nb))), (m_ymo, .inl (cJ, 40, .inr (.inl m_mv9)))]) hF (c_X8_copy_o l D cI cJ cZ cS ta sa sv H.size h0 qh qk qd b0 qa qm qs qp ql qt qz qf ff (xs (i + 1)) (xs (i + 2)) 0 (xs (i + 4)) (xs (i + 5)) oq1) kv_L_166 ⟨rfl, rfl, Nat.le_of_ble_eq_true rfl, Nat.le_of_ble_eq_true rfl⟩ ⟨Nat.le_of_ble_eq_true rfl, Nat.le_of_ble_eq_true rfl⟩ hK hN hZ hP hD hS hA [0, 10] [1, 2, 3, 4, 5, 6, 7, 8, 9, 11, 12, 13, 14, 15, 16] rfl rfl rfl (by decide +kernel) (by decide +kernel) 0 rfl rfl rfl rfl hl.1 rfl (Nat.le_of_ble_eq_true rfl) dL_law_1304 (fun r_5 u_r_5 H locs hw_r_5 hP hD hS => ?_)
      obtain ⟨f2_6, rfl⟩ : ∃ z, z = u_r_5 := ⟨_, rfl⟩
      try dsimp only at hw_r_5
      have hP : va_P D vwCl (@HAppend.hAppend va_W va_W va_W _ [(qz, .inl (cS, 4, .inr (.inr (.inr (.inr (xSh s0 s1 s2 s3)))))), (s0, .inr (4, [.int bt0, .int (nI (sz0)), .ref sn0])), (s1, .inr (4, [.int bt1, .int (nI (sz1)), .ref sn1])), (s2, .inr (4, [.int bt2, .int (nI (sz2)), .ref sn2])), (s3, .inr (4, [.int bt3, .int (nI (sz3)), .ref sn3])), (sn0, .inl (cJ, 40, .inr (.inl nu0))), (sn1, .inl (cJ, 40, .inr (.inl nu1))), (sn2, .inl (cJ, 40, .inr (.inl nu2))), (sn3, .inl (cJ, 40, .inr (.inl nu3))), (g0, .inr (9, [.ref m_ys, .ref m_yk, .ref m_yo, .ref m_yt, .int b0, .ref m_yfa, .ref m_yfe, .int m_mL, .int m_mS, .int m_mM, .ref m_yro, .ref m_yhe, .ref m_ygr, .int m_mF, .int m_mC, .int m_mY, .ref m_yta, .int (nI (z)), .int (nI (m_mf)), .int (nI (m_mt)), .int m_mv, .int m_mw, .ref m_ywa, .ref m_ybi, .ref m_ysi, .ref m_ynu, .ref m_ymo])), (m_yt, .inl (cI, 7, .inl m_mq)), (m_ybi, .inl (cI, 4, .inl m_bi)), (m_ysi, .inl (cI, 4, .inl m_sq)), (m_ynu, .inl (cJ, 160, .inr (.inl m_nb))), (m_ymo, .inl (cJ, 40, .inr (.inl m_mv9))), (h0, .inr (8, [.ref qh, .ref qk, .ref qd, .int b0, .ref qa, .ref qm, .ref qs, .ref qp, .ref ql, .ref qt, .ref qz, .ref qf])), (qf, .inl (cI, 7, .inl f2_6))] tl) H := hP
      have hD : va_D A (@HAppend.hAppend va_W va_W va_W _ [(qz, .inl (cS, 4, .inr (.inr (.inr (.inr (xSh s0 s1 s2 s3)))))), (s0, .inr (4, [.int bt0, .int (nI (sz0)), .ref sn0])), (s1, .inr (4, [.int bt1, .int (nI (sz1)), .ref sn1])), (s2, .inr (4, [.int bt2, .int (nI (sz2)), .ref sn2])), (s3, .inr (4, [.int bt3, .int (nI (sz3)), .ref sn3])), (sn0, .inl (cJ, 40, .inr (.inl nu0))), (sn1, .inl (cJ, 40, .inr (.inl nu1))), (sn2, .inl (cJ, 40, .inr (.inl nu2))), (sn3, .inl (cJ, 40, .inr (.inl nu3))), (g0, .inr (9, [.ref m_ys, .ref m_yk, .ref m_yo, .ref m_yt, .int b0, .ref m_yfa, .ref m_yfe, .int m_mL, .int m_mS, .int m_mM, .ref m_yro, .ref m_yhe, .ref m_ygr, .int m_mF, .int m_mC, .int m_mY, .ref m_yta, .int (nI (z)), .int (nI (m_mf)), .int (nI (m_mt)), .int m_mv, .int m_mw, .ref m_ywa, .ref m_ybi, .ref m_ysi, .ref m_ynu, .ref m_ymo])), (m_yt, .inl (cI, 7, .inl m_mq)), (m_ybi, .inl (cI, 4, .inl m_bi)), (m_ysi, .inl (cI, 4, .inl m_sq)), (m_ynu, .inl (cJ, 160, .inr (.inl m_nb))), (m_ymo, .inl (cJ, 40, .inr (.inl m_mv9))), (h0, .inr (8, [.ref qh, .ref qk, .ref qd, .int b0, .ref qa, .ref qm, .ref qs, .ref qp, .ref ql, .ref qt, .ref qz, .ref qf])), (qf, .inl (cI, 7, .inl f2_6))] tl) := hD
      subst hw_r_5
      refine lv_pop hx hb dL_law_1307 rfl ?_
      refine lv_aload_n hx hb dL_law_1308 rfl (lv_at hl 1 rfl) ?_
      refine lv_aload_n hx hb dL_law_1309 rfl (lv_at hl 3 rfl) ?_
      refine lv_iload_n hx hb dL_law_1310 rfl (lv_at hl 0 rfl) ?_
      refine lv_iconst (v := 1) hx hb dL_law_1311 (by decide) ?_
      refine lv_iadd hx hb dL_law_1312 ?_
      refine xl_i (y := nI (i + 1)) (nI_add i 1) ?_
      refine va_sld hx hb hX hbl hbA hS (x_si (k := 1) (by decide) hi hL) dL_law_1313 ?_
      refine xl_i (y := xs (i + 1)) (congrArg xs (x_sc (k := 1) (by decide) hi hL)) ?_
      refine lv_aload_n hx hb dL_law_1314 rfl (lv_at hl 3 rfl) ?_
      refine lv_iload_n hx hb dL_law_1315 rfl (lv_at hl 0 rfl) ?_
      refine lv_iconst (v := 2) hx hb dL_law_1316 (by decide) ?_
      refine lv_iadd hx hb dL_law_1317 ?_
      refine xl_i (y := nI (i + 2)) (nI_add i 2) ?_
      refine va_sld hx hb hX hbl hbA hS (x_si (k := 2) (by decide) hi hL) dL_law_1318 ?_
      refine xl_i (y := xs (i + 2)) (congrArg xs (x_sc (k := 2) (by decide) hi hL)) ?_
      refine lv_aload_n hx hb dL_law_1319 rfl (lv_at hl 3 rfl) ?_
      refine lv_iload_n hx hb dL_law_1320 rfl (lv_at hl 0 rfl) ?_
      refine lv_iconst (v := 3) hx hb dL_law_1321 (by decide) ?_
      refine lv_iadd hx hb dL_law_1322 ?_
      refine xl_i (y := nI (i + 3)) (nI_add i 3) ?_
      refine va_sld hx hb hX hbl hbA hS (x_si (k := 3) (by decide) hi hL) dL_law_1323 ?_
      refine xl_i (y := xs (i + 3)) (congrArg xs (x_sc (k := 3) (by decide) hi hL)) ?_
      refine xl_i (y := 0) eq3 ?_
      refine lv_aload_n hx hb dL_law_1324 rfl (lv_at hl 3 rfl) ?_
      refine lv_iload_n hx hb dL_law_1325 rfl (lv_at hl 0 rfl) ?_
      refine lv_iconst (v := 4) hx hb dL_law_1326 (by decide) ?_
      refine lv_iadd hx hb dL_law_1327 ?_
      refine xl_i (y := nI (i + 4)) (nI_add i 4) ?_
      refine va_sld hx hb hX hbl hbA hS (x_si (k := 4) (by decide) hi hL) dL_law_1328 ?_
      refine xl_i (y := xs (i + 4)) (congrArg xs (x_sc (k := 4) (by decide) hi hL)) ?_
      refine lv_aload_n hx hb dL_law_1329 rfl (lv_at hl 3 rfl) ?_
      refine lv_iload_n hx hb dL_law_1330 rfl (lv_at hl 0 rfl) ?_
      refine lv_iconst (v := 5) hx hb dL_law_1331 (by decide) ?_
      refine lv_iadd hx hb dL_law_1332 ?_
      refine xl_i (y := nI (i + 5)) (nI_add i 5) ?_
      refine va_sld hx hb hX hbl hbA hS (x_si (k := 5) (by decide) hi hL) dL_law_1333 ?_
      refine xl_i (y := xs (i + 5)) (congrArg xs (x_sc (k := 5) (by decide) hi hL)) ?_
      refine xc_ViT (wr := [(qz, .inl (cS, 4, .inr (.inr (.inr (.inr (xSh s0 s1 s2 s3)))))), (s0, .inr (4, [.int bt0, .int (nI (sz0)), .ref sn0])), (s1, .inr (4, [.int bt1, .int (nI (sz1)), .ref sn1])), (s2, .inr (4, [.int bt2, .int (nI (sz2)), .ref sn2])), (s3, .inr (4, [.int bt3, .int (nI (sz3)), .ref sn3])), (sn0, .inl (cJ, 40, .inr (.inl nu0))), (sn1, .inl (cJ, 40, .inr (.inl nu1))), (sn2, .inl (cJ, 40, .inr (.inl nu2))), (sn3, .inl (cJ, 40, .inr (.inl nu3))), (m_ybi, .inl (cI, 4, .inl m_bi)), (m_ysi, .inl (cI, 4, .inl m_sq)), (m_ynu, .inl (cJ, 160, .inr (.inl m_nb))), (m_ymo, .inl (cJ, 40, .inr (.inl m_mv9))), (h0, .inr (8, [.ref qh, .ref qk, .ref qd, .int b0, .ref qa, .ref qm, .ref qs, .ref qp, .ref ql, .ref qt, .ref qz, .ref qf])), (qf, .inl (cI, 7, .inl f2_6))]) hF (c_X9_copy_o l D cI cJ cZ cS ta sa sv H.size g0 m_ys m_yk m_yo m_yt b0 m_yfa m_yfe m_mL m_mS m_mM m_yro m_yhe m_ygr m_mF m_mC m_mY m_yta z m_mf m_mt m_mv m_mw m_ywa m_ybi m_ysi m_ynu m_ymo m_mq (xs (i + 1)) (xs (i + 2)) 0 (xs (i + 4)) (xs (i + 5)) oq1) kv_L_170 ⟨rfl, rfl, Nat.le_of_ble_eq_true rfl, Nat.le_of_ble_eq_true rfl⟩ ⟨Nat.le_of_ble_eq_true rfl, Nat.le_of_ble_eq_true rfl⟩ hK hN hZ hP hD hS hA [9, 10] [0, 1, 2, 3, 4, 5, 6, 7, 8, 11, 12, 13, 14, 15, 16] rfl rfl rfl (by decide +kernel) (by decide +kernel) 0 rfl rfl rfl rfl hl.1 rfl (Nat.le_of_ble_eq_true rfl) dL_law_1334 (fun r_7 u_r_7 H locs hw_r_7 hP hD hS => ?_)
      obtain ⟨mq2_8, rfl⟩ : ∃ z, z = u_r_7 := ⟨_, rfl⟩
      try dsimp only at hw_r_7
      have hP : va_P D vwCl (@HAppend.hAppend va_W va_W va_W _ [(qz, .inl (cS, 4, .inr (.inr (.inr (.inr (xSh s0 s1 s2 s3)))))), (s0, .inr (4, [.int bt0, .int (nI (sz0)), .ref sn0])), (s1, .inr (4, [.int bt1, .int (nI (sz1)), .ref sn1])), (s2, .inr (4, [.int bt2, .int (nI (sz2)), .ref sn2])), (s3, .inr (4, [.int bt3, .int (nI (sz3)), .ref sn3])), (sn0, .inl (cJ, 40, .inr (.inl nu0))), (sn1, .inl (cJ, 40, .inr (.inl nu1))), (sn2, .inl (cJ, 40, .inr (.inl nu2))), (sn3, .inl (cJ, 40, .inr (.inl nu3))), (m_ybi, .inl (cI, 4, .inl m_bi)), (m_ysi, .inl (cI, 4, .inl m_sq)), (m_ynu, .inl (cJ, 160, .inr (.inl m_nb))), (m_ymo, .inl (cJ, 40, .inr (.inl m_mv9))), (h0, .inr (8, [.ref qh, .ref qk, .ref qd, .int b0, .ref qa, .ref qm, .ref qs, .ref qp, .ref ql, .ref qt, .ref qz, .ref qf])), (qf, .inl (cI, 7, .inl f2_6)), (g0, .inr (9, [.ref m_ys, .ref m_yk, .ref m_yo, .ref m_yt, .int b0, .ref m_yfa, .ref m_yfe, .int m_mL, .int m_mS, .int m_mM, .ref m_yro, .ref m_yhe, .ref m_ygr, .int m_mF, .int m_mC, .int m_mY, .ref m_yta, .int (nI (z)), .int (nI (m_mf)), .int (nI (m_mt)), .int m_mv, .int m_mw, .ref m_ywa, .ref m_ybi, .ref m_ysi, .ref m_ynu, .ref m_ymo])), (m_yt, .inl (cI, 7, .inl mq2_8))] tl) H := hP
      have hD : va_D A (@HAppend.hAppend va_W va_W va_W _ [(qz, .inl (cS, 4, .inr (.inr (.inr (.inr (xSh s0 s1 s2 s3)))))), (s0, .inr (4, [.int bt0, .int (nI (sz0)), .ref sn0])), (s1, .inr (4, [.int bt1, .int (nI (sz1)), .ref sn1])), (s2, .inr (4, [.int bt2, .int (nI (sz2)), .ref sn2])), (s3, .inr (4, [.int bt3, .int (nI (sz3)), .ref sn3])), (sn0, .inl (cJ, 40, .inr (.inl nu0))), (sn1, .inl (cJ, 40, .inr (.inl nu1))), (sn2, .inl (cJ, 40, .inr (.inl nu2))), (sn3, .inl (cJ, 40, .inr (.inl nu3))), (m_ybi, .inl (cI, 4, .inl m_bi)), (m_ysi, .inl (cI, 4, .inl m_sq)), (m_ynu, .inl (cJ, 160, .inr (.inl m_nb))), (m_ymo, .inl (cJ, 40, .inr (.inl m_mv9))), (h0, .inr (8, [.ref qh, .ref qk, .ref qd, .int b0, .ref qa, .ref qm, .ref qs, .ref qp, .ref ql, .ref qt, .ref qz, .ref qf])), (qf, .inl (cI, 7, .inl f2_6)), (g0, .inr (9, [.ref m_ys, .ref m_yk, .ref m_yo, .ref m_yt, .int b0, .ref m_yfa, .ref m_yfe, .int m_mL, .int m_mS, .int m_mM, .ref m_yro, .ref m_yhe, .ref m_ygr, .int m_mF, .int m_mC, .int m_mY, .ref m_yta, .int (nI (z)), .int (nI (m_mf)), .int (nI (m_mt)), .int m_mv, .int m_mw, .ref m_ywa, .ref m_ybi, .ref m_ysi, .ref m_ynu, .ref m_ymo])), (m_yt, .inl (cI, 7, .inl mq2_8))] tl) := hD
      subst hw_r_7
      refine lv_pop hx hb dL_law_1337 rfl ?_
      refine lv_goto (tgt := 1482) hx hb dL_law_1338 (by decide) ?_
      exact kkx _ _ _ nu0 nu1 nu2 nu3 f2_6 mq2_8 m_nb m_mv9 (xt_P hP [13, 0, 1, 2, 3, 4, 5, 6, 7, 8, 14, 15, 16, 9, 10, 11, 12] rfl) (xt_D hD [13, 0, 1, 2, 3, 4, 5, 6, 7, 8, 14, 15, 16, 9, 10, 11, 12] (by decide +kernel) rfl) r_n0 r_n1 r_n2 r_n3 hS hl
    · skip
      refine lv_aload_n hx hb dL_law_1279 rfl (lv_at hl 3 rfl) ?_
      refine lv_iload_n hx hb dL_law_1280 rfl (lv_at hl 0 rfl) ?_
      refine lv_iconst (v := 1) hx hb dL_law_1281 (by decide) ?_
      refine lv_iadd hx hb dL_law_1282 ?_
      refine xl_i (y := nI (i + 1)) (nI_add i 1) ?_
      refine va_sld hx hb hX hbl hbA hS (x_si (k := 1) (by decide) hi hL) dL_law_1283 ?_
      refine xl_i (y := xs (i + 1)) (congrArg xs (x_sc (k := 1) (by decide) hi hL)) ?_
      refine lv_aload_n hx hb dL_law_1284 rfl (lv_at hl 3 rfl) ?_
      refine lv_iload_n hx hb dL_law_1285 rfl (lv_at hl 0 rfl) ?_
      refine lv_iconst (v := 2) hx hb dL_law_1286 (by decide) ?_
      refine lv_iadd hx hb dL_law_1287 ?_
      refine xl_i (y := nI (i + 2)) (nI_add i 2) ?_
      refine va_sld hx hb hX hbl hbA hS (x_si (k := 2) (by decide) hi hL) dL_law_1288 ?_
      refine xl_i (y := xs (i + 2)) (congrArg xs (x_sc (k := 2) (by decide) hi hL)) ?_
      refine lv_aload_n hx hb dL_law_1289 rfl (lv_at hl 3 rfl) ?_
      refine lv_iload_n hx hb dL_law_1290 rfl (lv_at hl 0 rfl) ?_
      refine lv_iconst (v := 3) hx hb dL_law_1291 (by decide) ?_
      refine lv_iadd hx hb dL_law_1292 ?_
      refine xl_i (y := nI (i + 3)) (nI_add i 3) ?_
      refine va_sld hx hb hX hbl hbA hS (x_si (k := 3) (by decide) hi hL) dL_law_1293 ?_
      refine xl_i (y := xs (i + 3)) (congrArg xs (x_sc (k := 3) (by decide) hi hL)) ?_
      refine xl_i (y := 1) eq3 ?_
      refine lv_aload_n hx hb dL_law_1294 rfl (lv_at hl 3 rfl) ?_
      refine lv_iload_n hx hb dL_law_1295 rfl (lv_at hl 0 rfl) ?_
      refine lv_iconst (v := 4) hx hb dL_law_1296 (by decide) ?_
      refine lv_iadd hx hb dL_law_1297 ?_
      refine xl_i (y := nI (i + 4)) (nI_add i 4) ?_
      refine va_sld hx hb hX hbl hbA hS (x_si (k := 4) (by decide) hi hL) dL_law_1298 ?_
      refine xl_i (y := xs (i + 4)) (congrArg xs (x_sc (k := 4) (by decide) hi hL)) ?_
      refine lv_aload_n hx hb dL_law_1299 rfl (lv_at hl 3 rfl) ?_
      refine lv_iload_n hx hb dL_law_1300 rfl (lv_at hl 0 rfl) ?_
      refine lv_iconst (v := 5) hx hb dL_law_1301 (by decide) ?_
      refine lv_iadd hx hb dL_law_1302 ?_
      refine xl_i (y := nI (i + 5)) (nI_add i 5) ?_
      refine va_sld hx hb hX hbl hbA hS (x_si (k := 5) (by decide) hi hL) dL_law_1303 ?_
      refine xl_i (y := xs (i + 5)) (congrArg xs (x_sc (k := 5) (by decide) hi hL)) ?_
      refine xc_ViT (wr := [(qz, .inl (cS, 4, .inr (.inr (.inr (.inr (xSh s0 s1 s2 s3)))))), (s0, .inr (4, [.int bt0, .int (nI (sz0)), .ref sn0])), (s1, .inr (4, [.int bt1, .int (nI (sz1)), .ref sn1])), (s2, .inr (4, [.int bt2, .int (nI (sz2)), .ref sn2])), (s3, .inr (4, [.int bt3, .int (nI (sz3)), .ref sn3])), (sn0, .inl (cJ, 40, .inr (.inl nu0))), (sn1, .inl (cJ, 40, .inr (.inl nu1))), (sn2, .inl (cJ, 40, .inr (.inl nu2))), (sn3, .inl (cJ, 40, .inr (.inl nu3))), (g0, .inr (9, [.ref m_ys, .ref m_yk, .ref m_yo, .ref m_yt, .int b0, .ref m_yfa, .ref m_yfe, .int m_mL, .int m_mS, .int m_mM, .ref m_yro, .ref m_yhe, .ref m_ygr, .int m_mF, .int m_mC, .int m_mY, .ref m_yta, .int (nI (z)), .int (nI (m_mf)), .int (nI (m_mt)), .int m_mv, .int m_mw, .ref m_ywa, .ref m_ybi, .ref m_ysi, .ref m_ynu, .ref m_ymo])), (m_yt, .inl (cI, 7, .inl m_mq)), (m_ybi, .inl (cI, 4, .inl m_bi)), (m_ysi, .inl (cI, 4, .inl m_sq)), (m_ynu, .inl (cJ, 160, .inr (.inl m_nb))), (m_ymo, .inl (cJ, 40, .inr (.inl m_mv9)))]) hF (c_X8_copy_o l D cI cJ cZ cS ta sa sv H.size h0 qh qk qd b0 qa qm qs qp ql qt qz qf ff (xs (i + 1)) (xs (i + 2)) 1 (xs (i + 4)) (xs (i + 5)) oq1) kv_L_166 ⟨rfl, rfl, Nat.le_of_ble_eq_true rfl, Nat.le_of_ble_eq_true rfl⟩ ⟨Nat.le_of_ble_eq_true rfl, Nat.le_of_ble_eq_true rfl⟩ hK hN hZ hP hD hS hA [0, 10] [1, 2, 3, 4, 5, 6, 7, 8, 9, 11, 12, 13, 14, 15, 16] rfl rfl rfl (by decide +kernel) (by decide +kernel) 0 rfl rfl rfl rfl hl.1 rfl (Nat.le_of_ble_eq_true rfl) dL_law_1304 (fun r_9 u_r_9 H locs hw_r_9 hP hD hS => ?_)
      obtain ⟨f2_10, rfl⟩ : ∃ z, z = u_r_9 := ⟨_, rfl⟩
      try dsimp only at hw_r_9
      have hP : va_P D vwCl (@HAppend.hAppend va_W va_W va_W _ [(qz, .inl (cS, 4, .inr (.inr (.inr (.inr (xSh s0 s1 s2 s3)))))), (s0, .inr (4, [.int bt0, .int (nI (sz0)), .ref sn0])), (s1, .inr (4, [.int bt1, .int (nI (sz1)), .ref sn1])), (s2, .inr (4, [.int bt2, .int (nI (sz2)), .ref sn2])), (s3, .inr (4, [.int bt3, .int (nI (sz3)), .ref sn3])), (sn0, .inl (cJ, 40, .inr (.inl nu0))), (sn1, .inl (cJ, 40, .inr (.inl nu1))), (sn2, .inl (cJ, 40, .inr (.inl nu2))), (sn3, .inl (cJ, 40, .inr (.inl nu3))), (g0, .inr (9, [.ref m_ys, .ref m_yk, .ref m_yo, .ref m_yt, .int b0, .ref m_yfa, .ref m_yfe, .int m_mL, .int m_mS, .int m_mM, .ref m_yro, .ref m_yhe, .ref m_ygr, .int m_mF, .int m_mC, .int m_mY, .ref m_yta, .int (nI (z)), .int (nI (m_mf)), .int (nI (m_mt)), .int m_mv, .int m_mw, .ref m_ywa, .ref m_ybi, .ref m_ysi, .ref m_ynu, .ref m_ymo])), (m_yt, .inl (cI, 7, .inl m_mq)), (m_ybi, .inl (cI, 4, .inl m_bi)), (m_ysi, .inl (cI, 4, .inl m_sq)), (m_ynu, .inl (cJ, 160, .inr (.inl m_nb))), (m_ymo, .inl (cJ, 40, .inr (.inl m_mv9))), (h0, .inr (8, [.ref qh, .ref qk, .ref qd, .int b0, .ref qa, .ref qm, .ref qs, .ref qp, .ref ql, .ref qt, .ref qz, .ref qf])), (qf, .inl (cI, 7, .inl f2_10))] tl) H := hP
      have hD : va_D A (@HAppend.hAppend va_W va_W va_W _ [(qz, .inl (cS, 4, .inr (.inr (.inr (.inr (xSh s0 s1 s2 s3)))))), (s0, .inr (4, [.int bt0, .int (nI (sz0)), .ref sn0])), (s1, .inr (4, [.int bt1, .int (nI (sz1)), .ref sn1])), (s2, .inr (4, [.int bt2, .int (nI (sz2)), .ref sn2])), (s3, .inr (4, [.int bt3, .int (nI (sz3)), .ref sn3])), (sn0, .inl (cJ, 40, .inr (.inl nu0))), (sn1, .inl (cJ, 40, .inr (.inl nu1))), (sn2, .inl (cJ, 40, .inr (.inl nu2))), (sn3, .inl (cJ, 40, .inr (.inl nu3))), (g0, .inr (9, [.ref m_ys, .ref m_yk, .ref m_yo, .ref m_yt, .int b0, .ref m_yfa, .ref m_yfe, .int m_mL, .int m_mS, .int m_mM, .ref m_yro, .ref m_yhe, .ref m_ygr, .int m_mF, .int m_mC, .int m_mY, .ref m_yta, .int (nI (z)), .int (nI (m_mf)), .int (nI (m_mt)), .int m_mv, .int m_mw, .ref m_ywa, .ref m_ybi, .ref m_ysi, .ref m_ynu, .ref m_ymo])), (m_yt, .inl (cI, 7, .inl m_mq)), (m_ybi, .inl (cI, 4, .inl m_bi)), (m_ysi, .inl (cI, 4, .inl m_sq)), (m_ynu, .inl (cJ, 160, .inr (.inl m_nb))), (m_ymo, .inl (cJ, 40, .inr (.inl m_mv9))), (h0, .inr (8, [.ref qh, .ref qk, .ref qd, .int b0, .ref qa, .ref qm, .ref qs, .ref qp, .ref ql, .ref qt, .ref qz, .ref qf])), (qf, .inl (cI, 7, .inl f2_10))] tl) := hD
      subst hw_r_9
      refine lv_pop hx hb dL_law_1307 rfl ?_
      refine lv_aload_n hx hb dL_law_1308 rfl (lv_at hl 1 rfl) ?_
      refine lv_aload_n hx hb dL_law_1309 rfl (lv_at hl 3 rfl) ?_
      refine lv_iload_n hx hb dL_law_1310 rfl (lv_at hl 0 rfl) ?_
      refine lv_iconst (v := 1) hx hb dL_law_1311 (by decide) ?_
      refine lv_iadd hx hb dL_law_1312 ?_
      refine xl_i (y := nI (i + 1)) (nI_add i 1) ?_
      refine va_sld hx hb hX hbl hbA hS (x_si (k := 1) (by decide) hi hL) dL_law_1313 ?_
      refine xl_i (y := xs (i + 1)) (congrArg xs (x_sc (k := 1) (by decide) hi hL)) ?_
      refine lv_aload_n hx hb dL_law_1314 rfl (lv_at hl 3 rfl) ?_
      refine lv_iload_n hx hb dL_law_1315 rfl (lv_at hl 0 rfl) ?_
      refine lv_iconst (v := 2) hx hb dL_law_1316 (by decide) ?_
      refine lv_iadd hx hb dL_law_1317 ?_
      refine xl_i (y := nI (i + 2)) (nI_add i 2) ?_
      refine va_sld hx hb hX hbl hbA hS (x_si (k := 2) (by decide) hi hL) dL_law_1318 ?_
      refine xl_i (y := xs (i + 2)) (congrArg xs (x_sc (k := 2) (by decide) hi hL)) ?_
      refine lv_aload_n hx hb dL_law_1319 rfl (lv_at hl 3 rfl) ?_
      refine lv_iload_n hx hb dL_law_1320 rfl (lv_at hl 0 rfl) ?_
      refine lv_iconst (v := 3) hx hb dL_law_1321 (by decide) ?_
      refine lv_iadd hx hb dL_law_1322 ?_
      refine xl_i (y := nI (i + 3)) (nI_add i 3) ?_
      refine va_sld hx hb hX hbl hbA hS (x_si (k := 3) (by decide) hi hL) dL_law_1323 ?_
      refine xl_i (y := xs (i + 3)) (congrArg xs (x_sc (k := 3) (by decide) hi hL)) ?_
      refine xl_i (y := 1) eq3 ?_
      refine lv_aload_n hx hb dL_law_1324 rfl (lv_at hl 3 rfl) ?_
      refine lv_iload_n hx hb dL_law_1325 rfl (lv_at hl 0 rfl) ?_
      refine lv_iconst (v := 4) hx hb dL_law_1326 (by decide) ?_
      refine lv_iadd hx hb dL_law_1327 ?_
      refine xl_i (y := nI (i + 4)) (nI_add i 4) ?_
      refine va_sld hx hb hX hbl hbA hS (x_si (k := 4) (by decide) hi hL) dL_law_1328 ?_
      refine xl_i (y := xs (i + 4)) (congrArg xs (x_sc (k := 4) (by decide) hi hL)) ?_
      refine lv_aload_n hx hb dL_law_1329 rfl (lv_at hl 3 rfl) ?_
      refine lv_iload_n hx hb dL_law_1330 rfl (lv_at hl 0 rfl) ?_
      refine lv_iconst (v := 5) hx hb dL_law_1331 (by decide) ?_
      refine lv_iadd hx hb dL_law_1332 ?_
      refine xl_i (y := nI (i + 5)) (nI_add i 5) ?_
      refine va_sld hx hb hX hbl hbA hS (x_si (k := 5) (by decide) hi hL) dL_law_1333 ?_
      refine xl_i (y := xs (i + 5)) (congrArg xs (x_sc (k := 5) (by decide) hi hL)) ?_
      refine xc_ViT (wr := [(qz, .inl (cS, 4, .inr (.inr (.inr (.inr (xSh s0 s1 s2 s3)))))), (s0, .inr (4, [.int bt0, .int (nI (sz0)), .ref sn0])), (s1, .inr (4, [.int bt1, .int (nI (sz1)), .ref sn1])), (s2, .inr (4, [.int bt2, .int (nI (sz2)), .ref sn2])), (s3, .inr (4, [.int bt3, .int (nI (sz3)), .ref sn3])), (sn0, .inl (cJ, 40, .inr (.inl nu0))), (sn1, .inl (cJ, 40, .inr (.inl nu1))), (sn2, .inl (cJ, 40, .inr (.inl nu2))), (sn3, .inl (cJ, 40, .inr (.inl nu3))), (m_ybi, .inl (cI, 4, .inl m_bi)), (m_ysi, .inl (cI, 4, .inl m_sq)), (m_ynu, .inl (cJ, 160, .inr (.inl m_nb))), (m_ymo, .inl (cJ, 40, .inr (.inl m_mv9))), (h0, .inr (8, [.ref qh, .ref qk, .ref qd, .int b0, .ref qa, .ref qm, .ref qs, .ref qp, .ref ql, .ref qt, .ref qz, .ref qf])), (qf, .inl (cI, 7, .inl f2_10))]) hF (c_X9_copy_o l D cI cJ cZ cS ta sa sv H.size g0 m_ys m_yk m_yo m_yt b0 m_yfa m_yfe m_mL m_mS m_mM m_yro m_yhe m_ygr m_mF m_mC m_mY m_yta z m_mf m_mt m_mv m_mw m_ywa m_ybi m_ysi m_ynu m_ymo m_mq (xs (i + 1)) (xs (i + 2)) 1 (xs (i + 4)) (xs (i + 5)) oq1) kv_L_170 ⟨rfl, rfl, Nat.le_of_ble_eq_true rfl, Nat.le_of_ble_eq_true rfl⟩ ⟨Nat.le_of_ble_eq_true rfl, Nat.le_of_ble_eq_true rfl⟩ hK hN hZ hP hD hS hA [9, 10] [0, 1, 2, 3, 4, 5, 6, 7, 8, 11, 12, 13, 14, 15, 16] rfl rfl rfl (by decide +kernel) (by decide +kernel) 0 rfl rfl rfl rfl hl.1 rfl (Nat.le_of_ble_eq_true rfl) dL_law_1334 (fun r_11 u_r_11 H locs hw_r_11 hP hD hS => ?_)
      obtain ⟨mq2_12, rfl⟩ : ∃ z, z = u_r_11 := ⟨_, rfl⟩
      try dsimp only at hw_r_11
      have hP : va_P D vwCl (@HAppend.hAppend va_W va_W va_W _ [(qz, .inl (cS, 4, .inr (.inr (.inr (.inr (xSh s0 s1 s2 s3)))))), (s0, .inr (4, [.int bt0, .int (nI (sz0)), .ref sn0])), (s1, .inr (4, [.int bt1, .int (nI (sz1)), .ref sn1])), (s2, .inr (4, [.int bt2, .int (nI (sz2)), .ref sn2])), (s3, .inr (4, [.int bt3, .int (nI (sz3)), .ref sn3])), (sn0, .inl (cJ, 40, .inr (.inl nu0))), (sn1, .inl (cJ, 40, .inr (.inl nu1))), (sn2, .inl (cJ, 40, .inr (.inl nu2))), (sn3, .inl (cJ, 40, .inr (.inl nu3))), (m_ybi, .inl (cI, 4, .inl m_bi)), (m_ysi, .inl (cI, 4, .inl m_sq)), (m_ynu, .inl (cJ, 160, .inr (.inl m_nb))), (m_ymo, .inl (cJ, 40, .inr (.inl m_mv9))), (h0, .inr (8, [.ref qh, .ref qk, .ref qd, .int b0, .ref qa, .ref qm, .ref qs, .ref qp, .ref ql, .ref qt, .ref qz, .ref qf])), (qf, .inl (cI, 7, .inl f2_10)), (g0, .inr (9, [.ref m_ys, .ref m_yk, .ref m_yo, .ref m_yt, .int b0, .ref m_yfa, .ref m_yfe, .int m_mL, .int m_mS, .int m_mM, .ref m_yro, .ref m_yhe, .ref m_ygr, .int m_mF, .int m_mC, .int m_mY, .ref m_yta, .int (nI (z)), .int (nI (m_mf)), .int (nI (m_mt)), .int m_mv, .int m_mw, .ref m_ywa, .ref m_ybi, .ref m_ysi, .ref m_ynu, .ref m_ymo])), (m_yt, .inl (cI, 7, .inl mq2_12))] tl) H := hP
      have hD : va_D A (@HAppend.hAppend va_W va_W va_W _ [(qz, .inl (cS, 4, .inr (.inr (.inr (.inr (xSh s0 s1 s2 s3)))))), (s0, .inr (4, [.int bt0, .int (nI (sz0)), .ref sn0])), (s1, .inr (4, [.int bt1, .int (nI (sz1)), .ref sn1])), (s2, .inr (4, [.int bt2, .int (nI (sz2)), .ref sn2])), (s3, .inr (4, [.int bt3, .int (nI (sz3)), .ref sn3])), (sn0, .inl (cJ, 40, .inr (.inl nu0))), (sn1, .inl (cJ, 40, .inr (.inl nu1))), (sn2, .inl (cJ, 40, .inr (.inl nu2))), (sn3, .inl (cJ, 40, .inr (.inl nu3))), (m_ybi, .inl (cI, 4, .inl m_bi)), (m_ysi, .inl (cI, 4, .inl m_sq)), (m_ynu, .inl (cJ, 160, .inr (.inl m_nb))), (m_ymo, .inl (cJ, 40, .inr (.inl m_mv9))), (h0, .inr (8, [.ref qh, .ref qk, .ref qd, .int b0, .ref qa, .ref qm, .ref qs, .ref qp, .ref ql, .ref qt, .ref qz, .ref qf])), (qf, .inl (cI, 7, .inl f2_10)), (g0, .inr (9, [.ref m_ys, .ref m_yk, .ref m_yo, .ref m_yt, .int b0, .ref m_yfa, .ref m_yfe, .int m_mL, .int m_mS, .int m_mM, .ref m_yro, .ref m_yhe, .ref m_ygr, .int m_mF, .int m_mC, .int m_mY, .ref m_yta, .int (nI (z)), .int (nI (m_mf)), .int (nI (m_mt)), .int m_mv, .int m_mw, .ref m_ywa, .ref m_ybi, .ref m_ysi, .ref m_ynu, .ref m_ymo])), (m_yt, .inl (cI, 7, .inl mq2_12))] tl) := hD
      subst hw_r_11
      refine lv_pop hx hb dL_law_1337 rfl ?_
      refine lv_goto (tgt := 1482) hx hb dL_law_1338 (by decide) ?_
      exact kkx _ _ _ nu0 nu1 nu2 nu3 f2_10 mq2_12 m_nb m_mv9 (xt_P hP [13, 0, 1, 2, 3, 4, 5, 6, 7, 8, 14, 15, 16, 9, 10, 11, 12] rfl) (xt_D hD [13, 0, 1, 2, 3, 4, 5, 6, 7, 8, 14, 15, 16, 9, 10, 11, 12] (by decide +kernel) rfl) r_n0 r_n1 r_n2 r_n3 hS hl
    · skip
      refine lv_aload_n hx hb dL_law_1279 rfl (lv_at hl 3 rfl) ?_
      refine lv_iload_n hx hb dL_law_1280 rfl (lv_at hl 0 rfl) ?_
      refine lv_iconst (v := 1) hx hb dL_law_1281 (by decide) ?_
      refine lv_iadd hx hb dL_law_1282 ?_
      refine xl_i (y := nI (i + 1)) (nI_add i 1) ?_
      refine va_sld hx hb hX hbl hbA hS (x_si (k := 1) (by decide) hi hL) dL_law_1283 ?_
      refine xl_i (y := xs (i + 1)) (congrArg xs (x_sc (k := 1) (by decide) hi hL)) ?_
      refine lv_aload_n hx hb dL_law_1284 rfl (lv_at hl 3 rfl) ?_
      refine lv_iload_n hx hb dL_law_1285 rfl (lv_at hl 0 rfl) ?_
      refine lv_iconst (v := 2) hx hb dL_law_1286 (by decide) ?_
      refine lv_iadd hx hb dL_law_1287 ?_
      refine xl_i (y := nI (i + 2)) (nI_add i 2) ?_
      refine va_sld hx hb hX hbl hbA hS (x_si (k := 2) (by decide) hi hL) dL_law_1288 ?_
      refine xl_i (y := xs (i + 2)) (congrArg xs (x_sc (k := 2) (by decide) hi hL)) ?_
      refine lv_aload_n hx hb dL_law_1289 rfl (lv_at hl 3 rfl) ?_
      refine lv_iload_n hx hb dL_law_1290 rfl (lv_at hl 0 rfl) ?_
      refine lv_iconst (v := 3) hx hb dL_law_1291 (by decide) ?_
      refine lv_iadd hx hb dL_law_1292 ?_
      refine xl_i (y := nI (i + 3)) (nI_add i 3) ?_
      refine va_sld hx hb hX hbl hbA hS (x_si (k := 3) (by decide) hi hL) dL_law_1293 ?_
      refine xl_i (y := xs (i + 3)) (congrArg xs (x_sc (k := 3) (by decide) hi hL)) ?_
      refine xl_i (y := 2) eq3 ?_
      refine lv_aload_n hx hb dL_law_1294 rfl (lv_at hl 3 rfl) ?_
      refine lv_iload_n hx hb dL_law_1295 rfl (lv_at hl 0 rfl) ?_
      refine lv_iconst (v := 4) hx hb dL_law_1296 (by decide) ?_
      refine lv_iadd hx hb dL_law_1297 ?_
      refine xl_i (y := nI (i + 4)) (nI_add i 4) ?_
      refine va_sld hx hb hX hbl hbA hS (x_si (k := 4) (by decide) hi hL) dL_law_1298 ?_
      refine xl_i (y := xs (i + 4)) (congrArg xs (x_sc (k := 4) (by decide) hi hL)) ?_
      refine lv_aload_n hx hb dL_law_1299 rfl (lv_at hl 3 rfl) ?_
      refine lv_iload_n hx hb dL_law_1300 rfl (lv_at hl 0 rfl) ?_
      refine lv_iconst (v := 5) hx hb dL_law_1301 (by decide) ?_
      refine lv_iadd hx hb dL_law_1302 ?_
      refine xl_i (y := nI (i + 5)) (nI_add i 5) ?_
      refine va_sld hx hb hX hbl hbA hS (x_si (k := 5) (by decide) hi hL) dL_law_1303 ?_
      refine xl_i (y := xs (i + 5)) (congrArg xs (x_sc (k := 5) (by decide) hi hL)) ?_
      refine xc_ViT (wr := [(qz, .inl (cS, 4, .inr (.inr (.inr (.inr (xSh s0 s1 s2 s3)))))), (s0, .inr (4, [.int bt0, .int (nI (sz0)), .ref sn0])), (s1, .inr (4, [.int bt1, .int (nI (sz1)), .ref sn1])), (s2, .inr (4, [.int bt2, .int (nI (sz2)), .ref sn2])), (s3, .inr (4, [.int bt3, .int (nI (sz3)), .ref sn3])), (sn0, .inl (cJ, 40, .inr (.inl nu0))), (sn1, .inl (cJ, 40, .inr (.inl nu1))), (sn2, .inl (cJ, 40, .inr (.inl nu2))), (sn3, .inl (cJ, 40, .inr (.inl nu3))), (g0, .inr (9, [.ref m_ys, .ref m_yk, .ref m_yo, .ref m_yt, .int b0, .ref m_yfa, .ref m_yfe, .int m_mL, .int m_mS, .int m_mM, .ref m_yro, .ref m_yhe, .ref m_ygr, .int m_mF, .int m_mC, .int m_mY, .ref m_yta, .int (nI (z)), .int (nI (m_mf)), .int (nI (m_mt)), .int m_mv, .int m_mw, .ref m_ywa, .ref m_ybi, .ref m_ysi, .ref m_ynu, .ref m_ymo])), (m_yt, .inl (cI, 7, .inl m_mq)), (m_ybi, .inl (cI, 4, .inl m_bi)), (m_ysi, .inl (cI, 4, .inl m_sq)), (m_ynu, .inl (cJ, 160, .inr (.inl m_nb))), (m_ymo, .inl (cJ, 40, .inr (.inl m_mv9)))]) hF (c_X8_copy_o l D cI cJ cZ cS ta sa sv H.size h0 qh qk qd b0 qa qm qs qp ql qt qz qf ff (xs (i + 1)) (xs (i + 2)) 2 (xs (i + 4)) (xs (i + 5)) oq1) kv_L_166 ⟨rfl, rfl, Nat.le_of_ble_eq_true rfl, Nat.le_of_ble_eq_true rfl⟩ ⟨Nat.le_of_ble_eq_true rfl, Nat.le_of_ble_eq_true rfl⟩ hK hN hZ hP hD hS hA [0, 10] [1, 2, 3, 4, 5, 6, 7, 8, 9, 11, 12, 13, 14, 15, 16] rfl rfl rfl (by decide +kernel) (by decide +kernel) 0 rfl rfl rfl rfl hl.1 rfl (Nat.le_of_ble_eq_true rfl) dL_law_1304 (fun r_13 u_r_13 H locs hw_r_13 hP hD hS => ?_)
      obtain ⟨f2_14, rfl⟩ : ∃ z, z = u_r_13 := ⟨_, rfl⟩
      try dsimp only at hw_r_13
      have hP : va_P D vwCl (@HAppend.hAppend va_W va_W va_W _ [(qz, .inl (cS, 4, .inr (.inr (.inr (.inr (xSh s0 s1 s2 s3)))))), (s0, .inr (4, [.int bt0, .int (nI (sz0)), .ref sn0])), (s1, .inr (4, [.int bt1, .int (nI (sz1)), .ref sn1])), (s2, .inr (4, [.int bt2, .int (nI (sz2)), .ref sn2])), (s3, .inr (4, [.int bt3, .int (nI (sz3)), .ref sn3])), (sn0, .inl (cJ, 40, .inr (.inl nu0))), (sn1, .inl (cJ, 40, .inr (.inl nu1))), (sn2, .inl (cJ, 40, .inr (.inl nu2))), (sn3, .inl (cJ, 40, .inr (.inl nu3))), (g0, .inr (9, [.ref m_ys, .ref m_yk, .ref m_yo, .ref m_yt, .int b0, .ref m_yfa, .ref m_yfe, .int m_mL, .int m_mS, .int m_mM, .ref m_yro, .ref m_yhe, .ref m_ygr, .int m_mF, .int m_mC, .int m_mY, .ref m_yta, .int (nI (z)), .int (nI (m_mf)), .int (nI (m_mt)), .int m_mv, .int m_mw, .ref m_ywa, .ref m_ybi, .ref m_ysi, .ref m_ynu, .ref m_ymo])), (m_yt, .inl (cI, 7, .inl m_mq)), (m_ybi, .inl (cI, 4, .inl m_bi)), (m_ysi, .inl (cI, 4, .inl m_sq)), (m_ynu, .inl (cJ, 160, .inr (.inl m_nb))), (m_ymo, .inl (cJ, 40, .inr (.inl m_mv9))), (h0, .inr (8, [.ref qh, .ref qk, .ref qd, .int b0, .ref qa, .ref qm, .ref qs, .ref qp, .ref ql, .ref qt, .ref qz, .ref qf])), (qf, .inl (cI, 7, .inl f2_14))] tl) H := hP
      have hD : va_D A (@HAppend.hAppend va_W va_W va_W _ [(qz, .inl (cS, 4, .inr (.inr (.inr (.inr (xSh s0 s1 s2 s3)))))), (s0, .inr (4, [.int bt0, .int (nI (sz0)), .ref sn0])), (s1, .inr (4, [.int bt1, .int (nI (sz1)), .ref sn1])), (s2, .inr (4, [.int bt2, .int (nI (sz2)), .ref sn2])), (s3, .inr (4, [.int bt3, .int (nI (sz3)), .ref sn3])), (sn0, .inl (cJ, 40, .inr (.inl nu0))), (sn1, .inl (cJ, 40, .inr (.inl nu1))), (sn2, .inl (cJ, 40, .inr (.inl nu2))), (sn3, .inl (cJ, 40, .inr (.inl nu3))), (g0, .inr (9, [.ref m_ys, .ref m_yk, .ref m_yo, .ref m_yt, .int b0, .ref m_yfa, .ref m_yfe, .int m_mL, .int m_mS, .int m_mM, .ref m_yro, .ref m_yhe, .ref m_ygr, .int m_mF, .int m_mC, .int m_mY, .ref m_yta, .int (nI (z)), .int (nI (m_mf)), .int (nI (m_mt)), .int m_mv, .int m_mw, .ref m_ywa, .ref m_ybi, .ref m_ysi, .ref m_ynu, .ref m_ymo])), (m_yt, .inl (cI, 7, .inl m_mq)), (m_ybi, .inl (cI, 4, .inl m_bi)), (m_ysi, .inl (cI, 4, .inl m_sq)), (m_ynu, .inl (cJ, 160, .inr (.inl m_nb))), (m_ymo, .inl (cJ, 40, .inr (.inl m_mv9))), (h0, .inr (8, [.ref qh, .ref qk, .ref qd, .int b0, .ref qa, .ref qm, .ref qs, .ref qp, .ref ql, .ref qt, .ref qz, .ref qf])), (qf, .inl (cI, 7, .inl f2_14))] tl) := hD
      subst hw_r_13
      refine lv_pop hx hb dL_law_1307 rfl ?_
      refine lv_aload_n hx hb dL_law_1308 rfl (lv_at hl 1 rfl) ?_
      refine lv_aload_n hx hb dL_law_1309 rfl (lv_at hl 3 rfl) ?_
      refine lv_iload_n hx hb dL_law_1310 rfl (lv_at hl 0 rfl) ?_
      refine lv_iconst (v := 1) hx hb dL_law_1311 (by decide) ?_
      refine lv_iadd hx hb dL_law_1312 ?_
      refine xl_i (y := nI (i + 1)) (nI_add i 1) ?_
      refine va_sld hx hb hX hbl hbA hS (x_si (k := 1) (by decide) hi hL) dL_law_1313 ?_
      refine xl_i (y := xs (i + 1)) (congrArg xs (x_sc (k := 1) (by decide) hi hL)) ?_
      refine lv_aload_n hx hb dL_law_1314 rfl (lv_at hl 3 rfl) ?_
      refine lv_iload_n hx hb dL_law_1315 rfl (lv_at hl 0 rfl) ?_
      refine lv_iconst (v := 2) hx hb dL_law_1316 (by decide) ?_
      refine lv_iadd hx hb dL_law_1317 ?_
      refine xl_i (y := nI (i + 2)) (nI_add i 2) ?_
      refine va_sld hx hb hX hbl hbA hS (x_si (k := 2) (by decide) hi hL) dL_law_1318 ?_
      refine xl_i (y := xs (i + 2)) (congrArg xs (x_sc (k := 2) (by decide) hi hL)) ?_
      refine lv_aload_n hx hb dL_law_1319 rfl (lv_at hl 3 rfl) ?_
      refine lv_iload_n hx hb dL_law_1320 rfl (lv_at hl 0 rfl) ?_
      refine lv_iconst (v := 3) hx hb dL_law_1321 (by decide) ?_
      refine lv_iadd hx hb dL_law_1322 ?_
      refine xl_i (y := nI (i + 3)) (nI_add i 3) ?_
      refine va_sld hx hb hX hbl hbA hS (x_si (k := 3) (by decide) hi hL) dL_law_1323 ?_
      refine xl_i (y := xs (i + 3)) (congrArg xs (x_sc (k := 3) (by decide) hi hL)) ?_
      refine xl_i (y := 2) eq3 ?_
      refine lv_aload_n hx hb dL_law_1324 rfl (lv_at hl 3 rfl) ?_
      refine lv_iload_n hx hb dL_law_1325 rfl (lv_at hl 0 rfl) ?_
      refine lv_iconst (v := 4) hx hb dL_law_1326 (by decide) ?_
      refine lv_iadd hx hb dL_law_1327 ?_
      refine xl_i (y := nI (i + 4)) (nI_add i 4) ?_
      refine va_sld hx hb hX hbl hbA hS (x_si (k := 4) (by decide) hi hL) dL_law_1328 ?_
      refine xl_i (y := xs (i + 4)) (congrArg xs (x_sc (k := 4) (by decide) hi hL)) ?_
      refine lv_aload_n hx hb dL_law_1329 rfl (lv_at hl 3 rfl) ?_
      refine lv_iload_n hx hb dL_law_1330 rfl (lv_at hl 0 rfl) ?_
      refine lv_iconst (v := 5) hx hb dL_law_1331 (by decide) ?_
      refine lv_iadd hx hb dL_law_1332 ?_
      refine xl_i (y := nI (i + 5)) (nI_add i 5) ?_
      refine va_sld hx hb hX hbl hbA hS (x_si (k := 5) (by decide) hi hL) dL_law_1333 ?_
      refine xl_i (y := xs (i + 5)) (congrArg xs (x_sc (k := 5) (by decide) hi hL)) ?_
      refine xc_ViT (wr := [(qz, .inl (cS, 4, .inr (.inr (.inr (.inr (xSh s0 s1 s2 s3)))))), (s0, .inr (4, [.int bt0, .int (nI (sz0)), .ref sn0])), (s1, .inr (4, [.int bt1, .int (nI (sz1)), .ref sn1])), (s2, .inr (4, [.int bt2, .int (nI (sz2)), .ref sn2])), (s3, .inr (4, [.int bt3, .int (nI (sz3)), .ref sn3])), (sn0, .inl (cJ, 40, .inr (.inl nu0))), (sn1, .inl (cJ, 40, .inr (.inl nu1))), (sn2, .inl (cJ, 40, .inr (.inl nu2))), (sn3, .inl (cJ, 40, .inr (.inl nu3))), (m_ybi, .inl (cI, 4, .inl m_bi)), (m_ysi, .inl (cI, 4, .inl m_sq)), (m_ynu, .inl (cJ, 160, .inr (.inl m_nb))), (m_ymo, .inl (cJ, 40, .inr (.inl m_mv9))), (h0, .inr (8, [.ref qh, .ref qk, .ref qd, .int b0, .ref qa, .ref qm, .ref qs, .ref qp, .ref ql, .ref qt, .ref qz, .ref qf])), (qf, .inl (cI, 7, .inl f2_14))]) hF (c_X9_copy_o l D cI cJ cZ cS ta sa sv H.size g0 m_ys m_yk m_yo m_yt b0 m_yfa m_yfe m_mL m_mS m_mM m_yro m_yhe m_ygr m_mF m_mC m_mY m_yta z m_mf m_mt m_mv m_mw m_ywa m_ybi m_ysi m_ynu m_ymo m_mq (xs (i + 1)) (xs (i + 2)) 2 (xs (i + 4)) (xs (i + 5)) oq1) kv_L_170 ⟨rfl, rfl, Nat.le_of_ble_eq_true rfl, Nat.le_of_ble_eq_true rfl⟩ ⟨Nat.le_of_ble_eq_true rfl, Nat.le_of_ble_eq_true rfl⟩ hK hN hZ hP hD hS hA [9, 10] [0, 1, 2, 3, 4, 5, 6, 7, 8, 11, 12, 13, 14, 15, 16] rfl rfl rfl (by decide +kernel) (by decide +kernel) 0 rfl rfl rfl rfl hl.1 rfl (Nat.le_of_ble_eq_true rfl) dL_law_1334 (fun r_15 u_r_15 H locs hw_r_15 hP hD hS => ?_)
      obtain ⟨mq2_16, rfl⟩ : ∃ z, z = u_r_15 := ⟨_, rfl⟩
      try dsimp only at hw_r_15
      have hP : va_P D vwCl (@HAppend.hAppend va_W va_W va_W _ [(qz, .inl (cS, 4, .inr (.inr (.inr (.inr (xSh s0 s1 s2 s3)))))), (s0, .inr (4, [.int bt0, .int (nI (sz0)), .ref sn0])), (s1, .inr (4, [.int bt1, .int (nI (sz1)), .ref sn1])), (s2, .inr (4, [.int bt2, .int (nI (sz2)), .ref sn2])), (s3, .inr (4, [.int bt3, .int (nI (sz3)), .ref sn3])), (sn0, .inl (cJ, 40, .inr (.inl nu0))), (sn1, .inl (cJ, 40, .inr (.inl nu1))), (sn2, .inl (cJ, 40, .inr (.inl nu2))), (sn3, .inl (cJ, 40, .inr (.inl nu3))), (m_ybi, .inl (cI, 4, .inl m_bi)), (m_ysi, .inl (cI, 4, .inl m_sq)), (m_ynu, .inl (cJ, 160, .inr (.inl m_nb))), (m_ymo, .inl (cJ, 40, .inr (.inl m_mv9))), (h0, .inr (8, [.ref qh, .ref qk, .ref qd, .int b0, .ref qa, .ref qm, .ref qs, .ref qp, .ref ql, .ref qt, .ref qz, .ref qf])), (qf, .inl (cI, 7, .inl f2_14)), (g0, .inr (9, [.ref m_ys, .ref m_yk, .ref m_yo, .ref m_yt, .int b0, .ref m_yfa, .ref m_yfe, .int m_mL, .int m_mS, .int m_mM, .ref m_yro, .ref m_yhe, .ref m_ygr, .int m_mF, .int m_mC, .int m_mY, .ref m_yta, .int (nI (z)), .int (nI (m_mf)), .int (nI (m_mt)), .int m_mv, .int m_mw, .ref m_ywa, .ref m_ybi, .ref m_ysi, .ref m_ynu, .ref m_ymo])), (m_yt, .inl (cI, 7, .inl mq2_16))] tl) H := hP
      have hD : va_D A (@HAppend.hAppend va_W va_W va_W _ [(qz, .inl (cS, 4, .inr (.inr (.inr (.inr (xSh s0 s1 s2 s3)))))), (s0, .inr (4, [.int bt0, .int (nI (sz0)), .ref sn0])), (s1, .inr (4, [.int bt1, .int (nI (sz1)), .ref sn1])), (s2, .inr (4, [.int bt2, .int (nI (sz2)), .ref sn2])), (s3, .inr (4, [.int bt3, .int (nI (sz3)), .ref sn3])), (sn0, .inl (cJ, 40, .inr (.inl nu0))), (sn1, .inl (cJ, 40, .inr (.inl nu1))), (sn2, .inl (cJ, 40, .inr (.inl nu2))), (sn3, .inl (cJ, 40, .inr (.inl nu3))), (m_ybi, .inl (cI, 4, .inl m_bi)), (m_ysi, .inl (cI, 4, .inl m_sq)), (m_ynu, .inl (cJ, 160, .inr (.inl m_nb))), (m_ymo, .inl (cJ, 40, .inr (.inl m_mv9))), (h0, .inr (8, [.ref qh, .ref qk, .ref qd, .int b0, .ref qa, .ref qm, .ref qs, .ref qp, .ref ql, .ref qt, .ref qz, .ref qf])), (qf, .inl (cI, 7, .inl f2_14)), (g0, .inr (9, [.ref m_ys, .ref m_yk, .ref m_yo, .ref m_yt, .int b0, .ref m_yfa, .ref m_yfe, .int m_mL, .int m_mS, .int m_mM, .ref m_yro, .ref m_yhe, .ref m_ygr, .int m_mF, .int m_mC, .int m_mY, .ref m_yta, .int (nI (z)), .int (nI (m_mf)), .int (nI (m_mt)), .int m_mv, .int m_mw, .ref m_ywa, .ref m_ybi, .ref m_ysi, .ref m_ynu, .ref m_ymo])), (m_yt, .inl (cI, 7, .inl mq2_16))] tl) := hD
      subst hw_r_15
      refine lv_pop hx hb dL_law_1337 rfl ?_
      refine lv_goto (tgt := 1482) hx hb dL_law_1338 (by decide) ?_
      exact kkx _ _ _ nu0 nu1 nu2 nu3 f2_14 mq2_16 m_nb m_mv9 (xt_P hP [13, 0, 1, 2, 3, 4, 5, 6, 7, 8, 14, 15, 16, 9, 10, 11, 12] rfl) (xt_D hD [13, 0, 1, 2, 3, 4, 5, 6, 7, 8, 14, 15, 16, 9, 10, 11, 12] (by decide +kernel) rfl) r_n0 r_n1 r_n2 r_n3 hS hl
    · skip
      refine lv_aload_n hx hb dL_law_1279 rfl (lv_at hl 3 rfl) ?_
      refine lv_iload_n hx hb dL_law_1280 rfl (lv_at hl 0 rfl) ?_
      refine lv_iconst (v := 1) hx hb dL_law_1281 (by decide) ?_
      refine lv_iadd hx hb dL_law_1282 ?_
      refine xl_i (y := nI (i + 1)) (nI_add i 1) ?_
      refine va_sld hx hb hX hbl hbA hS (x_si (k := 1) (by decide) hi hL) dL_law_1283 ?_
      refine xl_i (y := xs (i + 1)) (congrArg xs (x_sc (k := 1) (by decide) hi hL)) ?_
      refine lv_aload_n hx hb dL_law_1284 rfl (lv_at hl 3 rfl) ?_
      refine lv_iload_n hx hb dL_law_1285 rfl (lv_at hl 0 rfl) ?_
      refine lv_iconst (v := 2) hx hb dL_law_1286 (by decide) ?_
      refine lv_iadd hx hb dL_law_1287 ?_
      refine xl_i (y := nI (i + 2)) (nI_add i 2) ?_
      refine va_sld hx hb hX hbl hbA hS (x_si (k := 2) (by decide) hi hL) dL_law_1288 ?_
      refine xl_i (y := xs (i + 2)) (congrArg xs (x_sc (k := 2) (by decide) hi hL)) ?_
      refine lv_aload_n hx hb dL_law_1289 rfl (lv_at hl 3 rfl) ?_
      refine lv_iload_n hx hb dL_law_1290 rfl (lv_at hl 0 rfl) ?_
      refine lv_iconst (v := 3) hx hb dL_law_1291 (by decide) ?_
      refine lv_iadd hx hb dL_law_1292 ?_
      refine xl_i (y := nI (i + 3)) (nI_add i 3) ?_
      refine va_sld hx hb hX hbl hbA hS (x_si (k := 3) (by decide) hi hL) dL_law_1293 ?_
      refine xl_i (y := xs (i + 3)) (congrArg xs (x_sc (k := 3) (by decide) hi hL)) ?_
      refine xl_i (y := 3) eq3 ?_
      refine lv_aload_n hx hb dL_law_1294 rfl (lv_at hl 3 rfl) ?_
      refine lv_iload_n hx hb dL_law_1295 rfl (lv_at hl 0 rfl) ?_
      refine lv_iconst (v := 4) hx hb dL_law_1296 (by decide) ?_
      refine lv_iadd hx hb dL_law_1297 ?_
      refine xl_i (y := nI (i + 4)) (nI_add i 4) ?_
      refine va_sld hx hb hX hbl hbA hS (x_si (k := 4) (by decide) hi hL) dL_law_1298 ?_
      refine xl_i (y := xs (i + 4)) (congrArg xs (x_sc (k := 4) (by decide) hi hL)) ?_
      refine lv_aload_n hx hb dL_law_1299 rfl (lv_at hl 3 rfl) ?_
      refine lv_iload_n hx hb dL_law_1300 rfl (lv_at hl 0 rfl) ?_
      refine lv_iconst (v := 5) hx hb dL_law_1301 (by decide) ?_
      refine lv_iadd hx hb dL_law_1302 ?_
      refine xl_i (y := nI (i + 5)) (nI_add i 5) ?_
      refine va_sld hx hb hX hbl hbA hS (x_si (k := 5) (by decide) hi hL) dL_law_1303 ?_
      refine xl_i (y := xs (i + 5)) (congrArg xs (x_sc (k := 5) (by decide) hi hL)) ?_
      refine xc_ViT (wr := [(qz, .inl (cS, 4, .inr (.inr (.inr (.inr (xSh s0 s1 s2 s3)))))), (s0, .inr (4, [.int bt0, .int (nI (sz0)), .ref sn0])), (s1, .inr (4, [.int bt1, .int (nI (sz1)), .ref sn1])), (s2, .inr (4, [.int bt2, .int (nI (sz2)), .ref sn2])), (s3, .inr (4, [.int bt3, .int (nI (sz3)), .ref sn3])), (sn0, .inl (cJ, 40, .inr (.inl nu0))), (sn1, .inl (cJ, 40, .inr (.inl nu1))), (sn2, .inl (cJ, 40, .inr (.inl nu2))), (sn3, .inl (cJ, 40, .inr (.inl nu3))), (g0, .inr (9, [.ref m_ys, .ref m_yk, .ref m_yo, .ref m_yt, .int b0, .ref m_yfa, .ref m_yfe, .int m_mL, .int m_mS, .int m_mM, .ref m_yro, .ref m_yhe, .ref m_ygr, .int m_mF, .int m_mC, .int m_mY, .ref m_yta, .int (nI (z)), .int (nI (m_mf)), .int (nI (m_mt)), .int m_mv, .int m_mw, .ref m_ywa, .ref m_ybi, .ref m_ysi, .ref m_ynu, .ref m_ymo])), (m_yt, .inl (cI, 7, .inl m_mq)), (m_ybi, .inl (cI, 4, .inl m_bi)), (m_ysi, .inl (cI, 4, .inl m_sq)), (m_ynu, .inl (cJ, 160, .inr (.inl m_nb))), (m_ymo, .inl (cJ, 40, .inr (.inl m_mv9)))]) hF (c_X8_copy_o l D cI cJ cZ cS ta sa sv H.size h0 qh qk qd b0 qa qm qs qp ql qt qz qf ff (xs (i + 1)) (xs (i + 2)) 3 (xs (i + 4)) (xs (i + 5)) oq1) kv_L_166 ⟨rfl, rfl, Nat.le_of_ble_eq_true rfl, Nat.le_of_ble_eq_true rfl⟩ ⟨Nat.le_of_ble_eq_true rfl, Nat.le_of_ble_eq_true rfl⟩ hK hN hZ hP hD hS hA [0, 10] [1, 2, 3, 4, 5, 6, 7, 8, 9, 11, 12, 13, 14, 15, 16] rfl rfl rfl (by decide +kernel) (by decide +kernel) 0 rfl rfl rfl rfl hl.1 rfl (Nat.le_of_ble_eq_true rfl) dL_law_1304 (fun r_17 u_r_17 H locs hw_r_17 hP hD hS => ?_)
      obtain ⟨f2_18, rfl⟩ : ∃ z, z = u_r_17 := ⟨_, rfl⟩
      try dsimp only at hw_r_17
      have hP : va_P D vwCl (@HAppend.hAppend va_W va_W va_W _ [(qz, .inl (cS, 4, .inr (.inr (.inr (.inr (xSh s0 s1 s2 s3)))))), (s0, .inr (4, [.int bt0, .int (nI (sz0)), .ref sn0])), (s1, .inr (4, [.int bt1, .int (nI (sz1)), .ref sn1])), (s2, .inr (4, [.int bt2, .int (nI (sz2)), .ref sn2])), (s3, .inr (4, [.int bt3, .int (nI (sz3)), .ref sn3])), (sn0, .inl (cJ, 40, .inr (.inl nu0))), (sn1, .inl (cJ, 40, .inr (.inl nu1))), (sn2, .inl (cJ, 40, .inr (.inl nu2))), (sn3, .inl (cJ, 40, .inr (.inl nu3))), (g0, .inr (9, [.ref m_ys, .ref m_yk, .ref m_yo, .ref m_yt, .int b0, .ref m_yfa, .ref m_yfe, .int m_mL, .int m_mS, .int m_mM, .ref m_yro, .ref m_yhe, .ref m_ygr, .int m_mF, .int m_mC, .int m_mY, .ref m_yta, .int (nI (z)), .int (nI (m_mf)), .int (nI (m_mt)), .int m_mv, .int m_mw, .ref m_ywa, .ref m_ybi, .ref m_ysi, .ref m_ynu, .ref m_ymo])), (m_yt, .inl (cI, 7, .inl m_mq)), (m_ybi, .inl (cI, 4, .inl m_bi)), (m_ysi, .inl (cI, 4, .inl m_sq)), (m_ynu, .inl (cJ, 160, .inr (.inl m_nb))), (m_ymo, .inl (cJ, 40, .inr (.inl m_mv9))), (h0, .inr (8, [.ref qh, .ref qk, .ref qd, .int b0, .ref qa, .ref qm, .ref qs, .ref qp, .ref ql, .ref qt, .ref qz, .ref qf])), (qf, .inl (cI, 7, .inl f2_18))] tl) H := hP
      have hD : va_D A (@HAppend.hAppend va_W va_W va_W _ [(qz, .inl (cS, 4, .inr (.inr (.inr (.inr (xSh s0 s1 s2 s3)))))), (s0, .inr (4, [.int bt0, .int (nI (sz0)), .ref sn0])), (s1, .inr (4, [.int bt1, .int (nI (sz1)), .ref sn1])), (s2, .inr (4, [.int bt2, .int (nI (sz2)), .ref sn2])), (s3, .inr (4, [.int bt3, .int (nI (sz3)), .ref sn3])), (sn0, .inl (cJ, 40, .inr (.inl nu0))), (sn1, .inl (cJ, 40, .inr (.inl nu1))), (sn2, .inl (cJ, 40, .inr (.inl nu2))), (sn3, .inl (cJ, 40, .inr (.inl nu3))), (g0, .inr (9, [.ref m_ys, .ref m_yk, .ref m_yo, .ref m_yt, .int b0, .ref m_yfa, .ref m_yfe, .int m_mL, .int m_mS, .int m_mM, .ref m_yro, .ref m_yhe, .ref m_ygr, .int m_mF, .int m_mC, .int m_mY, .ref m_yta, .int (nI (z)), .int (nI (m_mf)), .int (nI (m_mt)), .int m_mv, .int m_mw, .ref m_ywa, .ref m_ybi, .ref m_ysi, .ref m_ynu, .ref m_ymo])), (m_yt, .inl (cI, 7, .inl m_mq)), (m_ybi, .inl (cI, 4, .inl m_bi)), (m_ysi, .inl (cI, 4, .inl m_sq)), (m_ynu, .inl (cJ, 160, .inr (.inl m_nb))), (m_ymo, .inl (cJ, 40, .inr (.inl m_mv9))), (h0, .inr (8, [.ref qh, .ref qk, .ref qd, .int b0, .ref qa, .ref qm, .ref qs, .ref qp, .ref ql, .ref qt, .ref qz, .ref qf])), (qf, .inl (cI, 7, .inl f2_18))] tl) := hD
      subst hw_r_17
      refine lv_pop hx hb dL_law_1307 rfl ?_
      refine lv_aload_n hx hb dL_law_1308 rfl (lv_at hl 1 rfl) ?_
      refine lv_aload_n hx hb dL_law_1309 rfl (lv_at hl 3 rfl) ?_
      refine lv_iload_n hx hb dL_law_1310 rfl (lv_at hl 0 rfl) ?_
      refine lv_iconst (v := 1) hx hb dL_law_1311 (by decide) ?_
      refine lv_iadd hx hb dL_law_1312 ?_
      refine xl_i (y := nI (i + 1)) (nI_add i 1) ?_
      refine va_sld hx hb hX hbl hbA hS (x_si (k := 1) (by decide) hi hL) dL_law_1313 ?_
      refine xl_i (y := xs (i + 1)) (congrArg xs (x_sc (k := 1) (by decide) hi hL)) ?_
      refine lv_aload_n hx hb dL_law_1314 rfl (lv_at hl 3 rfl) ?_
      refine lv_iload_n hx hb dL_law_1315 rfl (lv_at hl 0 rfl) ?_
      refine lv_iconst (v := 2) hx hb dL_law_1316 (by decide) ?_
      refine lv_iadd hx hb dL_law_1317 ?_
      refine xl_i (y := nI (i + 2)) (nI_add i 2) ?_
      refine va_sld hx hb hX hbl hbA hS (x_si (k := 2) (by decide) hi hL) dL_law_1318 ?_
      refine xl_i (y := xs (i + 2)) (congrArg xs (x_sc (k := 2) (by decide) hi hL)) ?_
      refine lv_aload_n hx hb dL_law_1319 rfl (lv_at hl 3 rfl) ?_
      refine lv_iload_n hx hb dL_law_1320 rfl (lv_at hl 0 rfl) ?_
      refine lv_iconst (v := 3) hx hb dL_law_1321 (by decide) ?_
      refine lv_iadd hx hb dL_law_1322 ?_
      refine xl_i (y := nI (i + 3)) (nI_add i 3) ?_
      refine va_sld hx hb hX hbl hbA hS (x_si (k := 3) (by decide) hi hL) dL_law_1323 ?_
      refine xl_i (y := xs (i + 3)) (congrArg xs (x_sc (k := 3) (by decide) hi hL)) ?_
      refine xl_i (y := 3) eq3 ?_
      refine lv_aload_n hx hb dL_law_1324 rfl (lv_at hl 3 rfl) ?_
      refine lv_iload_n hx hb dL_law_1325 rfl (lv_at hl 0 rfl) ?_
      refine lv_iconst (v := 4) hx hb dL_law_1326 (by decide) ?_
      refine lv_iadd hx hb dL_law_1327 ?_
      refine xl_i (y := nI (i + 4)) (nI_add i 4) ?_
      refine va_sld hx hb hX hbl hbA hS (x_si (k := 4) (by decide) hi hL) dL_law_1328 ?_
      refine xl_i (y := xs (i + 4)) (congrArg xs (x_sc (k := 4) (by decide) hi hL)) ?_
      refine lv_aload_n hx hb dL_law_1329 rfl (lv_at hl 3 rfl) ?_
      refine lv_iload_n hx hb dL_law_1330 rfl (lv_at hl 0 rfl) ?_
      refine lv_iconst (v := 5) hx hb dL_law_1331 (by decide) ?_
      refine lv_iadd hx hb dL_law_1332 ?_
      refine xl_i (y := nI (i + 5)) (nI_add i 5) ?_
      refine va_sld hx hb hX hbl hbA hS (x_si (k := 5) (by decide) hi hL) dL_law_1333 ?_
      refine xl_i (y := xs (i + 5)) (congrArg xs (x_sc (k := 5) (by decide) hi hL)) ?_
      refine xc_ViT (wr := [(qz, .inl (cS, 4, .inr (.inr (.inr (.inr (xSh s0 s1 s2 s3)))))), (s0, .inr (4, [.int bt0, .int (nI (sz0)), .ref sn0])), (s1, .inr (4, [.int bt1, .int (nI (sz1)), .ref sn1])), (s2, .inr (4, [.int bt2, .int (nI (sz2)), .ref sn2])), (s3, .inr (4, [.int bt3, .int (nI (sz3)), .ref sn3])), (sn0, .inl (cJ, 40, .inr (.inl nu0))), (sn1, .inl (cJ, 40, .inr (.inl nu1))), (sn2, .inl (cJ, 40, .inr (.inl nu2))), (sn3, .inl (cJ, 40, .inr (.inl nu3))), (m_ybi, .inl (cI, 4, .inl m_bi)), (m_ysi, .inl (cI, 4, .inl m_sq)), (m_ynu, .inl (cJ, 160, .inr (.inl m_nb))), (m_ymo, .inl (cJ, 40, .inr (.inl m_mv9))), (h0, .inr (8, [.ref qh, .ref qk, .ref qd, .int b0, .ref qa, .ref qm, .ref qs, .ref qp, .ref ql, .ref qt, .ref qz, .ref qf])), (qf, .inl (cI, 7, .inl f2_18))]) hF (c_X9_copy_o l D cI cJ cZ cS ta sa sv H.size g0 m_ys m_yk m_yo m_yt b0 m_yfa m_yfe m_mL m_mS m_mM m_yro m_yhe m_ygr m_mF m_mC m_mY m_yta z m_mf m_mt m_mv m_mw m_ywa m_ybi m_ysi m_ynu m_ymo m_mq (xs (i + 1)) (xs (i + 2)) 3 (xs (i + 4)) (xs (i + 5)) oq1) kv_L_170 ⟨rfl, rfl, Nat.le_of_ble_eq_true rfl, Nat.le_of_ble_eq_true rfl⟩ ⟨Nat.le_of_ble_eq_true rfl, Nat.le_of_ble_eq_true rfl⟩ hK hN hZ hP hD hS hA [9, 10] [0, 1, 2, 3, 4, 5, 6, 7, 8, 11, 12, 13, 14, 15, 16] rfl rfl rfl (by decide +kernel) (by decide +kernel) 0 rfl rfl rfl rfl hl.1 rfl (Nat.le_of_ble_eq_true rfl) dL_law_1334 (fun r_19 u_r_19 H locs hw_r_19 hP hD hS => ?_)
      obtain ⟨mq2_20, rfl⟩ : ∃ z, z = u_r_19 := ⟨_, rfl⟩
      try dsimp only at hw_r_19
      have hP : va_P D vwCl (@HAppend.hAppend va_W va_W va_W _ [(qz, .inl (cS, 4, .inr (.inr (.inr (.inr (xSh s0 s1 s2 s3)))))), (s0, .inr (4, [.int bt0, .int (nI (sz0)), .ref sn0])), (s1, .inr (4, [.int bt1, .int (nI (sz1)), .ref sn1])), (s2, .inr (4, [.int bt2, .int (nI (sz2)), .ref sn2])), (s3, .inr (4, [.int bt3, .int (nI (sz3)), .ref sn3])), (sn0, .inl (cJ, 40, .inr (.inl nu0))), (sn1, .inl (cJ, 40, .inr (.inl nu1))), (sn2, .inl (cJ, 40, .inr (.inl nu2))), (sn3, .inl (cJ, 40, .inr (.inl nu3))), (m_ybi, .inl (cI, 4, .inl m_bi)), (m_ysi, .inl (cI, 4, .inl m_sq)), (m_ynu, .inl (cJ, 160, .inr (.inl m_nb))), (m_ymo, .inl (cJ, 40, .inr (.inl m_mv9))), (h0, .inr (8, [.ref qh, .ref qk, .ref qd, .int b0, .ref qa, .ref qm, .ref qs, .ref qp, .ref ql, .ref qt, .ref qz, .ref qf])), (qf, .inl (cI, 7, .inl f2_18)), (g0, .inr (9, [.ref m_ys, .ref m_yk, .ref m_yo, .ref m_yt, .int b0, .ref m_yfa, .ref m_yfe, .int m_mL, .int m_mS, .int m_mM, .ref m_yro, .ref m_yhe, .ref m_ygr, .int m_mF, .int m_mC, .int m_mY, .ref m_yta, .int (nI (z)), .int (nI (m_mf)), .int (nI (m_mt)), .int m_mv, .int m_mw, .ref m_ywa, .ref m_ybi, .ref m_ysi, .ref m_ynu, .ref m_ymo])), (m_yt, .inl (cI, 7, .inl mq2_20))] tl) H := hP
      have hD : va_D A (@HAppend.hAppend va_W va_W va_W _ [(qz, .inl (cS, 4, .inr (.inr (.inr (.inr (xSh s0 s1 s2 s3)))))), (s0, .inr (4, [.int bt0, .int (nI (sz0)), .ref sn0])), (s1, .inr (4, [.int bt1, .int (nI (sz1)), .ref sn1])), (s2, .inr (4, [.int bt2, .int (nI (sz2)), .ref sn2])), (s3, .inr (4, [.int bt3, .int (nI (sz3)), .ref sn3])), (sn0, .inl (cJ, 40, .inr (.inl nu0))), (sn1, .inl (cJ, 40, .inr (.inl nu1))), (sn2, .inl (cJ, 40, .inr (.inl nu2))), (sn3, .inl (cJ, 40, .inr (.inl nu3))), (m_ybi, .inl (cI, 4, .inl m_bi)), (m_ysi, .inl (cI, 4, .inl m_sq)), (m_ynu, .inl (cJ, 160, .inr (.inl m_nb))), (m_ymo, .inl (cJ, 40, .inr (.inl m_mv9))), (h0, .inr (8, [.ref qh, .ref qk, .ref qd, .int b0, .ref qa, .ref qm, .ref qs, .ref qp, .ref ql, .ref qt, .ref qz, .ref qf])), (qf, .inl (cI, 7, .inl f2_18)), (g0, .inr (9, [.ref m_ys, .ref m_yk, .ref m_yo, .ref m_yt, .int b0, .ref m_yfa, .ref m_yfe, .int m_mL, .int m_mS, .int m_mM, .ref m_yro, .ref m_yhe, .ref m_ygr, .int m_mF, .int m_mC, .int m_mY, .ref m_yta, .int (nI (z)), .int (nI (m_mf)), .int (nI (m_mt)), .int m_mv, .int m_mw, .ref m_ywa, .ref m_ybi, .ref m_ysi, .ref m_ynu, .ref m_ymo])), (m_yt, .inl (cI, 7, .inl mq2_20))] tl) := hD
      subst hw_r_19
      refine lv_pop hx hb dL_law_1337 rfl ?_
      refine lv_goto (tgt := 1482) hx hb dL_law_1338 (by decide) ?_
      exact kkx _ _ _ nu0 nu1 nu2 nu3 f2_18 mq2_20 m_nb m_mv9 (xt_P hP [13, 0, 1, 2, 3, 4, 5, 6, 7, 8, 14, 15, 16, 9, 10, 11, 12] rfl) (xt_D hD [13, 0, 1, 2, 3, 4, 5, 6, 7, 8, 14, 15, 16, 9, 10, 11, 12] (by decide +kernel) rfl) r_n0 r_n1 r_n2 r_n3 hS hl
  · skip
    refine lv_aload_n hx hb dL_law_1278 rfl (lv_at hl 2 rfl) ?_
    rcases x_sh4 (xs (i + 3)) with oq3 | eq3 | eq3 | eq3 | eq3
    · skip
      refine lv_aload_n hx hb dL_law_1279 rfl (lv_at hl 3 rfl) ?_
      refine lv_iload_n hx hb dL_law_1280 rfl (lv_at hl 0 rfl) ?_
      refine lv_iconst (v := 1) hx hb dL_law_1281 (by decide) ?_
      refine lv_iadd hx hb dL_law_1282 ?_
      refine xl_i (y := nI (i + 1)) (nI_add i 1) ?_
      refine va_sld hx hb hX hbl hbA hS (x_si (k := 1) (by decide) hi hL) dL_law_1283 ?_
      refine xl_i (y := xs (i + 1)) (congrArg xs (x_sc (k := 1) (by decide) hi hL)) ?_
      refine xl_i (y := 0) eq1 ?_
      refine lv_aload_n hx hb dL_law_1284 rfl (lv_at hl 3 rfl) ?_
      refine lv_iload_n hx hb dL_law_1285 rfl (lv_at hl 0 rfl) ?_
      refine lv_iconst (v := 2) hx hb dL_law_1286 (by decide) ?_
      refine lv_iadd hx hb dL_law_1287 ?_
      refine xl_i (y := nI (i + 2)) (nI_add i 2) ?_
      refine va_sld hx hb hX hbl hbA hS (x_si (k := 2) (by decide) hi hL) dL_law_1288 ?_
      refine xl_i (y := xs (i + 2)) (congrArg xs (x_sc (k := 2) (by decide) hi hL)) ?_
      refine lv_aload_n hx hb dL_law_1289 rfl (lv_at hl 3 rfl) ?_
      refine lv_iload_n hx hb dL_law_1290 rfl (lv_at hl 0 rfl) ?_
      refine lv_iconst (v := 3) hx hb dL_law_1291 (by decide) ?_
      refine lv_iadd hx hb dL_law_1292 ?_
      refine xl_i (y := nI (i + 3)) (nI_add i 3) ?_
      refine va_sld hx hb hX hbl hbA hS (x_si (k := 3) (by decide) hi hL) dL_law_1293 ?_
      refine xl_i (y := xs (i + 3)) (congrArg xs (x_sc (k := 3) (by decide) hi hL)) ?_
      refine lv_aload_n hx hb dL_law_1294 rfl (lv_at hl 3 rfl) ?_
      refine lv_iload_n hx hb dL_law_1295 rfl (lv_at hl 0 rfl) ?_
      refine lv_iconst (v := 4) hx hb dL_law_1296 (by decide) ?_
      refine lv_iadd hx hb dL_law_1297 ?_
      refine xl_i (y := nI (i + 4)) (nI_add i 4) ?_
      refine va_sld hx hb hX hbl hbA hS (x_si (k := 4) (by decide) hi hL) dL_law_1298 ?_
      refine xl_i (y := xs (i + 4)) (congrArg xs (x_sc (k := 4) (by decide) hi hL)) ?_
      refine lv_aload_n hx hb dL_law_1299 rfl (lv_at hl 3 rfl) ?_
      refine lv_iload_n hx hb dL_law_1300 rfl (lv_at hl 0 rfl) ?_
      refine lv_iconst (v := 5) hx hb dL_law_1301 (by decide) ?_
      refine lv_iadd hx hb dL_law_1302 ?_
      refine xl_i (y := nI (i + 5)) (nI_add i 5) ?_
      refine va_sld hx hb hX hbl hbA hS (x_si (k := 5) (by decide) hi hL) dL_law_1303 ?_
      refine xl_i (y := xs (i + 5)) (congrArg xs (x_sc (k := 5) (by decide) hi hL)) ?_
      refine xc_ViT (wr := [(qz, .inl (cS, 4, .inr (.inr (.inr (.inr (xSh s0 s1 s2 s3)))))), (s0, .inr (4, [.int bt0, .int (nI (sz0)), .ref sn0])), (s1, .inr (4, [.int bt1, .int (nI (sz1)), .ref sn1])), (s2, .inr (4, [.int bt2, .int (nI (sz2)), .ref sn2])), (s3, .inr (4, [.int bt3, .int (nI (sz3)), .ref sn3])), (sn0, .inl (cJ, 40, .inr (.inl nu0))), (sn1, .inl (cJ, 40, .inr (.inl nu1))), (sn2, .inl (cJ, 40, .inr (.inl nu2))), (sn3, .inl (cJ, 40, .inr (.inl nu3))), (g0, .inr (9, [.ref m_ys, .ref m_yk, .ref m_yo, .ref m_yt, .int b0, .ref m_yfa, .ref m_yfe, .int m_mL, .int m_mS, .int m_mM, .ref m_yro, .ref m_yhe, .ref m_ygr, .int m_mF, .int m_mC, .int m_mY, .ref m_yta, .int (nI (z)), .int (nI (m_mf)), .int (nI (m_mt)), .int m_mv, .int m_mw, .ref m_ywa, .ref m_ybi, .ref m_ysi, .ref m_ynu, .ref m_ymo])), (m_yt, .inl (cI, 7, .inl m_mq)), (m_ybi, .inl (cI, 4, .inl m_bi)), (m_ysi, .inl (cI, 4, .inl m_sq)), (m_ynu, .inl (cJ, 160, .inr (.inl m_nb))), (m_ymo, .inl (cJ, 40, .inr (.inl m_mv9)))]) hF (c_X8_copy_0o l D cI cJ cZ cS ta sa sv H.size h0 qh qk qd b0 qa qm qs qp ql qt qz qf ff (xs (i + 2)) (xs (i + 3)) (xs (i + 4)) (xs (i + 5)) oq3) kv_L_166 ⟨rfl, rfl, Nat.le_of_ble_eq_true rfl, Nat.le_of_ble_eq_true rfl⟩ ⟨Nat.le_of_ble_eq_true rfl, Nat.le_of_ble_eq_true rfl⟩ hK hN hZ hP hD hS hA [0, 10] [1, 2, 3, 4, 5, 6, 7, 8, 9, 11, 12, 13, 14, 15, 16] rfl rfl rfl (by decide +kernel) (by decide +kernel) 0 rfl rfl rfl rfl hl.1 rfl (Nat.le_of_ble_eq_true rfl) dL_law_1304 (fun r_21 u_r_21 H locs hw_r_21 hP hD hS => ?_)
      obtain ⟨f2_22, rfl⟩ : ∃ z, z = u_r_21 := ⟨_, rfl⟩
      try dsimp only at hw_r_21
      have hP : va_P D vwCl (@HAppend.hAppend va_W va_W va_W _ [(qz, .inl (cS, 4, .inr (.inr (.inr (.inr (xSh s0 s1 s2 s3)))))), (s0, .inr (4, [.int bt0, .int (nI (sz0)), .ref sn0])), (s1, .inr (4, [.int bt1, .int (nI (sz1)), .ref sn1])), (s2, .inr (4, [.int bt2, .int (nI (sz2)), .ref sn2])), (s3, .inr (4, [.int bt3, .int (nI (sz3)), .ref sn3])), (sn0, .inl (cJ, 40, .inr (.inl nu0))), (sn1, .inl (cJ, 40, .inr (.inl nu1))), (sn2, .inl (cJ, 40, .inr (.inl nu2))), (sn3, .inl (cJ, 40, .inr (.inl nu3))), (g0, .inr (9, [.ref m_ys, .ref m_yk, .ref m_yo, .ref m_yt, .int b0, .ref m_yfa, .ref m_yfe, .int m_mL, .int m_mS, .int m_mM, .ref m_yro, .ref m_yhe, .ref m_ygr, .int m_mF, .int m_mC, .int m_mY, .ref m_yta, .int (nI (z)), .int (nI (m_mf)), .int (nI (m_mt)), .int m_mv, .int m_mw, .ref m_ywa, .ref m_ybi, .ref m_ysi, .ref m_ynu, .ref m_ymo])), (m_yt, .inl (cI, 7, .inl m_mq)), (m_ybi, .inl (cI, 4, .inl m_bi)), (m_ysi, .inl (cI, 4, .inl m_sq)), (m_ynu, .inl (cJ, 160, .inr (.inl m_nb))), (m_ymo, .inl (cJ, 40, .inr (.inl m_mv9))), (h0, .inr (8, [.ref qh, .ref qk, .ref qd, .int b0, .ref qa, .ref qm, .ref qs, .ref qp, .ref ql, .ref qt, .ref qz, .ref qf])), (qf, .inl (cI, 7, .inl f2_22))] tl) H := hP
      have hD : va_D A (@HAppend.hAppend va_W va_W va_W _ [(qz, .inl (cS, 4, .inr (.inr (.inr (.inr (xSh s0 s1 s2 s3)))))), (s0, .inr (4, [.int bt0, .int (nI (sz0)), .ref sn0])), (s1, .inr (4, [.int bt1, .int (nI (sz1)), .ref sn1])), (s2, .inr (4, [.int bt2, .int (nI (sz2)), .ref sn2])), (s3, .inr (4, [.int bt3, .int (nI (sz3)), .ref sn3])), (sn0, .inl (cJ, 40, .inr (.inl nu0))), (sn1, .inl (cJ, 40, .inr (.inl nu1))), (sn2, .inl (cJ, 40, .inr (.inl nu2))), (sn3, .inl (cJ, 40, .inr (.inl nu3))), (g0, .inr (9, [.ref m_ys, .ref m_yk, .ref m_yo, .ref m_yt, .int b0, .ref m_yfa, .ref m_yfe, .int m_mL, .int m_mS, .int m_mM, .ref m_yro, .ref m_yhe, .ref m_ygr, .int m_mF, .int m_mC, .int m_mY, .ref m_yta, .int (nI (z)), .int (nI (m_mf)), .int (nI (m_mt)), .int m_mv, .int m_mw, .ref m_ywa, .ref m_ybi, .ref m_ysi, .ref m_ynu, .ref m_ymo])), (m_yt, .inl (cI, 7, .inl m_mq)), (m_ybi, .inl (cI, 4, .inl m_bi)), (m_ysi, .inl (cI, 4, .inl m_sq)), (m_ynu, .inl (cJ, 160, .inr (.inl m_nb))), (m_ymo, .inl (cJ, 40, .inr (.inl m_mv9))), (h0, .inr (8, [.ref qh, .ref qk, .ref qd, .int b0, .ref qa, .ref qm, .ref qs, .ref qp, .ref ql, .ref qt, .ref qz, .ref qf])), (qf, .inl (cI, 7, .inl f2_22))] tl) := hD
      subst hw_r_21
      refine lv_pop hx hb dL_law_1307 rfl ?_
      refine lv_aload_n hx hb dL_law_1308 rfl (lv_at hl 1 rfl) ?_
      refine lv_aload_n hx hb dL_law_1309 rfl (lv_at hl 3 rfl) ?_
      refine lv_iload_n hx hb dL_law_1310 rfl (lv_at hl 0 rfl) ?_
      refine lv_iconst (v := 1) hx hb dL_law_1311 (by decide) ?_
      refine lv_iadd hx hb dL_law_1312 ?_
      refine xl_i (y := nI (i + 1)) (nI_add i 1) ?_
      refine va_sld hx hb hX hbl hbA hS (x_si (k := 1) (by decide) hi hL) dL_law_1313 ?_
      refine xl_i (y := xs (i + 1)) (congrArg xs (x_sc (k := 1) (by decide) hi hL)) ?_
      refine xl_i (y := 0) eq1 ?_
      refine lv_aload_n hx hb dL_law_1314 rfl (lv_at hl 3 rfl) ?_
      refine lv_iload_n hx hb dL_law_1315 rfl (lv_at hl 0 rfl) ?_
      refine lv_iconst (v := 2) hx hb dL_law_1316 (by decide) ?_
      refine lv_iadd hx hb dL_law_1317 ?_
      refine xl_i (y := nI (i + 2)) (nI_add i 2) ?_
      refine va_sld hx hb hX hbl hbA hS (x_si (k := 2) (by decide) hi hL) dL_law_1318 ?_
      refine xl_i (y := xs (i + 2)) (congrArg xs (x_sc (k := 2) (by decide) hi hL)) ?_
      refine lv_aload_n hx hb dL_law_1319 rfl (lv_at hl 3 rfl) ?_
      refine lv_iload_n hx hb dL_law_1320 rfl (lv_at hl 0 rfl) ?_
      refine lv_iconst (v := 3) hx hb dL_law_1321 (by decide) ?_
      refine lv_iadd hx hb dL_law_1322 ?_
      refine xl_i (y := nI (i + 3)) (nI_add i 3) ?_
      refine va_sld hx hb hX hbl hbA hS (x_si (k := 3) (by decide) hi hL) dL_law_1323 ?_
      refine xl_i (y := xs (i + 3)) (congrArg xs (x_sc (k := 3) (by decide) hi hL)) ?_
      refine lv_aload_n hx hb dL_law_1324 rfl (lv_at hl 3 rfl) ?_
      refine lv_iload_n hx hb dL_law_1325 rfl (lv_at hl 0 rfl) ?_
      refine lv_iconst (v := 4) hx hb dL_law_1326 (by decide) ?_
      refine lv_iadd hx hb dL_law_1327 ?_
      refine xl_i (y := nI (i + 4)) (nI_add i 4) ?_
      refine va_sld hx hb hX hbl hbA hS (x_si (k := 4) (by decide) hi hL) dL_law_1328 ?_
      refine xl_i (y := xs (i + 4)) (congrArg xs (x_sc (k := 4) (by decide) hi hL)) ?_
      refine lv_aload_n hx hb dL_law_1329 rfl (lv_at hl 3 rfl) ?_
      refine lv_iload_n hx hb dL_law_1330 rfl (lv_at hl 0 rfl) ?_
      refine lv_iconst (v := 5) hx hb dL_law_1331 (by decide) ?_
      refine lv_iadd hx hb dL_law_1332 ?_
      refine xl_i (y := nI (i + 5)) (nI_add i 5) ?_
      refine va_sld hx hb hX hbl hbA hS (x_si (k := 5) (by decide) hi hL) dL_law_1333 ?_
      refine xl_i (y := xs (i + 5)) (congrArg xs (x_sc (k := 5) (by decide) hi hL)) ?_
      refine xc_ViT (wr := [(qz, .inl (cS, 4, .inr (.inr (.inr (.inr (xSh s0 s1 s2 s3)))))), (s0, .inr (4, [.int bt0, .int (nI (sz0)), .ref sn0])), (s1, .inr (4, [.int bt1, .int (nI (sz1)), .ref sn1])), (s2, .inr (4, [.int bt2, .int (nI (sz2)), .ref sn2])), (s3, .inr (4, [.int bt3, .int (nI (sz3)), .ref sn3])), (sn0, .inl (cJ, 40, .inr (.inl nu0))), (sn1, .inl (cJ, 40, .inr (.inl nu1))), (sn2, .inl (cJ, 40, .inr (.inl nu2))), (sn3, .inl (cJ, 40, .inr (.inl nu3))), (m_ybi, .inl (cI, 4, .inl m_bi)), (m_ysi, .inl (cI, 4, .inl m_sq)), (m_ynu, .inl (cJ, 160, .inr (.inl m_nb))), (m_ymo, .inl (cJ, 40, .inr (.inl m_mv9))), (h0, .inr (8, [.ref qh, .ref qk, .ref qd, .int b0, .ref qa, .ref qm, .ref qs, .ref qp, .ref ql, .ref qt, .ref qz, .ref qf])), (qf, .inl (cI, 7, .inl f2_22))]) hF (c_X9_copy_0o l D cI cJ cZ cS ta sa sv H.size g0 m_ys m_yk m_yo m_yt b0 m_yfa m_yfe m_mL m_mS m_mM m_yro m_yhe m_ygr m_mF m_mC m_mY m_yta z m_mf m_mt m_mv m_mw m_ywa m_ybi m_ysi m_ynu m_ymo m_mq (xs (i + 2)) (xs (i + 3)) (xs (i + 4)) (xs (i + 5)) oq3) kv_L_170 ⟨rfl, rfl, Nat.le_of_ble_eq_true rfl, Nat.le_of_ble_eq_true rfl⟩ ⟨Nat.le_of_ble_eq_true rfl, Nat.le_of_ble_eq_true rfl⟩ hK hN hZ hP hD hS hA [9, 10] [0, 1, 2, 3, 4, 5, 6, 7, 8, 11, 12, 13, 14, 15, 16] rfl rfl rfl (by decide +kernel) (by decide +kernel) 0 rfl rfl rfl rfl hl.1 rfl (Nat.le_of_ble_eq_true rfl) dL_law_1334 (fun r_23 u_r_23 H locs hw_r_23 hP hD hS => ?_)
      obtain ⟨mq2_24, rfl⟩ : ∃ z, z = u_r_23 := ⟨_, rfl⟩
      try dsimp only at hw_r_23
      have hP : va_P D vwCl (@HAppend.hAppend va_W va_W va_W _ [(qz, .inl (cS, 4, .inr (.inr (.inr (.inr (xSh s0 s1 s2 s3)))))), (s0, .inr (4, [.int bt0, .int (nI (sz0)), .ref sn0])), (s1, .inr (4, [.int bt1, .int (nI (sz1)), .ref sn1])), (s2, .inr (4, [.int bt2, .int (nI (sz2)), .ref sn2])), (s3, .inr (4, [.int bt3, .int (nI (sz3)), .ref sn3])), (sn0, .inl (cJ, 40, .inr (.inl nu0))), (sn1, .inl (cJ, 40, .inr (.inl nu1))), (sn2, .inl (cJ, 40, .inr (.inl nu2))), (sn3, .inl (cJ, 40, .inr (.inl nu3))), (m_ybi, .inl (cI, 4, .inl m_bi)), (m_ysi, .inl (cI, 4, .inl m_sq)), (m_ynu, .inl (cJ, 160, .inr (.inl m_nb))), (m_ymo, .inl (cJ, 40, .inr (.inl m_mv9))), (h0, .inr (8, [.ref qh, .ref qk, .ref qd, .int b0, .ref qa, .ref qm, .ref qs, .ref qp, .ref ql, .ref qt, .ref qz, .ref qf])), (qf, .inl (cI, 7, .inl f2_22)), (g0, .inr (9, [.ref m_ys, .ref m_yk, .ref m_yo, .ref m_yt, .int b0, .ref m_yfa, .ref m_yfe, .int m_mL, .int m_mS, .int m_mM, .ref m_yro, .ref m_yhe, .ref m_ygr, .int m_mF, .int m_mC, .int m_mY, .ref m_yta, .int (nI (z)), .int (nI (m_mf)), .int (nI (m_mt)), .int m_mv, .int m_mw, .ref m_ywa, .ref m_ybi, .ref m_ysi, .ref m_ynu, .ref m_ymo])), (m_yt, .inl (cI, 7, .inl mq2_24))] tl) H := hP
      have hD : va_D A (@HAppend.hAppend va_W va_W va_W _ [(qz, .inl (cS, 4, .inr (.inr (.inr (.inr (xSh s0 s1 s2 s3)))))), (s0, .inr (4, [.int bt0, .int (nI (sz0)), .ref sn0])), (s1, .inr (4, [.int bt1, .int (nI (sz1)), .ref sn1])), (s2, .inr (4, [.int bt2, .int (nI (sz2)), .ref sn2])), (s3, .inr (4, [.int bt3, .int (nI (sz3)), .ref sn3])), (sn0, .inl (cJ, 40, .inr (.inl nu0))), (sn1, .inl (cJ, 40, .inr (.inl nu1))), (sn2, .inl (cJ, 40, .inr (.inl nu2))), (sn3, .inl (cJ, 40, .inr (.inl nu3))), (m_ybi, .inl (cI, 4, .inl m_bi)), (m_ysi, .inl (cI, 4, .inl m_sq)), (m_ynu, .inl (cJ, 160, .inr (.inl m_nb))), (m_ymo, .inl (cJ, 40, .inr (.inl m_mv9))), (h0, .inr (8, [.ref qh, .ref qk, .ref qd, .int b0, .ref qa, .ref qm, .ref qs, .ref qp, .ref ql, .ref qt, .ref qz, .ref qf])), (qf, .inl (cI, 7, .inl f2_22)), (g0, .inr (9, [.ref m_ys, .ref m_yk, .ref m_yo, .ref m_yt, .int b0, .ref m_yfa, .ref m_yfe, .int m_mL, .int m_mS, .int m_mM, .ref m_yro, .ref m_yhe, .ref m_ygr, .int m_mF, .int m_mC, .int m_mY, .ref m_yta, .int (nI (z)), .int (nI (m_mf)), .int (nI (m_mt)), .int m_mv, .int m_mw, .ref m_ywa, .ref m_ybi, .ref m_ysi, .ref m_ynu, .ref m_ymo])), (m_yt, .inl (cI, 7, .inl mq2_24))] tl) := hD
      subst hw_r_23
      refine lv_pop hx hb dL_law_1337 rfl ?_
      refine lv_goto (tgt := 1482) hx hb dL_law_1338 (by decide) ?_
      exact kkx _ _ _ nu0 nu1 nu2 nu3 f2_22 mq2_24 m_nb m_mv9 (xt_P hP [13, 0, 1, 2, 3, 4, 5, 6, 7, 8, 14, 15, 16, 9, 10, 11, 12] rfl) (xt_D hD [13, 0, 1, 2, 3, 4, 5, 6, 7, 8, 14, 15, 16, 9, 10, 11, 12] (by decide +kernel) rfl) r_n0 r_n1 r_n2 r_n3 hS hl
    · skip
      refine lv_aload_n hx hb dL_law_1279 rfl (lv_at hl 3 rfl) ?_
      refine lv_iload_n hx hb dL_law_1280 rfl (lv_at hl 0 rfl) ?_
      refine lv_iconst (v := 1) hx hb dL_law_1281 (by decide) ?_
      refine lv_iadd hx hb dL_law_1282 ?_
      refine xl_i (y := nI (i + 1)) (nI_add i 1) ?_
      refine va_sld hx hb hX hbl hbA hS (x_si (k := 1) (by decide) hi hL) dL_law_1283 ?_
      refine xl_i (y := xs (i + 1)) (congrArg xs (x_sc (k := 1) (by decide) hi hL)) ?_
      refine xl_i (y := 0) eq1 ?_
      refine lv_aload_n hx hb dL_law_1284 rfl (lv_at hl 3 rfl) ?_
      refine lv_iload_n hx hb dL_law_1285 rfl (lv_at hl 0 rfl) ?_
      refine lv_iconst (v := 2) hx hb dL_law_1286 (by decide) ?_
      refine lv_iadd hx hb dL_law_1287 ?_
      refine xl_i (y := nI (i + 2)) (nI_add i 2) ?_
      refine va_sld hx hb hX hbl hbA hS (x_si (k := 2) (by decide) hi hL) dL_law_1288 ?_
      refine xl_i (y := xs (i + 2)) (congrArg xs (x_sc (k := 2) (by decide) hi hL)) ?_
      refine lv_aload_n hx hb dL_law_1289 rfl (lv_at hl 3 rfl) ?_
      refine lv_iload_n hx hb dL_law_1290 rfl (lv_at hl 0 rfl) ?_
      refine lv_iconst (v := 3) hx hb dL_law_1291 (by decide) ?_
      refine lv_iadd hx hb dL_law_1292 ?_
      refine xl_i (y := nI (i + 3)) (nI_add i 3) ?_
      refine va_sld hx hb hX hbl hbA hS (x_si (k := 3) (by decide) hi hL) dL_law_1293 ?_
      refine xl_i (y := xs (i + 3)) (congrArg xs (x_sc (k := 3) (by decide) hi hL)) ?_
      refine xl_i (y := 0) eq3 ?_
      refine lv_aload_n hx hb dL_law_1294 rfl (lv_at hl 3 rfl) ?_
      refine lv_iload_n hx hb dL_law_1295 rfl (lv_at hl 0 rfl) ?_
      refine lv_iconst (v := 4) hx hb dL_law_1296 (by decide) ?_
      refine lv_iadd hx hb dL_law_1297 ?_
      refine xl_i (y := nI (i + 4)) (nI_add i 4) ?_
      refine va_sld hx hb hX hbl hbA hS (x_si (k := 4) (by decide) hi hL) dL_law_1298 ?_
      refine xl_i (y := xs (i + 4)) (congrArg xs (x_sc (k := 4) (by decide) hi hL)) ?_
      refine lv_aload_n hx hb dL_law_1299 rfl (lv_at hl 3 rfl) ?_
      refine lv_iload_n hx hb dL_law_1300 rfl (lv_at hl 0 rfl) ?_
      refine lv_iconst (v := 5) hx hb dL_law_1301 (by decide) ?_
      refine lv_iadd hx hb dL_law_1302 ?_
      refine xl_i (y := nI (i + 5)) (nI_add i 5) ?_
      refine va_sld hx hb hX hbl hbA hS (x_si (k := 5) (by decide) hi hL) dL_law_1303 ?_
      refine xl_i (y := xs (i + 5)) (congrArg xs (x_sc (k := 5) (by decide) hi hL)) ?_
      refine xc_ViT (wr := [(g0, .inr (9, [.ref m_ys, .ref m_yk, .ref m_yo, .ref m_yt, .int b0, .ref m_yfa, .ref m_yfe, .int m_mL, .int m_mS, .int m_mM, .ref m_yro, .ref m_yhe, .ref m_ygr, .int m_mF, .int m_mC, .int m_mY, .ref m_yta, .int (nI (z)), .int (nI (m_mf)), .int (nI (m_mt)), .int m_mv, .int m_mw, .ref m_ywa, .ref m_ybi, .ref m_ysi, .ref m_ynu, .ref m_ymo])), (m_yt, .inl (cI, 7, .inl m_mq)), (m_ybi, .inl (cI, 4, .inl m_bi)), (m_ysi, .inl (cI, 4, .inl m_sq)), (m_ynu, .inl (cJ, 160, .inr (.inl m_nb))), (m_ymo, .inl (cJ, 40, .inr (.inl m_mv9)))]) hF (c_X8_copy_00 l D cI cJ cZ cS ta sa sv H.size h0 qh qk qd b0 qa qm qs qp ql qt qz qf s0 s1 s2 s3 bt0 sz0 sn0 bt1 sz1 sn1 bt2 sz2 sn2 bt3 sz3 sn3 nu0 nu1 nu2 nu3 ff (xs (i + 2)) (xs (i + 4)) (xs (i + 5)) hsz0 hsz1 hsz2 hsz3) kv_L_166 ⟨rfl, rfl, Nat.le_of_ble_eq_true rfl, Nat.le_of_ble_eq_true rfl⟩ ⟨Nat.le_of_ble_eq_true rfl, Nat.le_of_ble_eq_true rfl⟩ hK hN hZ hP hD hS hA [0, 1, 2, 3, 4, 5, 6, 7, 8, 9, 10] [11, 12, 13, 14, 15, 16] rfl rfl (by decide +kernel) (by decide +kernel) (by decide +kernel) 0 rfl rfl rfl rfl hl.1 rfl (Nat.le_of_ble_eq_true rfl) dL_law_1304 (fun r_25 u_r_25 H locs hw_r_25 hP hD hS => ?_)
      obtain ⟨nv_26, f2_27⟩ := u_r_25
      try dsimp only at hw_r_25
      obtain ⟨hw_r_25, i_28⟩ := hw_r_25
      have hP : va_P D vwCl (@HAppend.hAppend va_W va_W va_W _ [(g0, .inr (9, [.ref m_ys, .ref m_yk, .ref m_yo, .ref m_yt, .int b0, .ref m_yfa, .ref m_yfe, .int m_mL, .int m_mS, .int m_mM, .ref m_yro, .ref m_yhe, .ref m_ygr, .int m_mF, .int m_mC, .int m_mY, .ref m_yta, .int (nI (z)), .int (nI (m_mf)), .int (nI (m_mt)), .int m_mv, .int m_mw, .ref m_ywa, .ref m_ybi, .ref m_ysi, .ref m_ynu, .ref m_ymo])), (m_yt, .inl (cI, 7, .inl m_mq)), (m_ybi, .inl (cI, 4, .inl m_bi)), (m_ysi, .inl (cI, 4, .inl m_sq)), (m_ynu, .inl (cJ, 160, .inr (.inl m_nb))), (m_ymo, .inl (cJ, 40, .inr (.inl m_mv9))), (h0, .inr (8, [.ref qh, .ref qk, .ref qd, .int b0, .ref qa, .ref qm, .ref qs, .ref qp, .ref ql, .ref qt, .ref qz, .ref qf])), (qz, .inl (cS, 4, .inr (.inr (.inr (.inr (xSh s0 s1 s2 s3)))))), (s0, .inr (4, [.int bt0, .int (nI (sz0)), .ref sn0])), (s1, .inr (4, [.int bt1, .int (nI (sz1)), .ref sn1])), (s2, .inr (4, [.int bt2, .int (nI (sz2)), .ref sn2])), (s3, .inr (4, [.int bt3, .int (nI (sz3)), .ref sn3])), (sn0, .inl (cJ, 40, .inr (.inl nv_26))), (sn1, .inl (cJ, 40, .inr (.inl nu1))), (sn2, .inl (cJ, 40, .inr (.inl nu2))), (sn3, .inl (cJ, 40, .inr (.inl nu3))), (qf, .inl (cI, 7, .inl f2_27))] tl) H := hP
      have hD : va_D A (@HAppend.hAppend va_W va_W va_W _ [(g0, .inr (9, [.ref m_ys, .ref m_yk, .ref m_yo, .ref m_yt, .int b0, .ref m_yfa, .ref m_yfe, .int m_mL, .int m_mS, .int m_mM, .ref m_yro, .ref m_yhe, .ref m_ygr, .int m_mF, .int m_mC, .int m_mY, .ref m_yta, .int (nI (z)), .int (nI (m_mf)), .int (nI (m_mt)), .int m_mv, .int m_mw, .ref m_ywa, .ref m_ybi, .ref m_ysi, .ref m_ynu, .ref m_ymo])), (m_yt, .inl (cI, 7, .inl m_mq)), (m_ybi, .inl (cI, 4, .inl m_bi)), (m_ysi, .inl (cI, 4, .inl m_sq)), (m_ynu, .inl (cJ, 160, .inr (.inl m_nb))), (m_ymo, .inl (cJ, 40, .inr (.inl m_mv9))), (h0, .inr (8, [.ref qh, .ref qk, .ref qd, .int b0, .ref qa, .ref qm, .ref qs, .ref qp, .ref ql, .ref qt, .ref qz, .ref qf])), (qz, .inl (cS, 4, .inr (.inr (.inr (.inr (xSh s0 s1 s2 s3)))))), (s0, .inr (4, [.int bt0, .int (nI (sz0)), .ref sn0])), (s1, .inr (4, [.int bt1, .int (nI (sz1)), .ref sn1])), (s2, .inr (4, [.int bt2, .int (nI (sz2)), .ref sn2])), (s3, .inr (4, [.int bt3, .int (nI (sz3)), .ref sn3])), (sn0, .inl (cJ, 40, .inr (.inl nv_26))), (sn1, .inl (cJ, 40, .inr (.inl nu1))), (sn2, .inl (cJ, 40, .inr (.inl nu2))), (sn3, .inl (cJ, 40, .inr (.inl nu3))), (qf, .inl (cI, 7, .inl f2_27))] tl) := hD
      subst hw_r_25
      refine lv_pop hx hb dL_law_1307 rfl ?_
      refine lv_aload_n hx hb dL_law_1308 rfl (lv_at hl 1 rfl) ?_
      refine lv_aload_n hx hb dL_law_1309 rfl (lv_at hl 3 rfl) ?_
      refine lv_iload_n hx hb dL_law_1310 rfl (lv_at hl 0 rfl) ?_
      refine lv_iconst (v := 1) hx hb dL_law_1311 (by decide) ?_
      refine lv_iadd hx hb dL_law_1312 ?_
      refine xl_i (y := nI (i + 1)) (nI_add i 1) ?_
      refine va_sld hx hb hX hbl hbA hS (x_si (k := 1) (by decide) hi hL) dL_law_1313 ?_
      refine xl_i (y := xs (i + 1)) (congrArg xs (x_sc (k := 1) (by decide) hi hL)) ?_
      refine xl_i (y := 0) eq1 ?_
      refine lv_aload_n hx hb dL_law_1314 rfl (lv_at hl 3 rfl) ?_
      refine lv_iload_n hx hb dL_law_1315 rfl (lv_at hl 0 rfl) ?_
      refine lv_iconst (v := 2) hx hb dL_law_1316 (by decide) ?_
      refine lv_iadd hx hb dL_law_1317 ?_
      refine xl_i (y := nI (i + 2)) (nI_add i 2) ?_
      refine va_sld hx hb hX hbl hbA hS (x_si (k := 2) (by decide) hi hL) dL_law_1318 ?_
      refine xl_i (y := xs (i + 2)) (congrArg xs (x_sc (k := 2) (by decide) hi hL)) ?_
      refine lv_aload_n hx hb dL_law_1319 rfl (lv_at hl 3 rfl) ?_
      refine lv_iload_n hx hb dL_law_1320 rfl (lv_at hl 0 rfl) ?_
      refine lv_iconst (v := 3) hx hb dL_law_1321 (by decide) ?_
      refine lv_iadd hx hb dL_law_1322 ?_
      refine xl_i (y := nI (i + 3)) (nI_add i 3) ?_
      refine va_sld hx hb hX hbl hbA hS (x_si (k := 3) (by decide) hi hL) dL_law_1323 ?_
      refine xl_i (y := xs (i + 3)) (congrArg xs (x_sc (k := 3) (by decide) hi hL)) ?_
      refine xl_i (y := 0) eq3 ?_
      refine lv_aload_n hx hb dL_law_1324 rfl (lv_at hl 3 rfl) ?_
      refine lv_iload_n hx hb dL_law_1325 rfl (lv_at hl 0 rfl) ?_
      refine lv_iconst (v := 4) hx hb dL_law_1326 (by decide) ?_
      refine lv_iadd hx hb dL_law_1327 ?_
      refine xl_i (y := nI (i + 4)) (nI_add i 4) ?_
      refine va_sld hx hb hX hbl hbA hS (x_si (k := 4) (by decide) hi hL) dL_law_1328 ?_
      refine xl_i (y := xs (i + 4)) (congrArg xs (x_sc (k := 4) (by decide) hi hL)) ?_
      refine lv_aload_n hx hb dL_law_1329 rfl (lv_at hl 3 rfl) ?_
      refine lv_iload_n hx hb dL_law_1330 rfl (lv_at hl 0 rfl) ?_
      refine lv_iconst (v := 5) hx hb dL_law_1331 (by decide) ?_
      refine lv_iadd hx hb dL_law_1332 ?_
      refine xl_i (y := nI (i + 5)) (nI_add i 5) ?_
      refine va_sld hx hb hX hbl hbA hS (x_si (k := 5) (by decide) hi hL) dL_law_1333 ?_
      refine xl_i (y := xs (i + 5)) (congrArg xs (x_sc (k := 5) (by decide) hi hL)) ?_
      refine xc_ViT (wr := [(h0, .inr (8, [.ref qh, .ref qk, .ref qd, .int b0, .ref qa, .ref qm, .ref qs, .ref qp, .ref ql, .ref qt, .ref qz, .ref qf])), (qz, .inl (cS, 4, .inr (.inr (.inr (.inr (xSh s0 s1 s2 s3)))))), (s0, .inr (4, [.int bt0, .int (nI (sz0)), .ref sn0])), (s1, .inr (4, [.int bt1, .int (nI (sz1)), .ref sn1])), (s2, .inr (4, [.int bt2, .int (nI (sz2)), .ref sn2])), (s3, .inr (4, [.int bt3, .int (nI (sz3)), .ref sn3])), (sn0, .inl (cJ, 40, .inr (.inl nv_26))), (sn1, .inl (cJ, 40, .inr (.inl nu1))), (sn2, .inl (cJ, 40, .inr (.inl nu2))), (sn3, .inl (cJ, 40, .inr (.inl nu3))), (qf, .inl (cI, 7, .inl f2_27))]) hF (c_X9_copy_00 l D cI cJ cZ cS ta sa sv H.size g0 m_ys m_yk m_yo m_yt b0 m_yfa m_yfe m_mL m_mS m_mM m_yro m_yhe m_ygr m_mF m_mC m_mY m_yta z m_mf m_mt m_mv m_mw m_ywa m_ybi m_ysi m_ynu m_ymo m_bi m_sq m_nb m_mv9 m_mq (xs (i + 2)) (xs (i + 4)) (xs (i + 5)) sz0 sz0 r_z0 hsz0 r_z0 hsz0 m_hsq) kv_L_170 ⟨rfl, rfl, Nat.le_of_ble_eq_true rfl, Nat.le_of_ble_eq_true rfl⟩ ⟨Nat.le_of_ble_eq_true rfl, Nat.le_of_ble_eq_true rfl⟩ hK hN hZ hP hD hS hA [0, 2, 3, 4, 5, 1] [6, 7, 8, 9, 10, 11, 12, 13, 14, 15, 16] rfl rfl (by decide +kernel) (by decide +kernel) (by decide +kernel) 0 rfl rfl rfl rfl hl.1 rfl (Nat.le_of_ble_eq_true rfl) dL_law_1334 (fun r_29 u_r_29 H locs hw_r_29 hP hD hS => ?_)
      obtain ⟨nb2_30, mv2_31, mq2_32⟩ := u_r_29
      try dsimp only at hw_r_29
      obtain ⟨hw_r_29, i_33, i_34⟩ := hw_r_29
      have hP : va_P D vwCl (@HAppend.hAppend va_W va_W va_W _ [(h0, .inr (8, [.ref qh, .ref qk, .ref qd, .int b0, .ref qa, .ref qm, .ref qs, .ref qp, .ref ql, .ref qt, .ref qz, .ref qf])), (qz, .inl (cS, 4, .inr (.inr (.inr (.inr (xSh s0 s1 s2 s3)))))), (s0, .inr (4, [.int bt0, .int (nI (sz0)), .ref sn0])), (s1, .inr (4, [.int bt1, .int (nI (sz1)), .ref sn1])), (s2, .inr (4, [.int bt2, .int (nI (sz2)), .ref sn2])), (s3, .inr (4, [.int bt3, .int (nI (sz3)), .ref sn3])), (sn0, .inl (cJ, 40, .inr (.inl nv_26))), (sn1, .inl (cJ, 40, .inr (.inl nu1))), (sn2, .inl (cJ, 40, .inr (.inl nu2))), (sn3, .inl (cJ, 40, .inr (.inl nu3))), (qf, .inl (cI, 7, .inl f2_27)), (g0, .inr (9, [.ref m_ys, .ref m_yk, .ref m_yo, .ref m_yt, .int b0, .ref m_yfa, .ref m_yfe, .int m_mL, .int m_mS, .int m_mM, .ref m_yro, .ref m_yhe, .ref m_ygr, .int m_mF, .int m_mC, .int m_mY, .ref m_yta, .int (nI (z)), .int (nI (m_mf)), .int (nI (m_mt)), .int m_mv, .int m_mw, .ref m_ywa, .ref m_ybi, .ref m_ysi, .ref m_ynu, .ref m_ymo])), (m_ybi, .inl (cI, 4, .inl m_bi)), (m_ysi, .inl (cI, 4, .inl m_sq)), (m_ynu, .inl (cJ, 160, .inr (.inl nb2_30))), (m_ymo, .inl (cJ, 40, .inr (.inl mv2_31))), (m_yt, .inl (cI, 7, .inl mq2_32))] tl) H := hP
      have hD : va_D A (@HAppend.hAppend va_W va_W va_W _ [(h0, .inr (8, [.ref qh, .ref qk, .ref qd, .int b0, .ref qa, .ref qm, .ref qs, .ref qp, .ref ql, .ref qt, .ref qz, .ref qf])), (qz, .inl (cS, 4, .inr (.inr (.inr (.inr (xSh s0 s1 s2 s3)))))), (s0, .inr (4, [.int bt0, .int (nI (sz0)), .ref sn0])), (s1, .inr (4, [.int bt1, .int (nI (sz1)), .ref sn1])), (s2, .inr (4, [.int bt2, .int (nI (sz2)), .ref sn2])), (s3, .inr (4, [.int bt3, .int (nI (sz3)), .ref sn3])), (sn0, .inl (cJ, 40, .inr (.inl nv_26))), (sn1, .inl (cJ, 40, .inr (.inl nu1))), (sn2, .inl (cJ, 40, .inr (.inl nu2))), (sn3, .inl (cJ, 40, .inr (.inl nu3))), (qf, .inl (cI, 7, .inl f2_27)), (g0, .inr (9, [.ref m_ys, .ref m_yk, .ref m_yo, .ref m_yt, .int b0, .ref m_yfa, .ref m_yfe, .int m_mL, .int m_mS, .int m_mM, .ref m_yro, .ref m_yhe, .ref m_ygr, .int m_mF, .int m_mC, .int m_mY, .ref m_yta, .int (nI (z)), .int (nI (m_mf)), .int (nI (m_mt)), .int m_mv, .int m_mw, .ref m_ywa, .ref m_ybi, .ref m_ysi, .ref m_ynu, .ref m_ymo])), (m_ybi, .inl (cI, 4, .inl m_bi)), (m_ysi, .inl (cI, 4, .inl m_sq)), (m_ynu, .inl (cJ, 160, .inr (.inl nb2_30))), (m_ymo, .inl (cJ, 40, .inr (.inl mv2_31))), (m_yt, .inl (cI, 7, .inl mq2_32))] tl) := hD
      subst hw_r_29
      refine lv_pop hx hb dL_law_1337 rfl ?_
      refine lv_goto (tgt := 1482) hx hb dL_law_1338 (by decide) ?_
      exact kkx _ _ _ nv_26 nu1 nu2 nu3 f2_27 mq2_32 nb2_30 mv2_31 (xt_P hP [0, 1, 2, 3, 4, 5, 6, 7, 8, 9, 10, 11, 16, 12, 13, 14, 15] rfl) (xt_D hD [0, 1, 2, 3, 4, 5, 6, 7, 8, 9, 10, 11, 16, 12, 13, 14, 15] (by decide +kernel) rfl) (fun j hj => (i_33 j).trans ((sp_cneq r_b0 r_b0 r_n0 (by omega) (r_n0 j hj)).trans (i_28 j).symm)) (fun j hj => (i_34 (40 + j) (by omega)).trans (r_n1 j hj)) (fun j hj => (i_34 (80 + j) (by omega)).trans (r_n2 j hj)) (fun j hj => (i_34 (120 + j) (by omega)).trans (r_n3 j hj)) hS hl
    · skip
      refine lv_aload_n hx hb dL_law_1279 rfl (lv_at hl 3 rfl) ?_
      refine lv_iload_n hx hb dL_law_1280 rfl (lv_at hl 0 rfl) ?_
      refine lv_iconst (v := 1) hx hb dL_law_1281 (by decide) ?_
      refine lv_iadd hx hb dL_law_1282 ?_
      refine xl_i (y := nI (i + 1)) (nI_add i 1) ?_
      refine va_sld hx hb hX hbl hbA hS (x_si (k := 1) (by decide) hi hL) dL_law_1283 ?_
      refine xl_i (y := xs (i + 1)) (congrArg xs (x_sc (k := 1) (by decide) hi hL)) ?_
      refine xl_i (y := 0) eq1 ?_
      refine lv_aload_n hx hb dL_law_1284 rfl (lv_at hl 3 rfl) ?_
      refine lv_iload_n hx hb dL_law_1285 rfl (lv_at hl 0 rfl) ?_
      refine lv_iconst (v := 2) hx hb dL_law_1286 (by decide) ?_
      refine lv_iadd hx hb dL_law_1287 ?_
      refine xl_i (y := nI (i + 2)) (nI_add i 2) ?_
      refine va_sld hx hb hX hbl hbA hS (x_si (k := 2) (by decide) hi hL) dL_law_1288 ?_
      refine xl_i (y := xs (i + 2)) (congrArg xs (x_sc (k := 2) (by decide) hi hL)) ?_
      refine lv_aload_n hx hb dL_law_1289 rfl (lv_at hl 3 rfl) ?_
      refine lv_iload_n hx hb dL_law_1290 rfl (lv_at hl 0 rfl) ?_
      refine lv_iconst (v := 3) hx hb dL_law_1291 (by decide) ?_
      refine lv_iadd hx hb dL_law_1292 ?_
      refine xl_i (y := nI (i + 3)) (nI_add i 3) ?_
      refine va_sld hx hb hX hbl hbA hS (x_si (k := 3) (by decide) hi hL) dL_law_1293 ?_
      refine xl_i (y := xs (i + 3)) (congrArg xs (x_sc (k := 3) (by decide) hi hL)) ?_
      refine xl_i (y := 1) eq3 ?_
      refine lv_aload_n hx hb dL_law_1294 rfl (lv_at hl 3 rfl) ?_
      refine lv_iload_n hx hb dL_law_1295 rfl (lv_at hl 0 rfl) ?_
      refine lv_iconst (v := 4) hx hb dL_law_1296 (by decide) ?_
      refine lv_iadd hx hb dL_law_1297 ?_
      refine xl_i (y := nI (i + 4)) (nI_add i 4) ?_
      refine va_sld hx hb hX hbl hbA hS (x_si (k := 4) (by decide) hi hL) dL_law_1298 ?_
      refine xl_i (y := xs (i + 4)) (congrArg xs (x_sc (k := 4) (by decide) hi hL)) ?_
      refine lv_aload_n hx hb dL_law_1299 rfl (lv_at hl 3 rfl) ?_
      refine lv_iload_n hx hb dL_law_1300 rfl (lv_at hl 0 rfl) ?_
      refine lv_iconst (v := 5) hx hb dL_law_1301 (by decide) ?_
      refine lv_iadd hx hb dL_law_1302 ?_
      refine xl_i (y := nI (i + 5)) (nI_add i 5) ?_
      refine va_sld hx hb hX hbl hbA hS (x_si (k := 5) (by decide) hi hL) dL_law_1303 ?_
      refine xl_i (y := xs (i + 5)) (congrArg xs (x_sc (k := 5) (by decide) hi hL)) ?_
      refine xc_ViT (wr := [(g0, .inr (9, [.ref m_ys, .ref m_yk, .ref m_yo, .ref m_yt, .int b0, .ref m_yfa, .ref m_yfe, .int m_mL, .int m_mS, .int m_mM, .ref m_yro, .ref m_yhe, .ref m_ygr, .int m_mF, .int m_mC, .int m_mY, .ref m_yta, .int (nI (z)), .int (nI (m_mf)), .int (nI (m_mt)), .int m_mv, .int m_mw, .ref m_ywa, .ref m_ybi, .ref m_ysi, .ref m_ynu, .ref m_ymo])), (m_yt, .inl (cI, 7, .inl m_mq)), (m_ybi, .inl (cI, 4, .inl m_bi)), (m_ysi, .inl (cI, 4, .inl m_sq)), (m_ynu, .inl (cJ, 160, .inr (.inl m_nb))), (m_ymo, .inl (cJ, 40, .inr (.inl m_mv9)))]) hF (c_X8_copy_01 l D cI cJ cZ cS ta sa sv H.size h0 qh qk qd b0 qa qm qs qp ql qt qz qf s0 s1 s2 s3 bt0 sz0 sn0 bt1 sz1 sn1 bt2 sz2 sn2 bt3 sz3 sn3 nu0 nu1 nu2 nu3 ff (xs (i + 2)) (xs (i + 4)) (xs (i + 5)) hsz0 hsz1 hsz2 hsz3) kv_L_166 ⟨rfl, rfl, Nat.le_of_ble_eq_true rfl, Nat.le_of_ble_eq_true rfl⟩ ⟨Nat.le_of_ble_eq_true rfl, Nat.le_of_ble_eq_true rfl⟩ hK hN hZ hP hD hS hA [0, 1, 2, 3, 4, 5, 6, 7, 8, 9, 10] [11, 12, 13, 14, 15, 16] rfl rfl (by decide +kernel) (by decide +kernel) (by decide +kernel) 0 rfl rfl rfl rfl hl.1 rfl (Nat.le_of_ble_eq_true rfl) dL_law_1304 (fun r_35 u_r_35 H locs hw_r_35 hP hD hS => ?_)
      obtain ⟨nv_36, f2_37⟩ := u_r_35
      try dsimp only at hw_r_35
      obtain ⟨hw_r_35, i_38⟩ := hw_r_35
      have hP : va_P D vwCl (@HAppend.hAppend va_W va_W va_W _ [(g0, .inr (9, [.ref m_ys, .ref m_yk, .ref m_yo, .ref m_yt, .int b0, .ref m_yfa, .ref m_yfe, .int m_mL, .int m_mS, .int m_mM, .ref m_yro, .ref m_yhe, .ref m_ygr, .int m_mF, .int m_mC, .int m_mY, .ref m_yta, .int (nI (z)), .int (nI (m_mf)), .int (nI (m_mt)), .int m_mv, .int m_mw, .ref m_ywa, .ref m_ybi, .ref m_ysi, .ref m_ynu, .ref m_ymo])), (m_yt, .inl (cI, 7, .inl m_mq)), (m_ybi, .inl (cI, 4, .inl m_bi)), (m_ysi, .inl (cI, 4, .inl m_sq)), (m_ynu, .inl (cJ, 160, .inr (.inl m_nb))), (m_ymo, .inl (cJ, 40, .inr (.inl m_mv9))), (h0, .inr (8, [.ref qh, .ref qk, .ref qd, .int b0, .ref qa, .ref qm, .ref qs, .ref qp, .ref ql, .ref qt, .ref qz, .ref qf])), (qz, .inl (cS, 4, .inr (.inr (.inr (.inr (xSh s0 s1 s2 s3)))))), (s0, .inr (4, [.int bt0, .int (nI (sz0)), .ref sn0])), (s1, .inr (4, [.int bt1, .int (nI (sz1)), .ref sn1])), (s2, .inr (4, [.int bt2, .int (nI (sz2)), .ref sn2])), (s3, .inr (4, [.int bt3, .int (nI (sz3)), .ref sn3])), (sn0, .inl (cJ, 40, .inr (.inl nu0))), (sn1, .inl (cJ, 40, .inr (.inl nv_36))), (sn2, .inl (cJ, 40, .inr (.inl nu2))), (sn3, .inl (cJ, 40, .inr (.inl nu3))), (qf, .inl (cI, 7, .inl f2_37))] tl) H := hP
      have hD : va_D A (@HAppend.hAppend va_W va_W va_W _ [(g0, .inr (9, [.ref m_ys, .ref m_yk, .ref m_yo, .ref m_yt, .int b0, .ref m_yfa, .ref m_yfe, .int m_mL, .int m_mS, .int m_mM, .ref m_yro, .ref m_yhe, .ref m_ygr, .int m_mF, .int m_mC, .int m_mY, .ref m_yta, .int (nI (z)), .int (nI (m_mf)), .int (nI (m_mt)), .int m_mv, .int m_mw, .ref m_ywa, .ref m_ybi, .ref m_ysi, .ref m_ynu, .ref m_ymo])), (m_yt, .inl (cI, 7, .inl m_mq)), (m_ybi, .inl (cI, 4, .inl m_bi)), (m_ysi, .inl (cI, 4, .inl m_sq)), (m_ynu, .inl (cJ, 160, .inr (.inl m_nb))), (m_ymo, .inl (cJ, 40, .inr (.inl m_mv9))), (h0, .inr (8, [.ref qh, .ref qk, .ref qd, .int b0, .ref qa, .ref qm, .ref qs, .ref qp, .ref ql, .ref qt, .ref qz, .ref qf])), (qz, .inl (cS, 4, .inr (.inr (.inr (.inr (xSh s0 s1 s2 s3)))))), (s0, .inr (4, [.int bt0, .int (nI (sz0)), .ref sn0])), (s1, .inr (4, [.int bt1, .int (nI (sz1)), .ref sn1])), (s2, .inr (4, [.int bt2, .int (nI (sz2)), .ref sn2])), (s3, .inr (4, [.int bt3, .int (nI (sz3)), .ref sn3])), (sn0, .inl (cJ, 40, .inr (.inl nu0))), (sn1, .inl (cJ, 40, .inr (.inl nv_36))), (sn2, .inl (cJ, 40, .inr (.inl nu2))), (sn3, .inl (cJ, 40, .inr (.inl nu3))), (qf, .inl (cI, 7, .inl f2_37))] tl) := hD
      subst hw_r_35
      refine lv_pop hx hb dL_law_1307 rfl ?_
      refine lv_aload_n hx hb dL_law_1308 rfl (lv_at hl 1 rfl) ?_
      refine lv_aload_n hx hb dL_law_1309 rfl (lv_at hl 3 rfl) ?_
      refine lv_iload_n hx hb dL_law_1310 rfl (lv_at hl 0 rfl) ?_
      refine lv_iconst (v := 1) hx hb dL_law_1311 (by decide) ?_
      refine lv_iadd hx hb dL_law_1312 ?_
      refine xl_i (y := nI (i + 1)) (nI_add i 1) ?_
      refine va_sld hx hb hX hbl hbA hS (x_si (k := 1) (by decide) hi hL) dL_law_1313 ?_
      refine xl_i (y := xs (i + 1)) (congrArg xs (x_sc (k := 1) (by decide) hi hL)) ?_
      refine xl_i (y := 0) eq1 ?_
      refine lv_aload_n hx hb dL_law_1314 rfl (lv_at hl 3 rfl) ?_
      refine lv_iload_n hx hb dL_law_1315 rfl (lv_at hl 0 rfl) ?_
      refine lv_iconst (v := 2) hx hb dL_law_1316 (by decide) ?_
      refine lv_iadd hx hb dL_law_1317 ?_
      refine xl_i (y := nI (i + 2)) (nI_add i 2) ?_
      refine va_sld hx hb hX hbl hbA hS (x_si (k := 2) (by decide) hi hL) dL_law_1318 ?_
      refine xl_i (y := xs (i + 2)) (congrArg xs (x_sc (k := 2) (by decide) hi hL)) ?_
      refine lv_aload_n hx hb dL_law_1319 rfl (lv_at hl 3 rfl) ?_
      refine lv_iload_n hx hb dL_law_1320 rfl (lv_at hl 0 rfl) ?_
      refine lv_iconst (v := 3) hx hb dL_law_1321 (by decide) ?_
      refine lv_iadd hx hb dL_law_1322 ?_
      refine xl_i (y := nI (i + 3)) (nI_add i 3) ?_
      refine va_sld hx hb hX hbl hbA hS (x_si (k := 3) (by decide) hi hL) dL_law_1323 ?_
      refine xl_i (y := xs (i + 3)) (congrArg xs (x_sc (k := 3) (by decide) hi hL)) ?_
      refine xl_i (y := 1) eq3 ?_
      refine lv_aload_n hx hb dL_law_1324 rfl (lv_at hl 3 rfl) ?_
      refine lv_iload_n hx hb dL_law_1325 rfl (lv_at hl 0 rfl) ?_
      refine lv_iconst (v := 4) hx hb dL_law_1326 (by decide) ?_
      refine lv_iadd hx hb dL_law_1327 ?_
      refine xl_i (y := nI (i + 4)) (nI_add i 4) ?_
      refine va_sld hx hb hX hbl hbA hS (x_si (k := 4) (by decide) hi hL) dL_law_1328 ?_
      refine xl_i (y := xs (i + 4)) (congrArg xs (x_sc (k := 4) (by decide) hi hL)) ?_
      refine lv_aload_n hx hb dL_law_1329 rfl (lv_at hl 3 rfl) ?_
      refine lv_iload_n hx hb dL_law_1330 rfl (lv_at hl 0 rfl) ?_
      refine lv_iconst (v := 5) hx hb dL_law_1331 (by decide) ?_
      refine lv_iadd hx hb dL_law_1332 ?_
      refine xl_i (y := nI (i + 5)) (nI_add i 5) ?_
      refine va_sld hx hb hX hbl hbA hS (x_si (k := 5) (by decide) hi hL) dL_law_1333 ?_
      refine xl_i (y := xs (i + 5)) (congrArg xs (x_sc (k := 5) (by decide) hi hL)) ?_
      refine xc_ViT (wr := [(h0, .inr (8, [.ref qh, .ref qk, .ref qd, .int b0, .ref qa, .ref qm, .ref qs, .ref qp, .ref ql, .ref qt, .ref qz, .ref qf])), (qz, .inl (cS, 4, .inr (.inr (.inr (.inr (xSh s0 s1 s2 s3)))))), (s0, .inr (4, [.int bt0, .int (nI (sz0)), .ref sn0])), (s1, .inr (4, [.int bt1, .int (nI (sz1)), .ref sn1])), (s2, .inr (4, [.int bt2, .int (nI (sz2)), .ref sn2])), (s3, .inr (4, [.int bt3, .int (nI (sz3)), .ref sn3])), (sn0, .inl (cJ, 40, .inr (.inl nu0))), (sn1, .inl (cJ, 40, .inr (.inl nv_36))), (sn2, .inl (cJ, 40, .inr (.inl nu2))), (sn3, .inl (cJ, 40, .inr (.inl nu3))), (qf, .inl (cI, 7, .inl f2_37))]) hF (c_X9_copy_01 l D cI cJ cZ cS ta sa sv H.size g0 m_ys m_yk m_yo m_yt b0 m_yfa m_yfe m_mL m_mS m_mM m_yro m_yhe m_ygr m_mF m_mC m_mY m_yta z m_mf m_mt m_mv m_mw m_ywa m_ybi m_ysi m_ynu m_ymo m_bi m_sq m_nb m_mv9 m_mq (xs (i + 2)) (xs (i + 4)) (xs (i + 5)) sz0 sz1 r_z0 hsz0 r_z1 hsz1 m_hsq) kv_L_170 ⟨rfl, rfl, Nat.le_of_ble_eq_true rfl, Nat.le_of_ble_eq_true rfl⟩ ⟨Nat.le_of_ble_eq_true rfl, Nat.le_of_ble_eq_true rfl⟩ hK hN hZ hP hD hS hA [0, 2, 3, 4, 5, 1] [6, 7, 8, 9, 10, 11, 12, 13, 14, 15, 16] rfl rfl (by decide +kernel) (by decide +kernel) (by decide +kernel) 0 rfl rfl rfl rfl hl.1 rfl (Nat.le_of_ble_eq_true rfl) dL_law_1334 (fun r_39 u_r_39 H locs hw_r_39 hP hD hS => ?_)
      obtain ⟨nb2_40, mv2_41, mq2_42⟩ := u_r_39
      try dsimp only at hw_r_39
      obtain ⟨hw_r_39, i_43, i_44⟩ := hw_r_39
      have hP : va_P D vwCl (@HAppend.hAppend va_W va_W va_W _ [(h0, .inr (8, [.ref qh, .ref qk, .ref qd, .int b0, .ref qa, .ref qm, .ref qs, .ref qp, .ref ql, .ref qt, .ref qz, .ref qf])), (qz, .inl (cS, 4, .inr (.inr (.inr (.inr (xSh s0 s1 s2 s3)))))), (s0, .inr (4, [.int bt0, .int (nI (sz0)), .ref sn0])), (s1, .inr (4, [.int bt1, .int (nI (sz1)), .ref sn1])), (s2, .inr (4, [.int bt2, .int (nI (sz2)), .ref sn2])), (s3, .inr (4, [.int bt3, .int (nI (sz3)), .ref sn3])), (sn0, .inl (cJ, 40, .inr (.inl nu0))), (sn1, .inl (cJ, 40, .inr (.inl nv_36))), (sn2, .inl (cJ, 40, .inr (.inl nu2))), (sn3, .inl (cJ, 40, .inr (.inl nu3))), (qf, .inl (cI, 7, .inl f2_37)), (g0, .inr (9, [.ref m_ys, .ref m_yk, .ref m_yo, .ref m_yt, .int b0, .ref m_yfa, .ref m_yfe, .int m_mL, .int m_mS, .int m_mM, .ref m_yro, .ref m_yhe, .ref m_ygr, .int m_mF, .int m_mC, .int m_mY, .ref m_yta, .int (nI (z)), .int (nI (m_mf)), .int (nI (m_mt)), .int m_mv, .int m_mw, .ref m_ywa, .ref m_ybi, .ref m_ysi, .ref m_ynu, .ref m_ymo])), (m_ybi, .inl (cI, 4, .inl m_bi)), (m_ysi, .inl (cI, 4, .inl m_sq)), (m_ynu, .inl (cJ, 160, .inr (.inl nb2_40))), (m_ymo, .inl (cJ, 40, .inr (.inl mv2_41))), (m_yt, .inl (cI, 7, .inl mq2_42))] tl) H := hP
      have hD : va_D A (@HAppend.hAppend va_W va_W va_W _ [(h0, .inr (8, [.ref qh, .ref qk, .ref qd, .int b0, .ref qa, .ref qm, .ref qs, .ref qp, .ref ql, .ref qt, .ref qz, .ref qf])), (qz, .inl (cS, 4, .inr (.inr (.inr (.inr (xSh s0 s1 s2 s3)))))), (s0, .inr (4, [.int bt0, .int (nI (sz0)), .ref sn0])), (s1, .inr (4, [.int bt1, .int (nI (sz1)), .ref sn1])), (s2, .inr (4, [.int bt2, .int (nI (sz2)), .ref sn2])), (s3, .inr (4, [.int bt3, .int (nI (sz3)), .ref sn3])), (sn0, .inl (cJ, 40, .inr (.inl nu0))), (sn1, .inl (cJ, 40, .inr (.inl nv_36))), (sn2, .inl (cJ, 40, .inr (.inl nu2))), (sn3, .inl (cJ, 40, .inr (.inl nu3))), (qf, .inl (cI, 7, .inl f2_37)), (g0, .inr (9, [.ref m_ys, .ref m_yk, .ref m_yo, .ref m_yt, .int b0, .ref m_yfa, .ref m_yfe, .int m_mL, .int m_mS, .int m_mM, .ref m_yro, .ref m_yhe, .ref m_ygr, .int m_mF, .int m_mC, .int m_mY, .ref m_yta, .int (nI (z)), .int (nI (m_mf)), .int (nI (m_mt)), .int m_mv, .int m_mw, .ref m_ywa, .ref m_ybi, .ref m_ysi, .ref m_ynu, .ref m_ymo])), (m_ybi, .inl (cI, 4, .inl m_bi)), (m_ysi, .inl (cI, 4, .inl m_sq)), (m_ynu, .inl (cJ, 160, .inr (.inl nb2_40))), (m_ymo, .inl (cJ, 40, .inr (.inl mv2_41))), (m_yt, .inl (cI, 7, .inl mq2_42))] tl) := hD
      subst hw_r_39
      refine lv_pop hx hb dL_law_1337 rfl ?_
      refine lv_goto (tgt := 1482) hx hb dL_law_1338 (by decide) ?_
      exact kkx _ _ _ nu0 nv_36 nu2 nu3 f2_37 mq2_42 nb2_40 mv2_41 (xt_P hP [0, 1, 2, 3, 4, 5, 6, 7, 8, 9, 10, 11, 16, 12, 13, 14, 15] rfl) (xt_D hD [0, 1, 2, 3, 4, 5, 6, 7, 8, 9, 10, 11, 16, 12, 13, 14, 15] (by decide +kernel) rfl) (fun j hj => (i_44 (0 + j) (by omega)).trans (r_n0 j hj)) (fun j hj => (i_43 j).trans ((sp_cneq r_b0 r_b1 r_n0 (by omega) (r_n1 j hj)).trans (i_38 j).symm)) (fun j hj => (i_44 (80 + j) (by omega)).trans (r_n2 j hj)) (fun j hj => (i_44 (120 + j) (by omega)).trans (r_n3 j hj)) hS hl
    · skip
      refine lv_aload_n hx hb dL_law_1279 rfl (lv_at hl 3 rfl) ?_
      refine lv_iload_n hx hb dL_law_1280 rfl (lv_at hl 0 rfl) ?_
      refine lv_iconst (v := 1) hx hb dL_law_1281 (by decide) ?_
      refine lv_iadd hx hb dL_law_1282 ?_
      refine xl_i (y := nI (i + 1)) (nI_add i 1) ?_
      refine va_sld hx hb hX hbl hbA hS (x_si (k := 1) (by decide) hi hL) dL_law_1283 ?_
      refine xl_i (y := xs (i + 1)) (congrArg xs (x_sc (k := 1) (by decide) hi hL)) ?_
      refine xl_i (y := 0) eq1 ?_
      refine lv_aload_n hx hb dL_law_1284 rfl (lv_at hl 3 rfl) ?_
      refine lv_iload_n hx hb dL_law_1285 rfl (lv_at hl 0 rfl) ?_
      refine lv_iconst (v := 2) hx hb dL_law_1286 (by decide) ?_
      refine lv_iadd hx hb dL_law_1287 ?_
      refine xl_i (y := nI (i + 2)) (nI_add i 2) ?_
      refine va_sld hx hb hX hbl hbA hS (x_si (k := 2) (by decide) hi hL) dL_law_1288 ?_
      refine xl_i (y := xs (i + 2)) (congrArg xs (x_sc (k := 2) (by decide) hi hL)) ?_
      refine lv_aload_n hx hb dL_law_1289 rfl (lv_at hl 3 rfl) ?_
      refine lv_iload_n hx hb dL_law_1290 rfl (lv_at hl 0 rfl) ?_
      refine lv_iconst (v := 3) hx hb dL_law_1291 (by decide) ?_
      refine lv_iadd hx hb dL_law_1292 ?_
      refine xl_i (y := nI (i + 3)) (nI_add i 3) ?_
      refine va_sld hx hb hX hbl hbA hS (x_si (k := 3) (by decide) hi hL) dL_law_1293 ?_
      refine xl_i (y := xs (i + 3)) (congrArg xs (x_sc (k := 3) (by decide) hi hL)) ?_
      refine xl_i (y := 2) eq3 ?_
      refine lv_aload_n hx hb dL_law_1294 rfl (lv_at hl 3 rfl) ?_
      refine lv_iload_n hx hb dL_law_1295 rfl (lv_at hl 0 rfl) ?_
      refine lv_iconst (v := 4) hx hb dL_law_1296 (by decide) ?_
      refine lv_iadd hx hb dL_law_1297 ?_
      refine xl_i (y := nI (i + 4)) (nI_add i 4) ?_
      refine va_sld hx hb hX hbl hbA hS (x_si (k := 4) (by decide) hi hL) dL_law_1298 ?_
      refine xl_i (y := xs (i + 4)) (congrArg xs (x_sc (k := 4) (by decide) hi hL)) ?_
      refine lv_aload_n hx hb dL_law_1299 rfl (lv_at hl 3 rfl) ?_
      refine lv_iload_n hx hb dL_law_1300 rfl (lv_at hl 0 rfl) ?_
      refine lv_iconst (v := 5) hx hb dL_law_1301 (by decide) ?_
      refine lv_iadd hx hb dL_law_1302 ?_
      refine xl_i (y := nI (i + 5)) (nI_add i 5) ?_
      refine va_sld hx hb hX hbl hbA hS (x_si (k := 5) (by decide) hi hL) dL_law_1303 ?_
      refine xl_i (y := xs (i + 5)) (congrArg xs (x_sc (k := 5) (by decide) hi hL)) ?_
      refine xc_ViT (wr := [(g0, .inr (9, [.ref m_ys, .ref m_yk, .ref m_yo, .ref m_yt, .int b0, .ref m_yfa, .ref m_yfe, .int m_mL, .int m_mS, .int m_mM, .ref m_yro, .ref m_yhe, .ref m_ygr, .int m_mF, .int m_mC, .int m_mY, .ref m_yta, .int (nI (z)), .int (nI (m_mf)), .int (nI (m_mt)), .int m_mv, .int m_mw, .ref m_ywa, .ref m_ybi, .ref m_ysi, .ref m_ynu, .ref m_ymo])), (m_yt, .inl (cI, 7, .inl m_mq)), (m_ybi, .inl (cI, 4, .inl m_bi)), (m_ysi, .inl (cI, 4, .inl m_sq)), (m_ynu, .inl (cJ, 160, .inr (.inl m_nb))), (m_ymo, .inl (cJ, 40, .inr (.inl m_mv9)))]) hF (c_X8_copy_02 l D cI cJ cZ cS ta sa sv H.size h0 qh qk qd b0 qa qm qs qp ql qt qz qf s0 s1 s2 s3 bt0 sz0 sn0 bt1 sz1 sn1 bt2 sz2 sn2 bt3 sz3 sn3 nu0 nu1 nu2 nu3 ff (xs (i + 2)) (xs (i + 4)) (xs (i + 5)) hsz0 hsz1 hsz2 hsz3) kv_L_166 ⟨rfl, rfl, Nat.le_of_ble_eq_true rfl, Nat.le_of_ble_eq_true rfl⟩ ⟨Nat.le_of_ble_eq_true rfl, Nat.le_of_ble_eq_true rfl⟩ hK hN hZ hP hD hS hA [0, 1, 2, 3, 4, 5, 6, 7, 8, 9, 10] [11, 12, 13, 14, 15, 16] rfl rfl (by decide +kernel) (by decide +kernel) (by decide +kernel) 0 rfl rfl rfl rfl hl.1 rfl (Nat.le_of_ble_eq_true rfl) dL_law_1304 (fun r_45 u_r_45 H locs hw_r_45 hP hD hS => ?_)
      obtain ⟨nv_46, f2_47⟩ := u_r_45
      try dsimp only at hw_r_45
      obtain ⟨hw_r_45, i_48⟩ := hw_r_45
      have hP : va_P D vwCl (@HAppend.hAppend va_W va_W va_W _ [(g0, .inr (9, [.ref m_ys, .ref m_yk, .ref m_yo, .ref m_yt, .int b0, .ref m_yfa, .ref m_yfe, .int m_mL, .int m_mS, .int m_mM, .ref m_yro, .ref m_yhe, .ref m_ygr, .int m_mF, .int m_mC, .int m_mY, .ref m_yta, .int (nI (z)), .int (nI (m_mf)), .int (nI (m_mt)), .int m_mv, .int m_mw, .ref m_ywa, .ref m_ybi, .ref m_ysi, .ref m_ynu, .ref m_ymo])), (m_yt, .inl (cI, 7, .inl m_mq)), (m_ybi, .inl (cI, 4, .inl m_bi)), (m_ysi, .inl (cI, 4, .inl m_sq)), (m_ynu, .inl (cJ, 160, .inr (.inl m_nb))), (m_ymo, .inl (cJ, 40, .inr (.inl m_mv9))), (h0, .inr (8, [.ref qh, .ref qk, .ref qd, .int b0, .ref qa, .ref qm, .ref qs, .ref qp, .ref ql, .ref qt, .ref qz, .ref qf])), (qz, .inl (cS, 4, .inr (.inr (.inr (.inr (xSh s0 s1 s2 s3)))))), (s0, .inr (4, [.int bt0, .int (nI (sz0)), .ref sn0])), (s1, .inr (4, [.int bt1, .int (nI (sz1)), .ref sn1])), (s2, .inr (4, [.int bt2, .int (nI (sz2)), .ref sn2])), (s3, .inr (4, [.int bt3, .int (nI (sz3)), .ref sn3])), (sn0, .inl (cJ, 40, .inr (.inl nu0))), (sn1, .inl (cJ, 40, .inr (.inl nu1))), (sn2, .inl (cJ, 40, .inr (.inl nv_46))), (sn3, .inl (cJ, 40, .inr (.inl nu3))), (qf, .inl (cI, 7, .inl f2_47))] tl) H := hP
      have hD : va_D A (@HAppend.hAppend va_W va_W va_W _ [(g0, .inr (9, [.ref m_ys, .ref m_yk, .ref m_yo, .ref m_yt, .int b0, .ref m_yfa, .ref m_yfe, .int m_mL, .int m_mS, .int m_mM, .ref m_yro, .ref m_yhe, .ref m_ygr, .int m_mF, .int m_mC, .int m_mY, .ref m_yta, .int (nI (z)), .int (nI (m_mf)), .int (nI (m_mt)), .int m_mv, .int m_mw, .ref m_ywa, .ref m_ybi, .ref m_ysi, .ref m_ynu, .ref m_ymo])), (m_yt, .inl (cI, 7, .inl m_mq)), (m_ybi, .inl (cI, 4, .inl m_bi)), (m_ysi, .inl (cI, 4, .inl m_sq)), (m_ynu, .inl (cJ, 160, .inr (.inl m_nb))), (m_ymo, .inl (cJ, 40, .inr (.inl m_mv9))), (h0, .inr (8, [.ref qh, .ref qk, .ref qd, .int b0, .ref qa, .ref qm, .ref qs, .ref qp, .ref ql, .ref qt, .ref qz, .ref qf])), (qz, .inl (cS, 4, .inr (.inr (.inr (.inr (xSh s0 s1 s2 s3)))))), (s0, .inr (4, [.int bt0, .int (nI (sz0)), .ref sn0])), (s1, .inr (4, [.int bt1, .int (nI (sz1)), .ref sn1])), (s2, .inr (4, [.int bt2, .int (nI (sz2)), .ref sn2])), (s3, .inr (4, [.int bt3, .int (nI (sz3)), .ref sn3])), (sn0, .inl (cJ, 40, .inr (.inl nu0))), (sn1, .inl (cJ, 40, .inr (.inl nu1))), (sn2, .inl (cJ, 40, .inr (.inl nv_46))), (sn3, .inl (cJ, 40, .inr (.inl nu3))), (qf, .inl (cI, 7, .inl f2_47))] tl) := hD
      subst hw_r_45
      refine lv_pop hx hb dL_law_1307 rfl ?_
      refine lv_aload_n hx hb dL_law_1308 rfl (lv_at hl 1 rfl) ?_
      refine lv_aload_n hx hb dL_law_1309 rfl (lv_at hl 3 rfl) ?_
      refine lv_iload_n hx hb dL_law_1310 rfl (lv_at hl 0 rfl) ?_
      refine lv_iconst (v := 1) hx hb dL_law_1311 (by decide) ?_
      refine lv_iadd hx hb dL_law_1312 ?_
      refine xl_i (y := nI (i + 1)) (nI_add i 1) ?_
      refine va_sld hx hb hX hbl hbA hS (x_si (k := 1) (by decide) hi hL) dL_law_1313 ?_
      refine xl_i (y := xs (i + 1)) (congrArg xs (x_sc (k := 1) (by decide) hi hL)) ?_
      refine xl_i (y := 0) eq1 ?_
      refine lv_aload_n hx hb dL_law_1314 rfl (lv_at hl 3 rfl) ?_
      refine lv_iload_n hx hb dL_law_1315 rfl (lv_at hl 0 rfl) ?_
      refine lv_iconst (v := 2) hx hb dL_law_1316 (by decide) ?_
      refine lv_iadd hx hb dL_law_1317 ?_
      refine xl_i (y := nI (i + 2)) (nI_add i 2) ?_
      refine va_sld hx hb hX hbl hbA hS (x_si (k := 2) (by decide) hi hL) dL_law_1318 ?_
      refine xl_i (y := xs (i + 2)) (congrArg xs (x_sc (k := 2) (by decide) hi hL)) ?_
      refine lv_aload_n hx hb dL_law_1319 rfl (lv_at hl 3 rfl) ?_
      refine lv_iload_n hx hb dL_law_1320 rfl (lv_at hl 0 rfl) ?_
      refine lv_iconst (v := 3) hx hb dL_law_1321 (by decide) ?_
      refine lv_iadd hx hb dL_law_1322 ?_
      refine xl_i (y := nI (i + 3)) (nI_add i 3) ?_
      refine va_sld hx hb hX hbl hbA hS (x_si (k := 3) (by decide) hi hL) dL_law_1323 ?_
      refine xl_i (y := xs (i + 3)) (congrArg xs (x_sc (k := 3) (by decide) hi hL)) ?_
      refine xl_i (y := 2) eq3 ?_
      refine lv_aload_n hx hb dL_law_1324 rfl (lv_at hl 3 rfl) ?_
      refine lv_iload_n hx hb dL_law_1325 rfl (lv_at hl 0 rfl) ?_
      refine lv_iconst (v := 4) hx hb dL_law_1326 (by decide) ?_
      refine lv_iadd hx hb dL_law_1327 ?_
      refine xl_i (y := nI (i + 4)) (nI_add i 4) ?_
      refine va_sld hx hb hX hbl hbA hS (x_si (k := 4) (by decide) hi hL) dL_law_1328 ?_
      refine xl_i (y := xs (i + 4)) (congrArg xs (x_sc (k := 4) (by decide) hi hL)) ?_
      refine lv_aload_n hx hb dL_law_1329 rfl (lv_at hl 3 rfl) ?_
      refine lv_iload_n hx hb dL_law_1330 rfl (lv_at hl 0 rfl) ?_
      refine lv_iconst (v := 5) hx hb dL_law_1331 (by decide) ?_
      refine lv_iadd hx hb dL_law_1332 ?_
      refine xl_i (y := nI (i + 5)) (nI_add i 5) ?_
      refine va_sld hx hb hX hbl hbA hS (x_si (k := 5) (by decide) hi hL) dL_law_1333 ?_
      refine xl_i (y := xs (i + 5)) (congrArg xs (x_sc (k := 5) (by decide) hi hL)) ?_
      refine xc_ViT (wr := [(h0, .inr (8, [.ref qh, .ref qk, .ref qd, .int b0, .ref qa, .ref qm, .ref qs, .ref qp, .ref ql, .ref qt, .ref qz, .ref qf])), (qz, .inl (cS, 4, .inr (.inr (.inr (.inr (xSh s0 s1 s2 s3)))))), (s0, .inr (4, [.int bt0, .int (nI (sz0)), .ref sn0])), (s1, .inr (4, [.int bt1, .int (nI (sz1)), .ref sn1])), (s2, .inr (4, [.int bt2, .int (nI (sz2)), .ref sn2])), (s3, .inr (4, [.int bt3, .int (nI (sz3)), .ref sn3])), (sn0, .inl (cJ, 40, .inr (.inl nu0))), (sn1, .inl (cJ, 40, .inr (.inl nu1))), (sn2, .inl (cJ, 40, .inr (.inl nv_46))), (sn3, .inl (cJ, 40, .inr (.inl nu3))), (qf, .inl (cI, 7, .inl f2_47))]) hF (c_X9_copy_02 l D cI cJ cZ cS ta sa sv H.size g0 m_ys m_yk m_yo m_yt b0 m_yfa m_yfe m_mL m_mS m_mM m_yro m_yhe m_ygr m_mF m_mC m_mY m_yta z m_mf m_mt m_mv m_mw m_ywa m_ybi m_ysi m_ynu m_ymo m_bi m_sq m_nb m_mv9 m_mq (xs (i + 2)) (xs (i + 4)) (xs (i + 5)) sz0 sz2 r_z0 hsz0 r_z2 hsz2 m_hsq) kv_L_170 ⟨rfl, rfl, Nat.le_of_ble_eq_true rfl, Nat.le_of_ble_eq_true rfl⟩ ⟨Nat.le_of_ble_eq_true rfl, Nat.le_of_ble_eq_true rfl⟩ hK hN hZ hP hD hS hA [0, 2, 3, 4, 5, 1] [6, 7, 8, 9, 10, 11, 12, 13, 14, 15, 16] rfl rfl (by decide +kernel) (by decide +kernel) (by decide +kernel) 0 rfl rfl rfl rfl hl.1 rfl (Nat.le_of_ble_eq_true rfl) dL_law_1334 (fun r_49 u_r_49 H locs hw_r_49 hP hD hS => ?_)
      obtain ⟨nb2_50, mv2_51, mq2_52⟩ := u_r_49
      try dsimp only at hw_r_49
      obtain ⟨hw_r_49, i_53, i_54⟩ := hw_r_49
      have hP : va_P D vwCl (@HAppend.hAppend va_W va_W va_W _ [(h0, .inr (8, [.ref qh, .ref qk, .ref qd, .int b0, .ref qa, .ref qm, .ref qs, .ref qp, .ref ql, .ref qt, .ref qz, .ref qf])), (qz, .inl (cS, 4, .inr (.inr (.inr (.inr (xSh s0 s1 s2 s3)))))), (s0, .inr (4, [.int bt0, .int (nI (sz0)), .ref sn0])), (s1, .inr (4, [.int bt1, .int (nI (sz1)), .ref sn1])), (s2, .inr (4, [.int bt2, .int (nI (sz2)), .ref sn2])), (s3, .inr (4, [.int bt3, .int (nI (sz3)), .ref sn3])), (sn0, .inl (cJ, 40, .inr (.inl nu0))), (sn1, .inl (cJ, 40, .inr (.inl nu1))), (sn2, .inl (cJ, 40, .inr (.inl nv_46))), (sn3, .inl (cJ, 40, .inr (.inl nu3))), (qf, .inl (cI, 7, .inl f2_47)), (g0, .inr (9, [.ref m_ys, .ref m_yk, .ref m_yo, .ref m_yt, .int b0, .ref m_yfa, .ref m_yfe, .int m_mL, .int m_mS, .int m_mM, .ref m_yro, .ref m_yhe, .ref m_ygr, .int m_mF, .int m_mC, .int m_mY, .ref m_yta, .int (nI (z)), .int (nI (m_mf)), .int (nI (m_mt)), .int m_mv, .int m_mw, .ref m_ywa, .ref m_ybi, .ref m_ysi, .ref m_ynu, .ref m_ymo])), (m_ybi, .inl (cI, 4, .inl m_bi)), (m_ysi, .inl (cI, 4, .inl m_sq)), (m_ynu, .inl (cJ, 160, .inr (.inl nb2_50))), (m_ymo, .inl (cJ, 40, .inr (.inl mv2_51))), (m_yt, .inl (cI, 7, .inl mq2_52))] tl) H := hP
      have hD : va_D A (@HAppend.hAppend va_W va_W va_W _ [(h0, .inr (8, [.ref qh, .ref qk, .ref qd, .int b0, .ref qa, .ref qm, .ref qs, .ref qp, .ref ql, .ref qt, .ref qz, .ref qf])), (qz, .inl (cS, 4, .inr (.inr (.inr (.inr (xSh s0 s1 s2 s3)))))), (s0, .inr (4, [.int bt0, .int (nI (sz0)), .ref sn0])), (s1, .inr (4, [.int bt1, .int (nI (sz1)), .ref sn1])), (s2, .inr (4, [.int bt2, .int (nI (sz2)), .ref sn2])), (s3, .inr (4, [.int bt3, .int (nI (sz3)), .ref sn3])), (sn0, .inl (cJ, 40, .inr (.inl nu0))), (sn1, .inl (cJ, 40, .inr (.inl nu1))), (sn2, .inl (cJ, 40, .inr (.inl nv_46))), (sn3, .inl (cJ, 40, .inr (.inl nu3))), (qf, .inl (cI, 7, .inl f2_47)), (g0, .inr (9, [.ref m_ys, .ref m_yk, .ref m_yo, .ref m_yt, .int b0, .ref m_yfa, .ref m_yfe, .int m_mL, .int m_mS, .int m_mM, .ref m_yro, .ref m_yhe, .ref m_ygr, .int m_mF, .int m_mC, .int m_mY, .ref m_yta, .int (nI (z)), .int (nI (m_mf)), .int (nI (m_mt)), .int m_mv, .int m_mw, .ref m_ywa, .ref m_ybi, .ref m_ysi, .ref m_ynu, .ref m_ymo])), (m_ybi, .inl (cI, 4, .inl m_bi)), (m_ysi, .inl (cI, 4, .inl m_sq)), (m_ynu, .inl (cJ, 160, .inr (.inl nb2_50))), (m_ymo, .inl (cJ, 40, .inr (.inl mv2_51))), (m_yt, .inl (cI, 7, .inl mq2_52))] tl) := hD
      subst hw_r_49
      refine lv_pop hx hb dL_law_1337 rfl ?_
      refine lv_goto (tgt := 1482) hx hb dL_law_1338 (by decide) ?_
      exact kkx _ _ _ nu0 nu1 nv_46 nu3 f2_47 mq2_52 nb2_50 mv2_51 (xt_P hP [0, 1, 2, 3, 4, 5, 6, 7, 8, 9, 10, 11, 16, 12, 13, 14, 15] rfl) (xt_D hD [0, 1, 2, 3, 4, 5, 6, 7, 8, 9, 10, 11, 16, 12, 13, 14, 15] (by decide +kernel) rfl) (fun j hj => (i_54 (0 + j) (by omega)).trans (r_n0 j hj)) (fun j hj => (i_54 (40 + j) (by omega)).trans (r_n1 j hj)) (fun j hj => (i_53 j).trans ((sp_cneq r_b0 r_b2 r_n0 (by omega) (r_n2 j hj)).trans (i_48 j).symm)) (fun j hj => (i_54 (120 + j) (by omega)).trans (r_n3 j hj)) hS hl
    · skip
      refine lv_aload_n hx hb dL_law_1279 rfl (lv_at hl 3 rfl) ?_
      refine lv_iload_n hx hb dL_law_1280 rfl (lv_at hl 0 rfl) ?_
      refine lv_iconst (v := 1) hx hb dL_law_1281 (by decide) ?_
      refine lv_iadd hx hb dL_law_1282 ?_
      refine xl_i (y := nI (i + 1)) (nI_add i 1) ?_
      refine va_sld hx hb hX hbl hbA hS (x_si (k := 1) (by decide) hi hL) dL_law_1283 ?_
      refine xl_i (y := xs (i + 1)) (congrArg xs (x_sc (k := 1) (by decide) hi hL)) ?_
      refine xl_i (y := 0) eq1 ?_
      refine lv_aload_n hx hb dL_law_1284 rfl (lv_at hl 3 rfl) ?_
      refine lv_iload_n hx hb dL_law_1285 rfl (lv_at hl 0 rfl) ?_
      refine lv_iconst (v := 2) hx hb dL_law_1286 (by decide) ?_
      refine lv_iadd hx hb dL_law_1287 ?_
      refine xl_i (y := nI (i + 2)) (nI_add i 2) ?_
      refine va_sld hx hb hX hbl hbA hS (x_si (k := 2) (by decide) hi hL) dL_law_1288 ?_
      refine xl_i (y := xs (i + 2)) (congrArg xs (x_sc (k := 2) (by decide) hi hL)) ?_
      refine lv_aload_n hx hb dL_law_1289 rfl (lv_at hl 3 rfl) ?_
      refine lv_iload_n hx hb dL_law_1290 rfl (lv_at hl 0 rfl) ?_
      refine lv_iconst (v := 3) hx hb dL_law_1291 (by decide) ?_
      refine lv_iadd hx hb dL_law_1292 ?_
      refine xl_i (y := nI (i + 3)) (nI_add i 3) ?_
      refine va_sld hx hb hX hbl hbA hS (x_si (k := 3) (by decide) hi hL) dL_law_1293 ?_
      refine xl_i (y := xs (i + 3)) (congrArg xs (x_sc (k := 3) (by decide) hi hL)) ?_
      refine xl_i (y := 3) eq3 ?_
      refine lv_aload_n hx hb dL_law_1294 rfl (lv_at hl 3 rfl) ?_
      refine lv_iload_n hx hb dL_law_1295 rfl (lv_at hl 0 rfl) ?_
      refine lv_iconst (v := 4) hx hb dL_law_1296 (by decide) ?_
      refine lv_iadd hx hb dL_law_1297 ?_
      refine xl_i (y := nI (i + 4)) (nI_add i 4) ?_
      refine va_sld hx hb hX hbl hbA hS (x_si (k := 4) (by decide) hi hL) dL_law_1298 ?_
      refine xl_i (y := xs (i + 4)) (congrArg xs (x_sc (k := 4) (by decide) hi hL)) ?_
      refine lv_aload_n hx hb dL_law_1299 rfl (lv_at hl 3 rfl) ?_
      refine lv_iload_n hx hb dL_law_1300 rfl (lv_at hl 0 rfl) ?_
      refine lv_iconst (v := 5) hx hb dL_law_1301 (by decide) ?_
      refine lv_iadd hx hb dL_law_1302 ?_
      refine xl_i (y := nI (i + 5)) (nI_add i 5) ?_
      refine va_sld hx hb hX hbl hbA hS (x_si (k := 5) (by decide) hi hL) dL_law_1303 ?_
      refine xl_i (y := xs (i + 5)) (congrArg xs (x_sc (k := 5) (by decide) hi hL)) ?_
      refine xc_ViT (wr := [(g0, .inr (9, [.ref m_ys, .ref m_yk, .ref m_yo, .ref m_yt, .int b0, .ref m_yfa, .ref m_yfe, .int m_mL, .int m_mS, .int m_mM, .ref m_yro, .ref m_yhe, .ref m_ygr, .int m_mF, .int m_mC, .int m_mY, .ref m_yta, .int (nI (z)), .int (nI (m_mf)), .int (nI (m_mt)), .int m_mv, .int m_mw, .ref m_ywa, .ref m_ybi, .ref m_ysi, .ref m_ynu, .ref m_ymo])), (m_yt, .inl (cI, 7, .inl m_mq)), (m_ybi, .inl (cI, 4, .inl m_bi)), (m_ysi, .inl (cI, 4, .inl m_sq)), (m_ynu, .inl (cJ, 160, .inr (.inl m_nb))), (m_ymo, .inl (cJ, 40, .inr (.inl m_mv9)))]) hF (c_X8_copy_03 l D cI cJ cZ cS ta sa sv H.size h0 qh qk qd b0 qa qm qs qp ql qt qz qf s0 s1 s2 s3 bt0 sz0 sn0 bt1 sz1 sn1 bt2 sz2 sn2 bt3 sz3 sn3 nu0 nu1 nu2 nu3 ff (xs (i + 2)) (xs (i + 4)) (xs (i + 5)) hsz0 hsz1 hsz2 hsz3) kv_L_166 ⟨rfl, rfl, Nat.le_of_ble_eq_true rfl, Nat.le_of_ble_eq_true rfl⟩ ⟨Nat.le_of_ble_eq_true rfl, Nat.le_of_ble_eq_true rfl⟩ hK hN hZ hP hD hS hA [0, 1, 2, 3, 4, 5, 6, 7, 8, 9, 10] [11, 12, 13, 14, 15, 16] rfl rfl (by decide +kernel) (by decide +kernel) (by decide +kernel) 0 rfl rfl rfl rfl hl.1 rfl (Nat.le_of_ble_eq_true rfl) dL_law_1304 (fun r_55 u_r_55 H locs hw_r_55 hP hD hS => ?_)
      obtain ⟨nv_56, f2_57⟩ := u_r_55
      try dsimp only at hw_r_55
      obtain ⟨hw_r_55, i_58⟩ := hw_r_55
      have hP : va_P D vwCl (@HAppend.hAppend va_W va_W va_W _ [(g0, .inr (9, [.ref m_ys, .ref m_yk, .ref m_yo, .ref m_yt, .int b0, .ref m_yfa, .ref m_yfe, .int m_mL, .int m_mS, .int m_mM, .ref m_yro, .ref m_yhe, .ref m_ygr, .int m_mF, .int m_mC, .int m_mY, .ref m_yta, .int (nI (z)), .int (nI (m_mf)), .int (nI (m_mt)), .int m_mv, .int m_mw, .ref m_ywa, .ref m_ybi, .ref m_ysi, .ref m_ynu, .ref m_ymo])), (m_yt, .inl (cI, 7, .inl m_mq)), (m_ybi, .inl (cI, 4, .inl m_bi)), (m_ysi, .inl (cI, 4, .inl m_sq)), (m_ynu, .inl (cJ, 160, .inr (.inl m_nb))), (m_ymo, .inl (cJ, 40, .inr (.inl m_mv9))), (h0, .inr (8, [.ref qh, .ref qk, .ref qd, .int b0, .ref qa, .ref qm, .ref qs, .ref qp, .ref ql, .ref qt, .ref qz, .ref qf])), (qz, .inl (cS, 4, .inr (.inr (.inr (.inr (xSh s0 s1 s2 s3)))))), (s0, .inr (4, [.int bt0, .int (nI (sz0)), .ref sn0])), (s1, .inr (4, [.int bt1, .int (nI (sz1)), .ref sn1])), (s2, .inr (4, [.int bt2, .int (nI (sz2)), .ref sn2])), (s3, .inr (4, [.int bt3, .int (nI (sz3)), .ref sn3])), (sn0, .inl (cJ, 40, .inr (.inl nu0))), (sn1, .inl (cJ, 40, .inr (.inl nu1))), (sn2, .inl (cJ, 40, .inr (.inl nu2))), (sn3, .inl (cJ, 40, .inr (.inl nv_56))), (qf, .inl (cI, 7, .inl f2_57))] tl) H := hP
      have hD : va_D A (@HAppend.hAppend va_W va_W va_W _ [(g0, .inr (9, [.ref m_ys, .ref m_yk, .ref m_yo, .ref m_yt, .int b0, .ref m_yfa, .ref m_yfe, .int m_mL, .int m_mS, .int m_mM, .ref m_yro, .ref m_yhe, .ref m_ygr, .int m_mF, .int m_mC, .int m_mY, .ref m_yta, .int (nI (z)), .int (nI (m_mf)), .int (nI (m_mt)), .int m_mv, .int m_mw, .ref m_ywa, .ref m_ybi, .ref m_ysi, .ref m_ynu, .ref m_ymo])), (m_yt, .inl (cI, 7, .inl m_mq)), (m_ybi, .inl (cI, 4, .inl m_bi)), (m_ysi, .inl (cI, 4, .inl m_sq)), (m_ynu, .inl (cJ, 160, .inr (.inl m_nb))), (m_ymo, .inl (cJ, 40, .inr (.inl m_mv9))), (h0, .inr (8, [.ref qh, .ref qk, .ref qd, .int b0, .ref qa, .ref qm, .ref qs, .ref qp, .ref ql, .ref qt, .ref qz, .ref qf])), (qz, .inl (cS, 4, .inr (.inr (.inr (.inr (xSh s0 s1 s2 s3)))))), (s0, .inr (4, [.int bt0, .int (nI (sz0)), .ref sn0])), (s1, .inr (4, [.int bt1, .int (nI (sz1)), .ref sn1])), (s2, .inr (4, [.int bt2, .int (nI (sz2)), .ref sn2])), (s3, .inr (4, [.int bt3, .int (nI (sz3)), .ref sn3])), (sn0, .inl (cJ, 40, .inr (.inl nu0))), (sn1, .inl (cJ, 40, .inr (.inl nu1))), (sn2, .inl (cJ, 40, .inr (.inl nu2))), (sn3, .inl (cJ, 40, .inr (.inl nv_56))), (qf, .inl (cI, 7, .inl f2_57))] tl) := hD
      subst hw_r_55
      refine lv_pop hx hb dL_law_1307 rfl ?_
      refine lv_aload_n hx hb dL_law_1308 rfl (lv_at hl 1 rfl) ?_
      refine lv_aload_n hx hb dL_law_1309 rfl (lv_at hl 3 rfl) ?_
      refine lv_iload_n hx hb dL_law_1310 rfl (lv_at hl 0 rfl) ?_
      refine lv_iconst (v := 1) hx hb dL_law_1311 (by decide) ?_
      refine lv_iadd hx hb dL_law_1312 ?_
      refine xl_i (y := nI (i + 1)) (nI_add i 1) ?_
      refine va_sld hx hb hX hbl hbA hS (x_si (k := 1) (by decide) hi hL) dL_law_1313 ?_
      refine xl_i (y := xs (i + 1)) (congrArg xs (x_sc (k := 1) (by decide) hi hL)) ?_
      refine xl_i (y := 0) eq1 ?_
      refine lv_aload_n hx hb dL_law_1314 rfl (lv_at hl 3 rfl) ?_
      refine lv_iload_n hx hb dL_law_1315 rfl (lv_at hl 0 rfl) ?_
      refine lv_iconst (v := 2) hx hb dL_law_1316 (by decide) ?_
      refine lv_iadd hx hb dL_law_1317 ?_
      refine xl_i (y := nI (i + 2)) (nI_add i 2) ?_
      refine va_sld hx hb hX hbl hbA hS (x_si (k := 2) (by decide) hi hL) dL_law_1318 ?_
      refine xl_i (y := xs (i + 2)) (congrArg xs (x_sc (k := 2) (by decide) hi hL)) ?_
      refine lv_aload_n hx hb dL_law_1319 rfl (lv_at hl 3 rfl) ?_
      refine lv_iload_n hx hb dL_law_1320 rfl (lv_at hl 0 rfl) ?_
      refine lv_iconst (v := 3) hx hb dL_law_1321 (by decide) ?_
      refine lv_iadd hx hb dL_law_1322 ?_
      refine xl_i (y := nI (i + 3)) (nI_add i 3) ?_
      refine va_sld hx hb hX hbl hbA hS (x_si (k := 3) (by decide) hi hL) dL_law_1323 ?_
      refine xl_i (y := xs (i + 3)) (congrArg xs (x_sc (k := 3) (by decide) hi hL)) ?_
      refine xl_i (y := 3) eq3 ?_
      refine lv_aload_n hx hb dL_law_1324 rfl (lv_at hl 3 rfl) ?_
      refine lv_iload_n hx hb dL_law_1325 rfl (lv_at hl 0 rfl) ?_
      refine lv_iconst (v := 4) hx hb dL_law_1326 (by decide) ?_
      refine lv_iadd hx hb dL_law_1327 ?_
      refine xl_i (y := nI (i + 4)) (nI_add i 4) ?_
      refine va_sld hx hb hX hbl hbA hS (x_si (k := 4) (by decide) hi hL) dL_law_1328 ?_
      refine xl_i (y := xs (i + 4)) (congrArg xs (x_sc (k := 4) (by decide) hi hL)) ?_
      refine lv_aload_n hx hb dL_law_1329 rfl (lv_at hl 3 rfl) ?_
      refine lv_iload_n hx hb dL_law_1330 rfl (lv_at hl 0 rfl) ?_
      refine lv_iconst (v := 5) hx hb dL_law_1331 (by decide) ?_
      refine lv_iadd hx hb dL_law_1332 ?_
      refine xl_i (y := nI (i + 5)) (nI_add i 5) ?_
      refine va_sld hx hb hX hbl hbA hS (x_si (k := 5) (by decide) hi hL) dL_law_1333 ?_
      refine xl_i (y := xs (i + 5)) (congrArg xs (x_sc (k := 5) (by decide) hi hL)) ?_
      refine xc_ViT (wr := [(h0, .inr (8, [.ref qh, .ref qk, .ref qd, .int b0, .ref qa, .ref qm, .ref qs, .ref qp, .ref ql, .ref qt, .ref qz, .ref qf])), (qz, .inl (cS, 4, .inr (.inr (.inr (.inr (xSh s0 s1 s2 s3)))))), (s0, .inr (4, [.int bt0, .int (nI (sz0)), .ref sn0])), (s1, .inr (4, [.int bt1, .int (nI (sz1)), .ref sn1])), (s2, .inr (4, [.int bt2, .int (nI (sz2)), .ref sn2])), (s3, .inr (4, [.int bt3, .int (nI (sz3)), .ref sn3])), (sn0, .inl (cJ, 40, .inr (.inl nu0))), (sn1, .inl (cJ, 40, .inr (.inl nu1))), (sn2, .inl (cJ, 40, .inr (.inl nu2))), (sn3, .inl (cJ, 40, .inr (.inl nv_56))), (qf, .inl (cI, 7, .inl f2_57))]) hF (c_X9_copy_03 l D cI cJ cZ cS ta sa sv H.size g0 m_ys m_yk m_yo m_yt b0 m_yfa m_yfe m_mL m_mS m_mM m_yro m_yhe m_ygr m_mF m_mC m_mY m_yta z m_mf m_mt m_mv m_mw m_ywa m_ybi m_ysi m_ynu m_ymo m_bi m_sq m_nb m_mv9 m_mq (xs (i + 2)) (xs (i + 4)) (xs (i + 5)) sz0 sz3 r_z0 hsz0 r_z3 hsz3 m_hsq) kv_L_170 ⟨rfl, rfl, Nat.le_of_ble_eq_true rfl, Nat.le_of_ble_eq_true rfl⟩ ⟨Nat.le_of_ble_eq_true rfl, Nat.le_of_ble_eq_true rfl⟩ hK hN hZ hP hD hS hA [0, 2, 3, 4, 5, 1] [6, 7, 8, 9, 10, 11, 12, 13, 14, 15, 16] rfl rfl (by decide +kernel) (by decide +kernel) (by decide +kernel) 0 rfl rfl rfl rfl hl.1 rfl (Nat.le_of_ble_eq_true rfl) dL_law_1334 (fun r_59 u_r_59 H locs hw_r_59 hP hD hS => ?_)
      obtain ⟨nb2_60, mv2_61, mq2_62⟩ := u_r_59
      try dsimp only at hw_r_59
      obtain ⟨hw_r_59, i_63, i_64⟩ := hw_r_59
      have hP : va_P D vwCl (@HAppend.hAppend va_W va_W va_W _ [(h0, .inr (8, [.ref qh, .ref qk, .ref qd, .int b0, .ref qa, .ref qm, .ref qs, .ref qp, .ref ql, .ref qt, .ref qz, .ref qf])), (qz, .inl (cS, 4, .inr (.inr (.inr (.inr (xSh s0 s1 s2 s3)))))), (s0, .inr (4, [.int bt0, .int (nI (sz0)), .ref sn0])), (s1, .inr (4, [.int bt1, .int (nI (sz1)), .ref sn1])), (s2, .inr (4, [.int bt2, .int (nI (sz2)), .ref sn2])), (s3, .inr (4, [.int bt3, .int (nI (sz3)), .ref sn3])), (sn0, .inl (cJ, 40, .inr (.inl nu0))), (sn1, .inl (cJ, 40, .inr (.inl nu1))), (sn2, .inl (cJ, 40, .inr (.inl nu2))), (sn3, .inl (cJ, 40, .inr (.inl nv_56))), (qf, .inl (cI, 7, .inl f2_57)), (g0, .inr (9, [.ref m_ys, .ref m_yk, .ref m_yo, .ref m_yt, .int b0, .ref m_yfa, .ref m_yfe, .int m_mL, .int m_mS, .int m_mM, .ref m_yro, .ref m_yhe, .ref m_ygr, .int m_mF, .int m_mC, .int m_mY, .ref m_yta, .int (nI (z)), .int (nI (m_mf)), .int (nI (m_mt)), .int m_mv, .int m_mw, .ref m_ywa, .ref m_ybi, .ref m_ysi, .ref m_ynu, .ref m_ymo])), (m_ybi, .inl (cI, 4, .inl m_bi)), (m_ysi, .inl (cI, 4, .inl m_sq)), (m_ynu, .inl (cJ, 160, .inr (.inl nb2_60))), (m_ymo, .inl (cJ, 40, .inr (.inl mv2_61))), (m_yt, .inl (cI, 7, .inl mq2_62))] tl) H := hP
      have hD : va_D A (@HAppend.hAppend va_W va_W va_W _ [(h0, .inr (8, [.ref qh, .ref qk, .ref qd, .int b0, .ref qa, .ref qm, .ref qs, .ref qp, .ref ql, .ref qt, .ref qz, .ref qf])), (qz, .inl (cS, 4, .inr (.inr (.inr (.inr (xSh s0 s1 s2 s3)))))), (s0, .inr (4, [.int bt0, .int (nI (sz0)), .ref sn0])), (s1, .inr (4, [.int bt1, .int (nI (sz1)), .ref sn1])), (s2, .inr (4, [.int bt2, .int (nI (sz2)), .ref sn2])), (s3, .inr (4, [.int bt3, .int (nI (sz3)), .ref sn3])), (sn0, .inl (cJ, 40, .inr (.inl nu0))), (sn1, .inl (cJ, 40, .inr (.inl nu1))), (sn2, .inl (cJ, 40, .inr (.inl nu2))), (sn3, .inl (cJ, 40, .inr (.inl nv_56))), (qf, .inl (cI, 7, .inl f2_57)), (g0, .inr (9, [.ref m_ys, .ref m_yk, .ref m_yo, .ref m_yt, .int b0, .ref m_yfa, .ref m_yfe, .int m_mL, .int m_mS, .int m_mM, .ref m_yro, .ref m_yhe, .ref m_ygr, .int m_mF, .int m_mC, .int m_mY, .ref m_yta, .int (nI (z)), .int (nI (m_mf)), .int (nI (m_mt)), .int m_mv, .int m_mw, .ref m_ywa, .ref m_ybi, .ref m_ysi, .ref m_ynu, .ref m_ymo])), (m_ybi, .inl (cI, 4, .inl m_bi)), (m_ysi, .inl (cI, 4, .inl m_sq)), (m_ynu, .inl (cJ, 160, .inr (.inl nb2_60))), (m_ymo, .inl (cJ, 40, .inr (.inl mv2_61))), (m_yt, .inl (cI, 7, .inl mq2_62))] tl) := hD
      subst hw_r_59
      refine lv_pop hx hb dL_law_1337 rfl ?_
      refine lv_goto (tgt := 1482) hx hb dL_law_1338 (by decide) ?_
      exact kkx _ _ _ nu0 nu1 nu2 nv_56 f2_57 mq2_62 nb2_60 mv2_61 (xt_P hP [0, 1, 2, 3, 4, 5, 6, 7, 8, 9, 10, 11, 16, 12, 13, 14, 15] rfl) (xt_D hD [0, 1, 2, 3, 4, 5, 6, 7, 8, 9, 10, 11, 16, 12, 13, 14, 15] (by decide +kernel) rfl) (fun j hj => (i_64 (0 + j) (by omega)).trans (r_n0 j hj)) (fun j hj => (i_64 (40 + j) (by omega)).trans (r_n1 j hj)) (fun j hj => (i_64 (80 + j) (by omega)).trans (r_n2 j hj)) (fun j hj => (i_63 j).trans ((sp_cneq r_b0 r_b3 r_n0 (by omega) (r_n3 j hj)).trans (i_58 j).symm)) hS hl
  · skip
    refine lv_aload_n hx hb dL_law_1278 rfl (lv_at hl 2 rfl) ?_
    rcases x_sh4 (xs (i + 3)) with oq3 | eq3 | eq3 | eq3 | eq3
    · skip
      refine lv_aload_n hx hb dL_law_1279 rfl (lv_at hl 3 rfl) ?_
      refine lv_iload_n hx hb dL_law_1280 rfl (lv_at hl 0 rfl) ?_
      refine lv_iconst (v := 1) hx hb dL_law_1281 (by decide) ?_
      refine lv_iadd hx hb dL_law_1282 ?_
      refine xl_i (y := nI (i + 1)) (nI_add i 1) ?_
      refine va_sld hx hb hX hbl hbA hS (x_si (k := 1) (by decide) hi hL) dL_law_1283 ?_
      refine xl_i (y := xs (i + 1)) (congrArg xs (x_sc (k := 1) (by decide) hi hL)) ?_
      refine xl_i (y := 1) eq1 ?_
      refine lv_aload_n hx hb dL_law_1284 rfl (lv_at hl 3 rfl) ?_
      refine lv_iload_n hx hb dL_law_1285 rfl (lv_at hl 0 rfl) ?_
      refine lv_iconst (v := 2) hx hb dL_law_1286 (by decide) ?_
      refine lv_iadd hx hb dL_law_1287 ?_
      refine xl_i (y := nI (i + 2)) (nI_add i 2) ?_
      refine va_sld hx hb hX hbl hbA hS (x_si (k := 2) (by decide) hi hL) dL_law_1288 ?_
      refine xl_i (y := xs (i + 2)) (congrArg xs (x_sc (k := 2) (by decide) hi hL)) ?_
      refine lv_aload_n hx hb dL_law_1289 rfl (lv_at hl 3 rfl) ?_
      refine lv_iload_n hx hb dL_law_1290 rfl (lv_at hl 0 rfl) ?_
      refine lv_iconst (v := 3) hx hb dL_law_1291 (by decide) ?_
      refine lv_iadd hx hb dL_law_1292 ?_
      refine xl_i (y := nI (i + 3)) (nI_add i 3) ?_
      refine va_sld hx hb hX hbl hbA hS (x_si (k := 3) (by decide) hi hL) dL_law_1293 ?_
      refine xl_i (y := xs (i + 3)) (congrArg xs (x_sc (k := 3) (by decide) hi hL)) ?_
      refine lv_aload_n hx hb dL_law_1294 rfl (lv_at hl 3 rfl) ?_
      refine lv_iload_n hx hb dL_law_1295 rfl (lv_at hl 0 rfl) ?_
      refine lv_iconst (v := 4) hx hb dL_law_1296 (by decide) ?_
      refine lv_iadd hx hb dL_law_1297 ?_
      refine xl_i (y := nI (i + 4)) (nI_add i 4) ?_
      refine va_sld hx hb hX hbl hbA hS (x_si (k := 4) (by decide) hi hL) dL_law_1298 ?_
      refine xl_i (y := xs (i + 4)) (congrArg xs (x_sc (k := 4) (by decide) hi hL)) ?_
      refine lv_aload_n hx hb dL_law_1299 rfl (lv_at hl 3 rfl) ?_
      refine lv_iload_n hx hb dL_law_1300 rfl (lv_at hl 0 rfl) ?_
      refine lv_iconst (v := 5) hx hb dL_law_1301 (by decide) ?_
      refine lv_iadd hx hb dL_law_1302 ?_
      refine xl_i (y := nI (i + 5)) (nI_add i 5) ?_
      refine va_sld hx hb hX hbl hbA hS (x_si (k := 5) (by decide) hi hL) dL_law_1303 ?_
      refine xl_i (y := xs (i + 5)) (congrArg xs (x_sc (k := 5) (by decide) hi hL)) ?_
      refine xc_ViT (wr := [(qz, .inl (cS, 4, .inr (.inr (.inr (.inr (xSh s0 s1 s2 s3)))))), (s0, .inr (4, [.int bt0, .int (nI (sz0)), .ref sn0])), (s1, .inr (4, [.int bt1, .int (nI (sz1)), .ref sn1])), (s2, .inr (4, [.int bt2, .int (nI (sz2)), .ref sn2])), (s3, .inr (4, [.int bt3, .int (nI (sz3)), .ref sn3])), (sn0, .inl (cJ, 40, .inr (.inl nu0))), (sn1, .inl (cJ, 40, .inr (.inl nu1))), (sn2, .inl (cJ, 40, .inr (.inl nu2))), (sn3, .inl (cJ, 40, .inr (.inl nu3))), (g0, .inr (9, [.ref m_ys, .ref m_yk, .ref m_yo, .ref m_yt, .int b0, .ref m_yfa, .ref m_yfe, .int m_mL, .int m_mS, .int m_mM, .ref m_yro, .ref m_yhe, .ref m_ygr, .int m_mF, .int m_mC, .int m_mY, .ref m_yta, .int (nI (z)), .int (nI (m_mf)), .int (nI (m_mt)), .int m_mv, .int m_mw, .ref m_ywa, .ref m_ybi, .ref m_ysi, .ref m_ynu, .ref m_ymo])), (m_yt, .inl (cI, 7, .inl m_mq)), (m_ybi, .inl (cI, 4, .inl m_bi)), (m_ysi, .inl (cI, 4, .inl m_sq)), (m_ynu, .inl (cJ, 160, .inr (.inl m_nb))), (m_ymo, .inl (cJ, 40, .inr (.inl m_mv9)))]) hF (c_X8_copy_1o l D cI cJ cZ cS ta sa sv H.size h0 qh qk qd b0 qa qm qs qp ql qt qz qf ff (xs (i + 2)) (xs (i + 3)) (xs (i + 4)) (xs (i + 5)) oq3) kv_L_166 ⟨rfl, rfl, Nat.le_of_ble_eq_true rfl, Nat.le_of_ble_eq_true rfl⟩ ⟨Nat.le_of_ble_eq_true rfl, Nat.le_of_ble_eq_true rfl⟩ hK hN hZ hP hD hS hA [0, 10] [1, 2, 3, 4, 5, 6, 7, 8, 9, 11, 12, 13, 14, 15, 16] rfl rfl rfl (by decide +kernel) (by decide +kernel) 0 rfl rfl rfl rfl hl.1 rfl (Nat.le_of_ble_eq_true rfl) dL_law_1304 (fun r_65 u_r_65 H locs hw_r_65 hP hD hS => ?_)
      obtain ⟨f2_66, rfl⟩ : ∃ z, z = u_r_65 := ⟨_, rfl⟩
      try dsimp only at hw_r_65
      have hP : va_P D vwCl (@HAppend.hAppend va_W va_W va_W _ [(qz, .inl (cS, 4, .inr (.inr (.inr (.inr (xSh s0 s1 s2 s3)))))), (s0, .inr (4, [.int bt0, .int (nI (sz0)), .ref sn0])), (s1, .inr (4, [.int bt1, .int (nI (sz1)), .ref sn1])), (s2, .inr (4, [.int bt2, .int (nI (sz2)), .ref sn2])), (s3, .inr (4, [.int bt3, .int (nI (sz3)), .ref sn3])), (sn0, .inl (cJ, 40, .inr (.inl nu0))), (sn1, .inl (cJ, 40, .inr (.inl nu1))), (sn2, .inl (cJ, 40, .inr (.inl nu2))), (sn3, .inl (cJ, 40, .inr (.inl nu3))), (g0, .inr (9, [.ref m_ys, .ref m_yk, .ref m_yo, .ref m_yt, .int b0, .ref m_yfa, .ref m_yfe, .int m_mL, .int m_mS, .int m_mM, .ref m_yro, .ref m_yhe, .ref m_ygr, .int m_mF, .int m_mC, .int m_mY, .ref m_yta, .int (nI (z)), .int (nI (m_mf)), .int (nI (m_mt)), .int m_mv, .int m_mw, .ref m_ywa, .ref m_ybi, .ref m_ysi, .ref m_ynu, .ref m_ymo])), (m_yt, .inl (cI, 7, .inl m_mq)), (m_ybi, .inl (cI, 4, .inl m_bi)), (m_ysi, .inl (cI, 4, .inl m_sq)), (m_ynu, .inl (cJ, 160, .inr (.inl m_nb))), (m_ymo, .inl (cJ, 40, .inr (.inl m_mv9))), (h0, .inr (8, [.ref qh, .ref qk, .ref qd, .int b0, .ref qa, .ref qm, .ref qs, .ref qp, .ref ql, .ref qt, .ref qz, .ref qf])), (qf, .inl (cI, 7, .inl f2_66))] tl) H := hP
      have hD : va_D A (@HAppend.hAppend va_W va_W va_W _ [(qz, .inl (cS, 4, .inr (.inr (.inr (.inr (xSh s0 s1 s2 s3)))))), (s0, .inr (4, [.int bt0, .int (nI (sz0)), .ref sn0])), (s1, .inr (4, [.int bt1, .int (nI (sz1)), .ref sn1])), (s2, .inr (4, [.int bt2, .int (nI (sz2)), .ref sn2])), (s3, .inr (4, [.int bt3, .int (nI (sz3)), .ref sn3])), (sn0, .inl (cJ, 40, .inr (.inl nu0))), (sn1, .inl (cJ, 40, .inr (.inl nu1))), (sn2, .inl (cJ, 40, .inr (.inl nu2))), (sn3, .inl (cJ, 40, .inr (.inl nu3))), (g0, .inr (9, [.ref m_ys, .ref m_yk, .ref m_yo, .ref m_yt, .int b0, .ref m_yfa, .ref m_yfe, .int m_mL, .int m_mS, .int m_mM, .ref m_yro, .ref m_yhe, .ref m_ygr, .int m_mF, .int m_mC, .int m_mY, .ref m_yta, .int (nI (z)), .int (nI (m_mf)), .int (nI (m_mt)), .int m_mv, .int m_mw, .ref m_ywa, .ref m_ybi, .ref m_ysi, .ref m_ynu, .ref m_ymo])), (m_yt, .inl (cI, 7, .inl m_mq)), (m_ybi, .inl (cI, 4, .inl m_bi)), (m_ysi, .inl (cI, 4, .inl m_sq)), (m_ynu, .inl (cJ, 160, .inr (.inl m_nb))), (m_ymo, .inl (cJ, 40, .inr (.inl m_mv9))), (h0, .inr (8, [.ref qh, .ref qk, .ref qd, .int b0, .ref qa, .ref qm, .ref qs, .ref qp, .ref ql, .ref qt, .ref qz, .ref qf])), (qf, .inl (cI, 7, .inl f2_66))] tl) := hD
      subst hw_r_65
      refine lv_pop hx hb dL_law_1307 rfl ?_
      refine lv_aload_n hx hb dL_law_1308 rfl (lv_at hl 1 rfl) ?_
      refine lv_aload_n hx hb dL_law_1309 rfl (lv_at hl 3 rfl) ?_
      refine lv_iload_n hx hb dL_law_1310 rfl (lv_at hl 0 rfl) ?_
      refine lv_iconst (v := 1) hx hb dL_law_1311 (by decide) ?_
      refine lv_iadd hx hb dL_law_1312 ?_
      refine xl_i (y := nI (i + 1)) (nI_add i 1) ?_
      refine va_sld hx hb hX hbl hbA hS (x_si (k := 1) (by decide) hi hL) dL_law_1313 ?_
      refine xl_i (y := xs (i + 1)) (congrArg xs (x_sc (k := 1) (by decide) hi hL)) ?_
      refine xl_i (y := 1) eq1 ?_
      refine lv_aload_n hx hb dL_law_1314 rfl (lv_at hl 3 rfl) ?_
      refine lv_iload_n hx hb dL_law_1315 rfl (lv_at hl 0 rfl) ?_
      refine lv_iconst (v := 2) hx hb dL_law_1316 (by decide) ?_
      refine lv_iadd hx hb dL_law_1317 ?_
      refine xl_i (y := nI (i + 2)) (nI_add i 2) ?_
      refine va_sld hx hb hX hbl hbA hS (x_si (k := 2) (by decide) hi hL) dL_law_1318 ?_
      refine xl_i (y := xs (i + 2)) (congrArg xs (x_sc (k := 2) (by decide) hi hL)) ?_
      refine lv_aload_n hx hb dL_law_1319 rfl (lv_at hl 3 rfl) ?_
      refine lv_iload_n hx hb dL_law_1320 rfl (lv_at hl 0 rfl) ?_
      refine lv_iconst (v := 3) hx hb dL_law_1321 (by decide) ?_
      refine lv_iadd hx hb dL_law_1322 ?_
      refine xl_i (y := nI (i + 3)) (nI_add i 3) ?_
      refine va_sld hx hb hX hbl hbA hS (x_si (k := 3) (by decide) hi hL) dL_law_1323 ?_
      refine xl_i (y := xs (i + 3)) (congrArg xs (x_sc (k := 3) (by decide) hi hL)) ?_
      refine lv_aload_n hx hb dL_law_1324 rfl (lv_at hl 3 rfl) ?_
      refine lv_iload_n hx hb dL_law_1325 rfl (lv_at hl 0 rfl) ?_
      refine lv_iconst (v := 4) hx hb dL_law_1326 (by decide) ?_
      refine lv_iadd hx hb dL_law_1327 ?_
      refine xl_i (y := nI (i + 4)) (nI_add i 4) ?_
      refine va_sld hx hb hX hbl hbA hS (x_si (k := 4) (by decide) hi hL) dL_law_1328 ?_
      refine xl_i (y := xs (i + 4)) (congrArg xs (x_sc (k := 4) (by decide) hi hL)) ?_
      refine lv_aload_n hx hb dL_law_1329 rfl (lv_at hl 3 rfl) ?_
      refine lv_iload_n hx hb dL_law_1330 rfl (lv_at hl 0 rfl) ?_
      refine lv_iconst (v := 5) hx hb dL_law_1331 (by decide) ?_
      refine lv_iadd hx hb dL_law_1332 ?_
      refine xl_i (y := nI (i + 5)) (nI_add i 5) ?_
      refine va_sld hx hb hX hbl hbA hS (x_si (k := 5) (by decide) hi hL) dL_law_1333 ?_
      refine xl_i (y := xs (i + 5)) (congrArg xs (x_sc (k := 5) (by decide) hi hL)) ?_
      refine xc_ViT (wr := [(qz, .inl (cS, 4, .inr (.inr (.inr (.inr (xSh s0 s1 s2 s3)))))), (s0, .inr (4, [.int bt0, .int (nI (sz0)), .ref sn0])), (s1, .inr (4, [.int bt1, .int (nI (sz1)), .ref sn1])), (s2, .inr (4, [.int bt2, .int (nI (sz2)), .ref sn2])), (s3, .inr (4, [.int bt3, .int (nI (sz3)), .ref sn3])), (sn0, .inl (cJ, 40, .inr (.inl nu0))), (sn1, .inl (cJ, 40, .inr (.inl nu1))), (sn2, .inl (cJ, 40, .inr (.inl nu2))), (sn3, .inl (cJ, 40, .inr (.inl nu3))), (m_ybi, .inl (cI, 4, .inl m_bi)), (m_ysi, .inl (cI, 4, .inl m_sq)), (m_ynu, .inl (cJ, 160, .inr (.inl m_nb))), (m_ymo, .inl (cJ, 40, .inr (.inl m_mv9))), (h0, .inr (8, [.ref qh, .ref qk, .ref qd, .int b0, .ref qa, .ref qm, .ref qs, .ref qp, .ref ql, .ref qt, .ref qz, .ref qf])), (qf, .inl (cI, 7, .inl f2_66))]) hF (c_X9_copy_1o l D cI cJ cZ cS ta sa sv H.size g0 m_ys m_yk m_yo m_yt b0 m_yfa m_yfe m_mL m_mS m_mM m_yro m_yhe m_ygr m_mF m_mC m_mY m_yta z m_mf m_mt m_mv m_mw m_ywa m_ybi m_ysi m_ynu m_ymo m_mq (xs (i + 2)) (xs (i + 3)) (xs (i + 4)) (xs (i + 5)) oq3) kv_L_170 ⟨rfl, rfl, Nat.le_of_ble_eq_true rfl, Nat.le_of_ble_eq_true rfl⟩ ⟨Nat.le_of_ble_eq_true rfl, Nat.le_of_ble_eq_true rfl⟩ hK hN hZ hP hD hS hA [9, 10] [0, 1, 2, 3, 4, 5, 6, 7, 8, 11, 12, 13, 14, 15, 16] rfl rfl rfl (by decide +kernel) (by decide +kernel) 0 rfl rfl rfl rfl hl.1 rfl (Nat.le_of_ble_eq_true rfl) dL_law_1334 (fun r_67 u_r_67 H locs hw_r_67 hP hD hS => ?_)
      obtain ⟨mq2_68, rfl⟩ : ∃ z, z = u_r_67 := ⟨_, rfl⟩
      try dsimp only at hw_r_67
      have hP : va_P D vwCl (@HAppend.hAppend va_W va_W va_W _ [(qz, .inl (cS, 4, .inr (.inr (.inr (.inr (xSh s0 s1 s2 s3)))))), (s0, .inr (4, [.int bt0, .int (nI (sz0)), .ref sn0])), (s1, .inr (4, [.int bt1, .int (nI (sz1)), .ref sn1])), (s2, .inr (4, [.int bt2, .int (nI (sz2)), .ref sn2])), (s3, .inr (4, [.int bt3, .int (nI (sz3)), .ref sn3])), (sn0, .inl (cJ, 40, .inr (.inl nu0))), (sn1, .inl (cJ, 40, .inr (.inl nu1))), (sn2, .inl (cJ, 40, .inr (.inl nu2))), (sn3, .inl (cJ, 40, .inr (.inl nu3))), (m_ybi, .inl (cI, 4, .inl m_bi)), (m_ysi, .inl (cI, 4, .inl m_sq)), (m_ynu, .inl (cJ, 160, .inr (.inl m_nb))), (m_ymo, .inl (cJ, 40, .inr (.inl m_mv9))), (h0, .inr (8, [.ref qh, .ref qk, .ref qd, .int b0, .ref qa, .ref qm, .ref qs, .ref qp, .ref ql, .ref qt, .ref qz, .ref qf])), (qf, .inl (cI, 7, .inl f2_66)), (g0, .inr (9, [.ref m_ys, .ref m_yk, .ref m_yo, .ref m_yt, .int b0, .ref m_yfa, .ref m_yfe, .int m_mL, .int m_mS, .int m_mM, .ref m_yro, .ref m_yhe, .ref m_ygr, .int m_mF, .int m_mC, .int m_mY, .ref m_yta, .int (nI (z)), .int (nI (m_mf)), .int (nI (m_mt)), .int m_mv, .int m_mw, .ref m_ywa, .ref m_ybi, .ref m_ysi, .ref m_ynu, .ref m_ymo])), (m_yt, .inl (cI, 7, .inl mq2_68))] tl) H := hP
      have hD : va_D A (@HAppend.hAppend va_W va_W va_W _ [(qz, .inl (cS, 4, .inr (.inr (.inr (.inr (xSh s0 s1 s2 s3)))))), (s0, .inr (4, [.int bt0, .int (nI (sz0)), .ref sn0])), (s1, .inr (4, [.int bt1, .int (nI (sz1)), .ref sn1])), (s2, .inr (4, [.int bt2, .int (nI (sz2)), .ref sn2])), (s3, .inr (4, [.int bt3, .int (nI (sz3)), .ref sn3])), (sn0, .inl (cJ, 40, .inr (.inl nu0))), (sn1, .inl (cJ, 40, .inr (.inl nu1))), (sn2, .inl (cJ, 40, .inr (.inl nu2))), (sn3, .inl (cJ, 40, .inr (.inl nu3))), (m_ybi, .inl (cI, 4, .inl m_bi)), (m_ysi, .inl (cI, 4, .inl m_sq)), (m_ynu, .inl (cJ, 160, .inr (.inl m_nb))), (m_ymo, .inl (cJ, 40, .inr (.inl m_mv9))), (h0, .inr (8, [.ref qh, .ref qk, .ref qd, .int b0, .ref qa, .ref qm, .ref qs, .ref qp, .ref ql, .ref qt, .ref qz, .ref qf])), (qf, .inl (cI, 7, .inl f2_66)), (g0, .inr (9, [.ref m_ys, .ref m_yk, .ref m_yo, .ref m_yt, .int b0, .ref m_yfa, .ref m_yfe, .int m_mL, .int m_mS, .int m_mM, .ref m_yro, .ref m_yhe, .ref m_ygr, .int m_mF, .int m_mC, .int m_mY, .ref m_yta, .int (nI (z)), .int (nI (m_mf)), .int (nI (m_mt)), .int m_mv, .int m_mw, .ref m_ywa, .ref m_ybi, .ref m_ysi, .ref m_ynu, .ref m_ymo])), (m_yt, .inl (cI, 7, .inl mq2_68))] tl) := hD
      subst hw_r_67
      refine lv_pop hx hb dL_law_1337 rfl ?_
      refine lv_goto (tgt := 1482) hx hb dL_law_1338 (by decide) ?_
      exact kkx _ _ _ nu0 nu1 nu2 nu3 f2_66 mq2_68 m_nb m_mv9 (xt_P hP [13, 0, 1, 2, 3, 4, 5, 6, 7, 8, 14, 15, 16, 9, 10, 11, 12] rfl) (xt_D hD [13, 0, 1, 2, 3, 4, 5, 6, 7, 8, 14, 15, 16, 9, 10, 11, 12] (by decide +kernel) rfl) r_n0 r_n1 r_n2 r_n3 hS hl
    · skip
      refine lv_aload_n hx hb dL_law_1279 rfl (lv_at hl 3 rfl) ?_
      refine lv_iload_n hx hb dL_law_1280 rfl (lv_at hl 0 rfl) ?_
      refine lv_iconst (v := 1) hx hb dL_law_1281 (by decide) ?_
      refine lv_iadd hx hb dL_law_1282 ?_
      refine xl_i (y := nI (i + 1)) (nI_add i 1) ?_
      refine va_sld hx hb hX hbl hbA hS (x_si (k := 1) (by decide) hi hL) dL_law_1283 ?_
      refine xl_i (y := xs (i + 1)) (congrArg xs (x_sc (k := 1) (by decide) hi hL)) ?_
      refine xl_i (y := 1) eq1 ?_
      refine lv_aload_n hx hb dL_law_1284 rfl (lv_at hl 3 rfl) ?_
      refine lv_iload_n hx hb dL_law_1285 rfl (lv_at hl 0 rfl) ?_
      refine lv_iconst (v := 2) hx hb dL_law_1286 (by decide) ?_
      refine lv_iadd hx hb dL_law_1287 ?_
      refine xl_i (y := nI (i + 2)) (nI_add i 2) ?_
      refine va_sld hx hb hX hbl hbA hS (x_si (k := 2) (by decide) hi hL) dL_law_1288 ?_
      refine xl_i (y := xs (i + 2)) (congrArg xs (x_sc (k := 2) (by decide) hi hL)) ?_
      refine lv_aload_n hx hb dL_law_1289 rfl (lv_at hl 3 rfl) ?_
      refine lv_iload_n hx hb dL_law_1290 rfl (lv_at hl 0 rfl) ?_
      refine lv_iconst (v := 3) hx hb dL_law_1291 (by decide) ?_
      refine lv_iadd hx hb dL_law_1292 ?_
      refine xl_i (y := nI (i + 3)) (nI_add i 3) ?_
      refine va_sld hx hb hX hbl hbA hS (x_si (k := 3) (by decide) hi hL) dL_law_1293 ?_
      refine xl_i (y := xs (i + 3)) (congrArg xs (x_sc (k := 3) (by decide) hi hL)) ?_
      refine xl_i (y := 0) eq3 ?_
      refine lv_aload_n hx hb dL_law_1294 rfl (lv_at hl 3 rfl) ?_
      refine lv_iload_n hx hb dL_law_1295 rfl (lv_at hl 0 rfl) ?_
      refine lv_iconst (v := 4) hx hb dL_law_1296 (by decide) ?_
      refine lv_iadd hx hb dL_law_1297 ?_
      refine xl_i (y := nI (i + 4)) (nI_add i 4) ?_
      refine va_sld hx hb hX hbl hbA hS (x_si (k := 4) (by decide) hi hL) dL_law_1298 ?_
      refine xl_i (y := xs (i + 4)) (congrArg xs (x_sc (k := 4) (by decide) hi hL)) ?_
      refine lv_aload_n hx hb dL_law_1299 rfl (lv_at hl 3 rfl) ?_
      refine lv_iload_n hx hb dL_law_1300 rfl (lv_at hl 0 rfl) ?_
      refine lv_iconst (v := 5) hx hb dL_law_1301 (by decide) ?_
      refine lv_iadd hx hb dL_law_1302 ?_
      refine xl_i (y := nI (i + 5)) (nI_add i 5) ?_
      refine va_sld hx hb hX hbl hbA hS (x_si (k := 5) (by decide) hi hL) dL_law_1303 ?_
      refine xl_i (y := xs (i + 5)) (congrArg xs (x_sc (k := 5) (by decide) hi hL)) ?_
      refine xc_ViT (wr := [(g0, .inr (9, [.ref m_ys, .ref m_yk, .ref m_yo, .ref m_yt, .int b0, .ref m_yfa, .ref m_yfe, .int m_mL, .int m_mS, .int m_mM, .ref m_yro, .ref m_yhe, .ref m_ygr, .int m_mF, .int m_mC, .int m_mY, .ref m_yta, .int (nI (z)), .int (nI (m_mf)), .int (nI (m_mt)), .int m_mv, .int m_mw, .ref m_ywa, .ref m_ybi, .ref m_ysi, .ref m_ynu, .ref m_ymo])), (m_yt, .inl (cI, 7, .inl m_mq)), (m_ybi, .inl (cI, 4, .inl m_bi)), (m_ysi, .inl (cI, 4, .inl m_sq)), (m_ynu, .inl (cJ, 160, .inr (.inl m_nb))), (m_ymo, .inl (cJ, 40, .inr (.inl m_mv9)))]) hF (c_X8_copy_10 l D cI cJ cZ cS ta sa sv H.size h0 qh qk qd b0 qa qm qs qp ql qt qz qf s0 s1 s2 s3 bt0 sz0 sn0 bt1 sz1 sn1 bt2 sz2 sn2 bt3 sz3 sn3 nu0 nu1 nu2 nu3 ff (xs (i + 2)) (xs (i + 4)) (xs (i + 5)) hsz0 hsz1 hsz2 hsz3) kv_L_166 ⟨rfl, rfl, Nat.le_of_ble_eq_true rfl, Nat.le_of_ble_eq_true rfl⟩ ⟨Nat.le_of_ble_eq_true rfl, Nat.le_of_ble_eq_true rfl⟩ hK hN hZ hP hD hS hA [0, 1, 2, 3, 4, 5, 6, 7, 8, 9, 10] [11, 12, 13, 14, 15, 16] rfl rfl (by decide +kernel) (by decide +kernel) (by decide +kernel) 0 rfl rfl rfl rfl hl.1 rfl (Nat.le_of_ble_eq_true rfl) dL_law_1304 (fun r_69 u_r_69 H locs hw_r_69 hP hD hS => ?_)
      obtain ⟨nv_70, f2_71⟩ := u_r_69
      try dsimp only at hw_r_69
      obtain ⟨hw_r_69, i_72⟩ := hw_r_69
      have hP : va_P D vwCl (@HAppend.hAppend va_W va_W va_W _ [(g0, .inr (9, [.ref m_ys, .ref m_yk, .ref m_yo, .ref m_yt, .int b0, .ref m_yfa, .ref m_yfe, .int m_mL, .int m_mS, .int m_mM, .ref m_yro, .ref m_yhe, .ref m_ygr, .int m_mF, .int m_mC, .int m_mY, .ref m_yta, .int (nI (z)), .int (nI (m_mf)), .int (nI (m_mt)), .int m_mv, .int m_mw, .ref m_ywa, .ref m_ybi, .ref m_ysi, .ref m_ynu, .ref m_ymo])), (m_yt, .inl (cI, 7, .inl m_mq)), (m_ybi, .inl (cI, 4, .inl m_bi)), (m_ysi, .inl (cI, 4, .inl m_sq)), (m_ynu, .inl (cJ, 160, .inr (.inl m_nb))), (m_ymo, .inl (cJ, 40, .inr (.inl m_mv9))), (h0, .inr (8, [.ref qh, .ref qk, .ref qd, .int b0, .ref qa, .ref qm, .ref qs, .ref qp, .ref ql, .ref qt, .ref qz, .ref qf])), (qz, .inl (cS, 4, .inr (.inr (.inr (.inr (xSh s0 s1 s2 s3)))))), (s0, .inr (4, [.int bt0, .int (nI (sz0)), .ref sn0])), (s1, .inr (4, [.int bt1, .int (nI (sz1)), .ref sn1])), (s2, .inr (4, [.int bt2, .int (nI (sz2)), .ref sn2])), (s3, .inr (4, [.int bt3, .int (nI (sz3)), .ref sn3])), (sn0, .inl (cJ, 40, .inr (.inl nv_70))), (sn1, .inl (cJ, 40, .inr (.inl nu1))), (sn2, .inl (cJ, 40, .inr (.inl nu2))), (sn3, .inl (cJ, 40, .inr (.inl nu3))), (qf, .inl (cI, 7, .inl f2_71))] tl) H := hP
      have hD : va_D A (@HAppend.hAppend va_W va_W va_W _ [(g0, .inr (9, [.ref m_ys, .ref m_yk, .ref m_yo, .ref m_yt, .int b0, .ref m_yfa, .ref m_yfe, .int m_mL, .int m_mS, .int m_mM, .ref m_yro, .ref m_yhe, .ref m_ygr, .int m_mF, .int m_mC, .int m_mY, .ref m_yta, .int (nI (z)), .int (nI (m_mf)), .int (nI (m_mt)), .int m_mv, .int m_mw, .ref m_ywa, .ref m_ybi, .ref m_ysi, .ref m_ynu, .ref m_ymo])), (m_yt, .inl (cI, 7, .inl m_mq)), (m_ybi, .inl (cI, 4, .inl m_bi)), (m_ysi, .inl (cI, 4, .inl m_sq)), (m_ynu, .inl (cJ, 160, .inr (.inl m_nb))), (m_ymo, .inl (cJ, 40, .inr (.inl m_mv9))), (h0, .inr (8, [.ref qh, .ref qk, .ref qd, .int b0, .ref qa, .ref qm, .ref qs, .ref qp, .ref ql, .ref qt, .ref qz, .ref qf])), (qz, .inl (cS, 4, .inr (.inr (.inr (.inr (xSh s0 s1 s2 s3)))))), (s0, .inr (4, [.int bt0, .int (nI (sz0)), .ref sn0])), (s1, .inr (4, [.int bt1, .int (nI (sz1)), .ref sn1])), (s2, .inr (4, [.int bt2, .int (nI (sz2)), .ref sn2])), (s3, .inr (4, [.int bt3, .int (nI (sz3)), .ref sn3])), (sn0, .inl (cJ, 40, .inr (.inl nv_70))), (sn1, .inl (cJ, 40, .inr (.inl nu1))), (sn2, .inl (cJ, 40, .inr (.inl nu2))), (sn3, .inl (cJ, 40, .inr (.inl nu3))), (qf, .inl (cI, 7, .inl f2_71))] tl) := hD
      subst hw_r_69
      refine lv_pop hx hb dL_law_1307 rfl ?_
      refine lv_aload_n hx hb dL_law_1308 rfl (lv_at hl 1 rfl) ?_
      refine lv_aload_n hx hb dL_law_1309 rfl (lv_at hl 3 rfl) ?_
      refine lv_iload_n hx hb dL_law_1310 rfl (lv_at hl 0 rfl) ?_
      refine lv_iconst (v := 1) hx hb dL_law_1311 (by decide) ?_
      refine lv_iadd hx hb dL_law_1312 ?_
      refine xl_i (y := nI (i + 1)) (nI_add i 1) ?_
      refine va_sld hx hb hX hbl hbA hS (x_si (k := 1) (by decide) hi hL) dL_law_1313 ?_
      refine xl_i (y := xs (i + 1)) (congrArg xs (x_sc (k := 1) (by decide) hi hL)) ?_
      refine xl_i (y := 1) eq1 ?_
      refine lv_aload_n hx hb dL_law_1314 rfl (lv_at hl 3 rfl) ?_
      refine lv_iload_n hx hb dL_law_1315 rfl (lv_at hl 0 rfl) ?_
      refine lv_iconst (v := 2) hx hb dL_law_1316 (by decide) ?_
      refine lv_iadd hx hb dL_law_1317 ?_
      refine xl_i (y := nI (i + 2)) (nI_add i 2) ?_
      refine va_sld hx hb hX hbl hbA hS (x_si (k := 2) (by decide) hi hL) dL_law_1318 ?_
      refine xl_i (y := xs (i + 2)) (congrArg xs (x_sc (k := 2) (by decide) hi hL)) ?_
      refine lv_aload_n hx hb dL_law_1319 rfl (lv_at hl 3 rfl) ?_
      refine lv_iload_n hx hb dL_law_1320 rfl (lv_at hl 0 rfl) ?_
      refine lv_iconst (v := 3) hx hb dL_law_1321 (by decide) ?_
      refine lv_iadd hx hb dL_law_1322 ?_
      refine xl_i (y := nI (i + 3)) (nI_add i 3) ?_
      refine va_sld hx hb hX hbl hbA hS (x_si (k := 3) (by decide) hi hL) dL_law_1323 ?_
      refine xl_i (y := xs (i + 3)) (congrArg xs (x_sc (k := 3) (by decide) hi hL)) ?_
      refine xl_i (y := 0) eq3 ?_
      refine lv_aload_n hx hb dL_law_1324 rfl (lv_at hl 3 rfl) ?_
      refine lv_iload_n hx hb dL_law_1325 rfl (lv_at hl 0 rfl) ?_
      refine lv_iconst (v := 4) hx hb dL_law_1326 (by decide) ?_
      refine lv_iadd hx hb dL_law_1327 ?_
      refine xl_i (y := nI (i + 4)) (nI_add i 4) ?_
      refine va_sld hx hb hX hbl hbA hS (x_si (k := 4) (by decide) hi hL) dL_law_1328 ?_
      refine xl_i (y := xs (i + 4)) (congrArg xs (x_sc (k := 4) (by decide) hi hL)) ?_
      refine lv_aload_n hx hb dL_law_1329 rfl (lv_at hl 3 rfl) ?_
      refine lv_iload_n hx hb dL_law_1330 rfl (lv_at hl 0 rfl) ?_
      refine lv_iconst (v := 5) hx hb dL_law_1331 (by decide) ?_
      refine lv_iadd hx hb dL_law_1332 ?_
      refine xl_i (y := nI (i + 5)) (nI_add i 5) ?_
      refine va_sld hx hb hX hbl hbA hS (x_si (k := 5) (by decide) hi hL) dL_law_1333 ?_
      refine xl_i (y := xs (i + 5)) (congrArg xs (x_sc (k := 5) (by decide) hi hL)) ?_
      refine xc_ViT (wr := [(h0, .inr (8, [.ref qh, .ref qk, .ref qd, .int b0, .ref qa, .ref qm, .ref qs, .ref qp, .ref ql, .ref qt, .ref qz, .ref qf])), (qz, .inl (cS, 4, .inr (.inr (.inr (.inr (xSh s0 s1 s2 s3)))))), (s0, .inr (4, [.int bt0, .int (nI (sz0)), .ref sn0])), (s1, .inr (4, [.int bt1, .int (nI (sz1)), .ref sn1])), (s2, .inr (4, [.int bt2, .int (nI (sz2)), .ref sn2])), (s3, .inr (4, [.int bt3, .int (nI (sz3)), .ref sn3])), (sn0, .inl (cJ, 40, .inr (.inl nv_70))), (sn1, .inl (cJ, 40, .inr (.inl nu1))), (sn2, .inl (cJ, 40, .inr (.inl nu2))), (sn3, .inl (cJ, 40, .inr (.inl nu3))), (qf, .inl (cI, 7, .inl f2_71))]) hF (c_X9_copy_10 l D cI cJ cZ cS ta sa sv H.size g0 m_ys m_yk m_yo m_yt b0 m_yfa m_yfe m_mL m_mS m_mM m_yro m_yhe m_ygr m_mF m_mC m_mY m_yta z m_mf m_mt m_mv m_mw m_ywa m_ybi m_ysi m_ynu m_ymo m_bi m_sq m_nb m_mv9 m_mq (xs (i + 2)) (xs (i + 4)) (xs (i + 5)) sz1 sz0 r_z1 hsz1 r_z0 hsz0 m_hsq) kv_L_170 ⟨rfl, rfl, Nat.le_of_ble_eq_true rfl, Nat.le_of_ble_eq_true rfl⟩ ⟨Nat.le_of_ble_eq_true rfl, Nat.le_of_ble_eq_true rfl⟩ hK hN hZ hP hD hS hA [0, 2, 3, 4, 5, 1] [6, 7, 8, 9, 10, 11, 12, 13, 14, 15, 16] rfl rfl (by decide +kernel) (by decide +kernel) (by decide +kernel) 0 rfl rfl rfl rfl hl.1 rfl (Nat.le_of_ble_eq_true rfl) dL_law_1334 (fun r_73 u_r_73 H locs hw_r_73 hP hD hS => ?_)
      obtain ⟨nb2_74, mv2_75, mq2_76⟩ := u_r_73
      try dsimp only at hw_r_73
      obtain ⟨hw_r_73, i_77, i_78⟩ := hw_r_73
      have hP : va_P D vwCl (@HAppend.hAppend va_W va_W va_W _ [(h0, .inr (8, [.ref qh, .ref qk, .ref qd, .int b0, .ref qa, .ref qm, .ref qs, .ref qp, .ref ql, .ref qt, .ref qz, .ref qf])), (qz, .inl (cS, 4, .inr (.inr (.inr (.inr (xSh s0 s1 s2 s3)))))), (s0, .inr (4, [.int bt0, .int (nI (sz0)), .ref sn0])), (s1, .inr (4, [.int bt1, .int (nI (sz1)), .ref sn1])), (s2, .inr (4, [.int bt2, .int (nI (sz2)), .ref sn2])), (s3, .inr (4, [.int bt3, .int (nI (sz3)), .ref sn3])), (sn0, .inl (cJ, 40, .inr (.inl nv_70))), (sn1, .inl (cJ, 40, .inr (.inl nu1))), (sn2, .inl (cJ, 40, .inr (.inl nu2))), (sn3, .inl (cJ, 40, .inr (.inl nu3))), (qf, .inl (cI, 7, .inl f2_71)), (g0, .inr (9, [.ref m_ys, .ref m_yk, .ref m_yo, .ref m_yt, .int b0, .ref m_yfa, .ref m_yfe, .int m_mL, .int m_mS, .int m_mM, .ref m_yro, .ref m_yhe, .ref m_ygr, .int m_mF, .int m_mC, .int m_mY, .ref m_yta, .int (nI (z)), .int (nI (m_mf)), .int (nI (m_mt)), .int m_mv, .int m_mw, .ref m_ywa, .ref m_ybi, .ref m_ysi, .ref m_ynu, .ref m_ymo])), (m_ybi, .inl (cI, 4, .inl m_bi)), (m_ysi, .inl (cI, 4, .inl m_sq)), (m_ynu, .inl (cJ, 160, .inr (.inl nb2_74))), (m_ymo, .inl (cJ, 40, .inr (.inl mv2_75))), (m_yt, .inl (cI, 7, .inl mq2_76))] tl) H := hP
      have hD : va_D A (@HAppend.hAppend va_W va_W va_W _ [(h0, .inr (8, [.ref qh, .ref qk, .ref qd, .int b0, .ref qa, .ref qm, .ref qs, .ref qp, .ref ql, .ref qt, .ref qz, .ref qf])), (qz, .inl (cS, 4, .inr (.inr (.inr (.inr (xSh s0 s1 s2 s3)))))), (s0, .inr (4, [.int bt0, .int (nI (sz0)), .ref sn0])), (s1, .inr (4, [.int bt1, .int (nI (sz1)), .ref sn1])), (s2, .inr (4, [.int bt2, .int (nI (sz2)), .ref sn2])), (s3, .inr (4, [.int bt3, .int (nI (sz3)), .ref sn3])), (sn0, .inl (cJ, 40, .inr (.inl nv_70))), (sn1, .inl (cJ, 40, .inr (.inl nu1))), (sn2, .inl (cJ, 40, .inr (.inl nu2))), (sn3, .inl (cJ, 40, .inr (.inl nu3))), (qf, .inl (cI, 7, .inl f2_71)), (g0, .inr (9, [.ref m_ys, .ref m_yk, .ref m_yo, .ref m_yt, .int b0, .ref m_yfa, .ref m_yfe, .int m_mL, .int m_mS, .int m_mM, .ref m_yro, .ref m_yhe, .ref m_ygr, .int m_mF, .int m_mC, .int m_mY, .ref m_yta, .int (nI (z)), .int (nI (m_mf)), .int (nI (m_mt)), .int m_mv, .int m_mw, .ref m_ywa, .ref m_ybi, .ref m_ysi, .ref m_ynu, .ref m_ymo])), (m_ybi, .inl (cI, 4, .inl m_bi)), (m_ysi, .inl (cI, 4, .inl m_sq)), (m_ynu, .inl (cJ, 160, .inr (.inl nb2_74))), (m_ymo, .inl (cJ, 40, .inr (.inl mv2_75))), (m_yt, .inl (cI, 7, .inl mq2_76))] tl) := hD
      subst hw_r_73
      refine lv_pop hx hb dL_law_1337 rfl ?_
      refine lv_goto (tgt := 1482) hx hb dL_law_1338 (by decide) ?_
      exact kkx _ _ _ nv_70 nu1 nu2 nu3 f2_71 mq2_76 nb2_74 mv2_75 (xt_P hP [0, 1, 2, 3, 4, 5, 6, 7, 8, 9, 10, 11, 16, 12, 13, 14, 15] rfl) (xt_D hD [0, 1, 2, 3, 4, 5, 6, 7, 8, 9, 10, 11, 16, 12, 13, 14, 15] (by decide +kernel) rfl) (fun j hj => (i_77 j).trans ((sp_cneq r_b1 r_b0 r_n1 (by omega) (r_n0 j hj)).trans (i_72 j).symm)) (fun j hj => (i_78 (40 + j) (by omega)).trans (r_n1 j hj)) (fun j hj => (i_78 (80 + j) (by omega)).trans (r_n2 j hj)) (fun j hj => (i_78 (120 + j) (by omega)).trans (r_n3 j hj)) hS hl
    · skip
      refine lv_aload_n hx hb dL_law_1279 rfl (lv_at hl 3 rfl) ?_
      refine lv_iload_n hx hb dL_law_1280 rfl (lv_at hl 0 rfl) ?_
      refine lv_iconst (v := 1) hx hb dL_law_1281 (by decide) ?_
      refine lv_iadd hx hb dL_law_1282 ?_
      refine xl_i (y := nI (i + 1)) (nI_add i 1) ?_
      refine va_sld hx hb hX hbl hbA hS (x_si (k := 1) (by decide) hi hL) dL_law_1283 ?_
      refine xl_i (y := xs (i + 1)) (congrArg xs (x_sc (k := 1) (by decide) hi hL)) ?_
      refine xl_i (y := 1) eq1 ?_
      refine lv_aload_n hx hb dL_law_1284 rfl (lv_at hl 3 rfl) ?_
      refine lv_iload_n hx hb dL_law_1285 rfl (lv_at hl 0 rfl) ?_
      refine lv_iconst (v := 2) hx hb dL_law_1286 (by decide) ?_
      refine lv_iadd hx hb dL_law_1287 ?_
      refine xl_i (y := nI (i + 2)) (nI_add i 2) ?_
      refine va_sld hx hb hX hbl hbA hS (x_si (k := 2) (by decide) hi hL) dL_law_1288 ?_
      refine xl_i (y := xs (i + 2)) (congrArg xs (x_sc (k := 2) (by decide) hi hL)) ?_
      refine lv_aload_n hx hb dL_law_1289 rfl (lv_at hl 3 rfl) ?_
      refine lv_iload_n hx hb dL_law_1290 rfl (lv_at hl 0 rfl) ?_
      refine lv_iconst (v := 3) hx hb dL_law_1291 (by decide) ?_
      refine lv_iadd hx hb dL_law_1292 ?_
      refine xl_i (y := nI (i + 3)) (nI_add i 3) ?_
      refine va_sld hx hb hX hbl hbA hS (x_si (k := 3) (by decide) hi hL) dL_law_1293 ?_
      refine xl_i (y := xs (i + 3)) (congrArg xs (x_sc (k := 3) (by decide) hi hL)) ?_
      refine xl_i (y := 1) eq3 ?_
      refine lv_aload_n hx hb dL_law_1294 rfl (lv_at hl 3 rfl) ?_
      refine lv_iload_n hx hb dL_law_1295 rfl (lv_at hl 0 rfl) ?_
      refine lv_iconst (v := 4) hx hb dL_law_1296 (by decide) ?_
      refine lv_iadd hx hb dL_law_1297 ?_
      refine xl_i (y := nI (i + 4)) (nI_add i 4) ?_
      refine va_sld hx hb hX hbl hbA hS (x_si (k := 4) (by decide) hi hL) dL_law_1298 ?_
      refine xl_i (y := xs (i + 4)) (congrArg xs (x_sc (k := 4) (by decide) hi hL)) ?_
      refine lv_aload_n hx hb dL_law_1299 rfl (lv_at hl 3 rfl) ?_
      refine lv_iload_n hx hb dL_law_1300 rfl (lv_at hl 0 rfl) ?_
      refine lv_iconst (v := 5) hx hb dL_law_1301 (by decide) ?_
      refine lv_iadd hx hb dL_law_1302 ?_
      refine xl_i (y := nI (i + 5)) (nI_add i 5) ?_
      refine va_sld hx hb hX hbl hbA hS (x_si (k := 5) (by decide) hi hL) dL_law_1303 ?_
      refine xl_i (y := xs (i + 5)) (congrArg xs (x_sc (k := 5) (by decide) hi hL)) ?_
      refine xc_ViT (wr := [(g0, .inr (9, [.ref m_ys, .ref m_yk, .ref m_yo, .ref m_yt, .int b0, .ref m_yfa, .ref m_yfe, .int m_mL, .int m_mS, .int m_mM, .ref m_yro, .ref m_yhe, .ref m_ygr, .int m_mF, .int m_mC, .int m_mY, .ref m_yta, .int (nI (z)), .int (nI (m_mf)), .int (nI (m_mt)), .int m_mv, .int m_mw, .ref m_ywa, .ref m_ybi, .ref m_ysi, .ref m_ynu, .ref m_ymo])), (m_yt, .inl (cI, 7, .inl m_mq)), (m_ybi, .inl (cI, 4, .inl m_bi)), (m_ysi, .inl (cI, 4, .inl m_sq)), (m_ynu, .inl (cJ, 160, .inr (.inl m_nb))), (m_ymo, .inl (cJ, 40, .inr (.inl m_mv9)))]) hF (c_X8_copy_11 l D cI cJ cZ cS ta sa sv H.size h0 qh qk qd b0 qa qm qs qp ql qt qz qf s0 s1 s2 s3 bt0 sz0 sn0 bt1 sz1 sn1 bt2 sz2 sn2 bt3 sz3 sn3 nu0 nu1 nu2 nu3 ff (xs (i + 2)) (xs (i + 4)) (xs (i + 5)) hsz0 hsz1 hsz2 hsz3) kv_L_166 ⟨rfl, rfl, Nat.le_of_ble_eq_true rfl, Nat.le_of_ble_eq_true rfl⟩ ⟨Nat.le_of_ble_eq_true rfl, Nat.le_of_ble_eq_true rfl⟩ hK hN hZ hP hD hS hA [0, 1, 2, 3, 4, 5, 6, 7, 8, 9, 10] [11, 12, 13, 14, 15, 16] rfl rfl (by decide +kernel) (by decide +kernel) (by decide +kernel) 0 rfl rfl rfl rfl hl.1 rfl (Nat.le_of_ble_eq_true rfl) dL_law_1304 (fun r_79 u_r_79 H locs hw_r_79 hP hD hS => ?_)
      obtain ⟨nv_80, f2_81⟩ := u_r_79
      try dsimp only at hw_r_79
      obtain ⟨hw_r_79, i_82⟩ := hw_r_79
      have hP : va_P D vwCl (@HAppend.hAppend va_W va_W va_W _ [(g0, .inr (9, [.ref m_ys, .ref m_yk, .ref m_yo, .ref m_yt, .int b0, .ref m_yfa, .ref m_yfe, .int m_mL, .int m_mS, .int m_mM, .ref m_yro, .ref m_yhe, .ref m_ygr, .int m_mF, .int m_mC, .int m_mY, .ref m_yta, .int (nI (z)), .int (nI (m_mf)), .int (nI (m_mt)), .int m_mv, .int m_mw, .ref m_ywa, .ref m_ybi, .ref m_ysi, .ref m_ynu, .ref m_ymo])), (m_yt, .inl (cI, 7, .inl m_mq)), (m_ybi, .inl (cI, 4, .inl m_bi)), (m_ysi, .inl (cI, 4, .inl m_sq)), (m_ynu, .inl (cJ, 160, .inr (.inl m_nb))), (m_ymo, .inl (cJ, 40, .inr (.inl m_mv9))), (h0, .inr (8, [.ref qh, .ref qk, .ref qd, .int b0, .ref qa, .ref qm, .ref qs, .ref qp, .ref ql, .ref qt, .ref qz, .ref qf])), (qz, .inl (cS, 4, .inr (.inr (.inr (.inr (xSh s0 s1 s2 s3)))))), (s0, .inr (4, [.int bt0, .int (nI (sz0)), .ref sn0])), (s1, .inr (4, [.int bt1, .int (nI (sz1)), .ref sn1])), (s2, .inr (4, [.int bt2, .int (nI (sz2)), .ref sn2])), (s3, .inr (4, [.int bt3, .int (nI (sz3)), .ref sn3])), (sn0, .inl (cJ, 40, .inr (.inl nu0))), (sn1, .inl (cJ, 40, .inr (.inl nv_80))), (sn2, .inl (cJ, 40, .inr (.inl nu2))), (sn3, .inl (cJ, 40, .inr (.inl nu3))), (qf, .inl (cI, 7, .inl f2_81))] tl) H := hP
      have hD : va_D A (@HAppend.hAppend va_W va_W va_W _ [(g0, .inr (9, [.ref m_ys, .ref m_yk, .ref m_yo, .ref m_yt, .int b0, .ref m_yfa, .ref m_yfe, .int m_mL, .int m_mS, .int m_mM, .ref m_yro, .ref m_yhe, .ref m_ygr, .int m_mF, .int m_mC, .int m_mY, .ref m_yta, .int (nI (z)), .int (nI (m_mf)), .int (nI (m_mt)), .int m_mv, .int m_mw, .ref m_ywa, .ref m_ybi, .ref m_ysi, .ref m_ynu, .ref m_ymo])), (m_yt, .inl (cI, 7, .inl m_mq)), (m_ybi, .inl (cI, 4, .inl m_bi)), (m_ysi, .inl (cI, 4, .inl m_sq)), (m_ynu, .inl (cJ, 160, .inr (.inl m_nb))), (m_ymo, .inl (cJ, 40, .inr (.inl m_mv9))), (h0, .inr (8, [.ref qh, .ref qk, .ref qd, .int b0, .ref qa, .ref qm, .ref qs, .ref qp, .ref ql, .ref qt, .ref qz, .ref qf])), (qz, .inl (cS, 4, .inr (.inr (.inr (.inr (xSh s0 s1 s2 s3)))))), (s0, .inr (4, [.int bt0, .int (nI (sz0)), .ref sn0])), (s1, .inr (4, [.int bt1, .int (nI (sz1)), .ref sn1])), (s2, .inr (4, [.int bt2, .int (nI (sz2)), .ref sn2])), (s3, .inr (4, [.int bt3, .int (nI (sz3)), .ref sn3])), (sn0, .inl (cJ, 40, .inr (.inl nu0))), (sn1, .inl (cJ, 40, .inr (.inl nv_80))), (sn2, .inl (cJ, 40, .inr (.inl nu2))), (sn3, .inl (cJ, 40, .inr (.inl nu3))), (qf, .inl (cI, 7, .inl f2_81))] tl) := hD
      subst hw_r_79
      refine lv_pop hx hb dL_law_1307 rfl ?_
      refine lv_aload_n hx hb dL_law_1308 rfl (lv_at hl 1 rfl) ?_
      refine lv_aload_n hx hb dL_law_1309 rfl (lv_at hl 3 rfl) ?_
      refine lv_iload_n hx hb dL_law_1310 rfl (lv_at hl 0 rfl) ?_
      refine lv_iconst (v := 1) hx hb dL_law_1311 (by decide) ?_
      refine lv_iadd hx hb dL_law_1312 ?_
      refine xl_i (y := nI (i + 1)) (nI_add i 1) ?_
      refine va_sld hx hb hX hbl hbA hS (x_si (k := 1) (by decide) hi hL) dL_law_1313 ?_
      refine xl_i (y := xs (i + 1)) (congrArg xs (x_sc (k := 1) (by decide) hi hL)) ?_
      refine xl_i (y := 1) eq1 ?_
      refine lv_aload_n hx hb dL_law_1314 rfl (lv_at hl 3 rfl) ?_
      refine lv_iload_n hx hb dL_law_1315 rfl (lv_at hl 0 rfl) ?_
      refine lv_iconst (v := 2) hx hb dL_law_1316 (by decide) ?_
      refine lv_iadd hx hb dL_law_1317 ?_
      refine xl_i (y := nI (i + 2)) (nI_add i 2) ?_
      refine va_sld hx hb hX hbl hbA hS (x_si (k := 2) (by decide) hi hL) dL_law_1318 ?_
      refine xl_i (y := xs (i + 2)) (congrArg xs (x_sc (k := 2) (by decide) hi hL)) ?_
      refine lv_aload_n hx hb dL_law_1319 rfl (lv_at hl 3 rfl) ?_
      refine lv_iload_n hx hb dL_law_1320 rfl (lv_at hl 0 rfl) ?_
      refine lv_iconst (v := 3) hx hb dL_law_1321 (by decide) ?_
      refine lv_iadd hx hb dL_law_1322 ?_
      refine xl_i (y := nI (i + 3)) (nI_add i 3) ?_
      refine va_sld hx hb hX hbl hbA hS (x_si (k := 3) (by decide) hi hL) dL_law_1323 ?_
      refine xl_i (y := xs (i + 3)) (congrArg xs (x_sc (k := 3) (by decide) hi hL)) ?_
      refine xl_i (y := 1) eq3 ?_
      refine lv_aload_n hx hb dL_law_1324 rfl (lv_at hl 3 rfl) ?_
      refine lv_iload_n hx hb dL_law_1325 rfl (lv_at hl 0 rfl) ?_
      refine lv_iconst (v := 4) hx hb dL_law_1326 (by decide) ?_
      refine lv_iadd hx hb dL_law_1327 ?_
      refine xl_i (y := nI (i + 4)) (nI_add i 4) ?_
      refine va_sld hx hb hX hbl hbA hS (x_si (k := 4) (by decide) hi hL) dL_law_1328 ?_
      refine xl_i (y := xs (i + 4)) (congrArg xs (x_sc (k := 4) (by decide) hi hL)) ?_
      refine lv_aload_n hx hb dL_law_1329 rfl (lv_at hl 3 rfl) ?_
      refine lv_iload_n hx hb dL_law_1330 rfl (lv_at hl 0 rfl) ?_
      refine lv_iconst (v := 5) hx hb dL_law_1331 (by decide) ?_
      refine lv_iadd hx hb dL_law_1332 ?_
      refine xl_i (y := nI (i + 5)) (nI_add i 5) ?_
      refine va_sld hx hb hX hbl hbA hS (x_si (k := 5) (by decide) hi hL) dL_law_1333 ?_
      refine xl_i (y := xs (i + 5)) (congrArg xs (x_sc (k := 5) (by decide) hi hL)) ?_
      refine xc_ViT (wr := [(h0, .inr (8, [.ref qh, .ref qk, .ref qd, .int b0, .ref qa, .ref qm, .ref qs, .ref qp, .ref ql, .ref qt, .ref qz, .ref qf])), (qz, .inl (cS, 4, .inr (.inr (.inr (.inr (xSh s0 s1 s2 s3)))))), (s0, .inr (4, [.int bt0, .int (nI (sz0)), .ref sn0])), (s1, .inr (4, [.int bt1, .int (nI (sz1)), .ref sn1])), (s2, .inr (4, [.int bt2, .int (nI (sz2)), .ref sn2])), (s3, .inr (4, [.int bt3, .int (nI (sz3)), .ref sn3])), (sn0, .inl (cJ, 40, .inr (.inl nu0))), (sn1, .inl (cJ, 40, .inr (.inl nv_80))), (sn2, .inl (cJ, 40, .inr (.inl nu2))), (sn3, .inl (cJ, 40, .inr (.inl nu3))), (qf, .inl (cI, 7, .inl f2_81))]) hF (c_X9_copy_11 l D cI cJ cZ cS ta sa sv H.size g0 m_ys m_yk m_yo m_yt b0 m_yfa m_yfe m_mL m_mS m_mM m_yro m_yhe m_ygr m_mF m_mC m_mY m_yta z m_mf m_mt m_mv m_mw m_ywa m_ybi m_ysi m_ynu m_ymo m_bi m_sq m_nb m_mv9 m_mq (xs (i + 2)) (xs (i + 4)) (xs (i + 5)) sz1 sz1 r_z1 hsz1 r_z1 hsz1 m_hsq) kv_L_170 ⟨rfl, rfl, Nat.le_of_ble_eq_true rfl, Nat.le_of_ble_eq_true rfl⟩ ⟨Nat.le_of_ble_eq_true rfl, Nat.le_of_ble_eq_true rfl⟩ hK hN hZ hP hD hS hA [0, 2, 3, 4, 5, 1] [6, 7, 8, 9, 10, 11, 12, 13, 14, 15, 16] rfl rfl (by decide +kernel) (by decide +kernel) (by decide +kernel) 0 rfl rfl rfl rfl hl.1 rfl (Nat.le_of_ble_eq_true rfl) dL_law_1334 (fun r_83 u_r_83 H locs hw_r_83 hP hD hS => ?_)
      obtain ⟨nb2_84, mv2_85, mq2_86⟩ := u_r_83
      try dsimp only at hw_r_83
      obtain ⟨hw_r_83, i_87, i_88⟩ := hw_r_83
      have hP : va_P D vwCl (@HAppend.hAppend va_W va_W va_W _ [(h0, .inr (8, [.ref qh, .ref qk, .ref qd, .int b0, .ref qa, .ref qm, .ref qs, .ref qp, .ref ql, .ref qt, .ref qz, .ref qf])), (qz, .inl (cS, 4, .inr (.inr (.inr (.inr (xSh s0 s1 s2 s3)))))), (s0, .inr (4, [.int bt0, .int (nI (sz0)), .ref sn0])), (s1, .inr (4, [.int bt1, .int (nI (sz1)), .ref sn1])), (s2, .inr (4, [.int bt2, .int (nI (sz2)), .ref sn2])), (s3, .inr (4, [.int bt3, .int (nI (sz3)), .ref sn3])), (sn0, .inl (cJ, 40, .inr (.inl nu0))), (sn1, .inl (cJ, 40, .inr (.inl nv_80))), (sn2, .inl (cJ, 40, .inr (.inl nu2))), (sn3, .inl (cJ, 40, .inr (.inl nu3))), (qf, .inl (cI, 7, .inl f2_81)), (g0, .inr (9, [.ref m_ys, .ref m_yk, .ref m_yo, .ref m_yt, .int b0, .ref m_yfa, .ref m_yfe, .int m_mL, .int m_mS, .int m_mM, .ref m_yro, .ref m_yhe, .ref m_ygr, .int m_mF, .int m_mC, .int m_mY, .ref m_yta, .int (nI (z)), .int (nI (m_mf)), .int (nI (m_mt)), .int m_mv, .int m_mw, .ref m_ywa, .ref m_ybi, .ref m_ysi, .ref m_ynu, .ref m_ymo])), (m_ybi, .inl (cI, 4, .inl m_bi)), (m_ysi, .inl (cI, 4, .inl m_sq)), (m_ynu, .inl (cJ, 160, .inr (.inl nb2_84))), (m_ymo, .inl (cJ, 40, .inr (.inl mv2_85))), (m_yt, .inl (cI, 7, .inl mq2_86))] tl) H := hP
      have hD : va_D A (@HAppend.hAppend va_W va_W va_W _ [(h0, .inr (8, [.ref qh, .ref qk, .ref qd, .int b0, .ref qa, .ref qm, .ref qs, .ref qp, .ref ql, .ref qt, .ref qz, .ref qf])), (qz, .inl (cS, 4, .inr (.inr (.inr (.inr (xSh s0 s1 s2 s3)))))), (s0, .inr (4, [.int bt0, .int (nI (sz0)), .ref sn0])), (s1, .inr (4, [.int bt1, .int (nI (sz1)), .ref sn1])), (s2, .inr (4, [.int bt2, .int (nI (sz2)), .ref sn2])), (s3, .inr (4, [.int bt3, .int (nI (sz3)), .ref sn3])), (sn0, .inl (cJ, 40, .inr (.inl nu0))), (sn1, .inl (cJ, 40, .inr (.inl nv_80))), (sn2, .inl (cJ, 40, .inr (.inl nu2))), (sn3, .inl (cJ, 40, .inr (.inl nu3))), (qf, .inl (cI, 7, .inl f2_81)), (g0, .inr (9, [.ref m_ys, .ref m_yk, .ref m_yo, .ref m_yt, .int b0, .ref m_yfa, .ref m_yfe, .int m_mL, .int m_mS, .int m_mM, .ref m_yro, .ref m_yhe, .ref m_ygr, .int m_mF, .int m_mC, .int m_mY, .ref m_yta, .int (nI (z)), .int (nI (m_mf)), .int (nI (m_mt)), .int m_mv, .int m_mw, .ref m_ywa, .ref m_ybi, .ref m_ysi, .ref m_ynu, .ref m_ymo])), (m_ybi, .inl (cI, 4, .inl m_bi)), (m_ysi, .inl (cI, 4, .inl m_sq)), (m_ynu, .inl (cJ, 160, .inr (.inl nb2_84))), (m_ymo, .inl (cJ, 40, .inr (.inl mv2_85))), (m_yt, .inl (cI, 7, .inl mq2_86))] tl) := hD
      subst hw_r_83
      refine lv_pop hx hb dL_law_1337 rfl ?_
      refine lv_goto (tgt := 1482) hx hb dL_law_1338 (by decide) ?_
      exact kkx _ _ _ nu0 nv_80 nu2 nu3 f2_81 mq2_86 nb2_84 mv2_85 (xt_P hP [0, 1, 2, 3, 4, 5, 6, 7, 8, 9, 10, 11, 16, 12, 13, 14, 15] rfl) (xt_D hD [0, 1, 2, 3, 4, 5, 6, 7, 8, 9, 10, 11, 16, 12, 13, 14, 15] (by decide +kernel) rfl) (fun j hj => (i_88 (0 + j) (by omega)).trans (r_n0 j hj)) (fun j hj => (i_87 j).trans ((sp_cneq r_b1 r_b1 r_n1 (by omega) (r_n1 j hj)).trans (i_82 j).symm)) (fun j hj => (i_88 (80 + j) (by omega)).trans (r_n2 j hj)) (fun j hj => (i_88 (120 + j) (by omega)).trans (r_n3 j hj)) hS hl
    · skip
      refine lv_aload_n hx hb dL_law_1279 rfl (lv_at hl 3 rfl) ?_
      refine lv_iload_n hx hb dL_law_1280 rfl (lv_at hl 0 rfl) ?_
      refine lv_iconst (v := 1) hx hb dL_law_1281 (by decide) ?_
      refine lv_iadd hx hb dL_law_1282 ?_
      refine xl_i (y := nI (i + 1)) (nI_add i 1) ?_
      refine va_sld hx hb hX hbl hbA hS (x_si (k := 1) (by decide) hi hL) dL_law_1283 ?_
      refine xl_i (y := xs (i + 1)) (congrArg xs (x_sc (k := 1) (by decide) hi hL)) ?_
      refine xl_i (y := 1) eq1 ?_
      refine lv_aload_n hx hb dL_law_1284 rfl (lv_at hl 3 rfl) ?_
      refine lv_iload_n hx hb dL_law_1285 rfl (lv_at hl 0 rfl) ?_
      refine lv_iconst (v := 2) hx hb dL_law_1286 (by decide) ?_
      refine lv_iadd hx hb dL_law_1287 ?_
      refine xl_i (y := nI (i + 2)) (nI_add i 2) ?_
      refine va_sld hx hb hX hbl hbA hS (x_si (k := 2) (by decide) hi hL) dL_law_1288 ?_
      refine xl_i (y := xs (i + 2)) (congrArg xs (x_sc (k := 2) (by decide) hi hL)) ?_
      refine lv_aload_n hx hb dL_law_1289 rfl (lv_at hl 3 rfl) ?_
      refine lv_iload_n hx hb dL_law_1290 rfl (lv_at hl 0 rfl) ?_
      refine lv_iconst (v := 3) hx hb dL_law_1291 (by decide) ?_
      refine lv_iadd hx hb dL_law_1292 ?_
      refine xl_i (y := nI (i + 3)) (nI_add i 3) ?_
      refine va_sld hx hb hX hbl hbA hS (x_si (k := 3) (by decide) hi hL) dL_law_1293 ?_
      refine xl_i (y := xs (i + 3)) (congrArg xs (x_sc (k := 3) (by decide) hi hL)) ?_
      refine xl_i (y := 2) eq3 ?_
      refine lv_aload_n hx hb dL_law_1294 rfl (lv_at hl 3 rfl) ?_
      refine lv_iload_n hx hb dL_law_1295 rfl (lv_at hl 0 rfl) ?_
      refine lv_iconst (v := 4) hx hb dL_law_1296 (by decide) ?_
      refine lv_iadd hx hb dL_law_1297 ?_
      refine xl_i (y := nI (i + 4)) (nI_add i 4) ?_
      refine va_sld hx hb hX hbl hbA hS (x_si (k := 4) (by decide) hi hL) dL_law_1298 ?_
      refine xl_i (y := xs (i + 4)) (congrArg xs (x_sc (k := 4) (by decide) hi hL)) ?_
      refine lv_aload_n hx hb dL_law_1299 rfl (lv_at hl 3 rfl) ?_
      refine lv_iload_n hx hb dL_law_1300 rfl (lv_at hl 0 rfl) ?_
      refine lv_iconst (v := 5) hx hb dL_law_1301 (by decide) ?_
      refine lv_iadd hx hb dL_law_1302 ?_
      refine xl_i (y := nI (i + 5)) (nI_add i 5) ?_
      refine va_sld hx hb hX hbl hbA hS (x_si (k := 5) (by decide) hi hL) dL_law_1303 ?_
      refine xl_i (y := xs (i + 5)) (congrArg xs (x_sc (k := 5) (by decide) hi hL)) ?_
      refine xc_ViT (wr := [(g0, .inr (9, [.ref m_ys, .ref m_yk, .ref m_yo, .ref m_yt, .int b0, .ref m_yfa, .ref m_yfe, .int m_mL, .int m_mS, .int m_mM, .ref m_yro, .ref m_yhe, .ref m_ygr, .int m_mF, .int m_mC, .int m_mY, .ref m_yta, .int (nI (z)), .int (nI (m_mf)), .int (nI (m_mt)), .int m_mv, .int m_mw, .ref m_ywa, .ref m_ybi, .ref m_ysi, .ref m_ynu, .ref m_ymo])), (m_yt, .inl (cI, 7, .inl m_mq)), (m_ybi, .inl (cI, 4, .inl m_bi)), (m_ysi, .inl (cI, 4, .inl m_sq)), (m_ynu, .inl (cJ, 160, .inr (.inl m_nb))), (m_ymo, .inl (cJ, 40, .inr (.inl m_mv9)))]) hF (c_X8_copy_12 l D cI cJ cZ cS ta sa sv H.size h0 qh qk qd b0 qa qm qs qp ql qt qz qf s0 s1 s2 s3 bt0 sz0 sn0 bt1 sz1 sn1 bt2 sz2 sn2 bt3 sz3 sn3 nu0 nu1 nu2 nu3 ff (xs (i + 2)) (xs (i + 4)) (xs (i + 5)) hsz0 hsz1 hsz2 hsz3) kv_L_166 ⟨rfl, rfl, Nat.le_of_ble_eq_true rfl, Nat.le_of_ble_eq_true rfl⟩ ⟨Nat.le_of_ble_eq_true rfl, Nat.le_of_ble_eq_true rfl⟩ hK hN hZ hP hD hS hA [0, 1, 2, 3, 4, 5, 6, 7, 8, 9, 10] [11, 12, 13, 14, 15, 16] rfl rfl (by decide +kernel) (by decide +kernel) (by decide +kernel) 0 rfl rfl rfl rfl hl.1 rfl (Nat.le_of_ble_eq_true rfl) dL_law_1304 (fun r_89 u_r_89 H locs hw_r_89 hP hD hS => ?_)
      obtain ⟨nv_90, f2_91⟩ := u_r_89
      try dsimp only at hw_r_89
      obtain ⟨hw_r_89, i_92⟩ := hw_r_89
      have hP : va_P D vwCl (@HAppend.hAppend va_W va_W va_W _ [(g0, .inr (9, [.ref m_ys, .ref m_yk, .ref m_yo, .ref m_yt, .int b0, .ref m_yfa, .ref m_yfe, .int m_mL, .int m_mS, .int m_mM, .ref m_yro, .ref m_yhe, .ref m_ygr, .int m_mF, .int m_mC, .int m_mY, .ref m_yta, .int (nI (z)), .int (nI (m_mf)), .int (nI (m_mt)), .int m_mv, .int m_mw, .ref m_ywa, .ref m_ybi, .ref m_ysi, .ref m_ynu, .ref m_ymo])), (m_yt, .inl (cI, 7, .inl m_mq)), (m_ybi, .inl (cI, 4, .inl m_bi)), (m_ysi, .inl (cI, 4, .inl m_sq)), (m_ynu, .inl (cJ, 160, .inr (.inl m_nb))), (m_ymo, .inl (cJ, 40, .inr (.inl m_mv9))), (h0, .inr (8, [.ref qh, .ref qk, .ref qd, .int b0, .ref qa, .ref qm, .ref qs, .ref qp, .ref ql, .ref qt, .ref qz, .ref qf])), (qz, .inl (cS, 4, .inr (.inr (.inr (.inr (xSh s0 s1 s2 s3)))))), (s0, .inr (4, [.int bt0, .int (nI (sz0)), .ref sn0])), (s1, .inr (4, [.int bt1, .int (nI (sz1)), .ref sn1])), (s2, .inr (4, [.int bt2, .int (nI (sz2)), .ref sn2])), (s3, .inr (4, [.int bt3, .int (nI (sz3)), .ref sn3])), (sn0, .inl (cJ, 40, .inr (.inl nu0))), (sn1, .inl (cJ, 40, .inr (.inl nu1))), (sn2, .inl (cJ, 40, .inr (.inl nv_90))), (sn3, .inl (cJ, 40, .inr (.inl nu3))), (qf, .inl (cI, 7, .inl f2_91))] tl) H := hP
      have hD : va_D A (@HAppend.hAppend va_W va_W va_W _ [(g0, .inr (9, [.ref m_ys, .ref m_yk, .ref m_yo, .ref m_yt, .int b0, .ref m_yfa, .ref m_yfe, .int m_mL, .int m_mS, .int m_mM, .ref m_yro, .ref m_yhe, .ref m_ygr, .int m_mF, .int m_mC, .int m_mY, .ref m_yta, .int (nI (z)), .int (nI (m_mf)), .int (nI (m_mt)), .int m_mv, .int m_mw, .ref m_ywa, .ref m_ybi, .ref m_ysi, .ref m_ynu, .ref m_ymo])), (m_yt, .inl (cI, 7, .inl m_mq)), (m_ybi, .inl (cI, 4, .inl m_bi)), (m_ysi, .inl (cI, 4, .inl m_sq)), (m_ynu, .inl (cJ, 160, .inr (.inl m_nb))), (m_ymo, .inl (cJ, 40, .inr (.inl m_mv9))), (h0, .inr (8, [.ref qh, .ref qk, .ref qd, .int b0, .ref qa, .ref qm, .ref qs, .ref qp, .ref ql, .ref qt, .ref qz, .ref qf])), (qz, .inl (cS, 4, .inr (.inr (.inr (.inr (xSh s0 s1 s2 s3)))))), (s0, .inr (4, [.int bt0, .int (nI (sz0)), .ref sn0])), (s1, .inr (4, [.int bt1, .int (nI (sz1)), .ref sn1])), (s2, .inr (4, [.int bt2, .int (nI (sz2)), .ref sn2])), (s3, .inr (4, [.int bt3, .int (nI (sz3)), .ref sn3])), (sn0, .inl (cJ, 40, .inr (.inl nu0))), (sn1, .inl (cJ, 40, .inr (.inl nu1))), (sn2, .inl (cJ, 40, .inr (.inl nv_90))), (sn3, .inl (cJ, 40, .inr (.inl nu3))), (qf, .inl (cI, 7, .inl f2_91))] tl) := hD
      subst hw_r_89
      refine lv_pop hx hb dL_law_1307 rfl ?_
      refine lv_aload_n hx hb dL_law_1308 rfl (lv_at hl 1 rfl) ?_
      refine lv_aload_n hx hb dL_law_1309 rfl (lv_at hl 3 rfl) ?_
      refine lv_iload_n hx hb dL_law_1310 rfl (lv_at hl 0 rfl) ?_
      refine lv_iconst (v := 1) hx hb dL_law_1311 (by decide) ?_
      refine lv_iadd hx hb dL_law_1312 ?_
      refine xl_i (y := nI (i + 1)) (nI_add i 1) ?_
      refine va_sld hx hb hX hbl hbA hS (x_si (k := 1) (by decide) hi hL) dL_law_1313 ?_
      refine xl_i (y := xs (i + 1)) (congrArg xs (x_sc (k := 1) (by decide) hi hL)) ?_
      refine xl_i (y := 1) eq1 ?_
      refine lv_aload_n hx hb dL_law_1314 rfl (lv_at hl 3 rfl) ?_
      refine lv_iload_n hx hb dL_law_1315 rfl (lv_at hl 0 rfl) ?_
      refine lv_iconst (v := 2) hx hb dL_law_1316 (by decide) ?_
      refine lv_iadd hx hb dL_law_1317 ?_
      refine xl_i (y := nI (i + 2)) (nI_add i 2) ?_
      refine va_sld hx hb hX hbl hbA hS (x_si (k := 2) (by decide) hi hL) dL_law_1318 ?_
      refine xl_i (y := xs (i + 2)) (congrArg xs (x_sc (k := 2) (by decide) hi hL)) ?_
      refine lv_aload_n hx hb dL_law_1319 rfl (lv_at hl 3 rfl) ?_
      refine lv_iload_n hx hb dL_law_1320 rfl (lv_at hl 0 rfl) ?_
      refine lv_iconst (v := 3) hx hb dL_law_1321 (by decide) ?_
      refine lv_iadd hx hb dL_law_1322 ?_
      refine xl_i (y := nI (i + 3)) (nI_add i 3) ?_
      refine va_sld hx hb hX hbl hbA hS (x_si (k := 3) (by decide) hi hL) dL_law_1323 ?_
      refine xl_i (y := xs (i + 3)) (congrArg xs (x_sc (k := 3) (by decide) hi hL)) ?_
      refine xl_i (y := 2) eq3 ?_
      refine lv_aload_n hx hb dL_law_1324 rfl (lv_at hl 3 rfl) ?_
      refine lv_iload_n hx hb dL_law_1325 rfl (lv_at hl 0 rfl) ?_
      refine lv_iconst (v := 4) hx hb dL_law_1326 (by decide) ?_
      refine lv_iadd hx hb dL_law_1327 ?_
      refine xl_i (y := nI (i + 4)) (nI_add i 4) ?_
      refine va_sld hx hb hX hbl hbA hS (x_si (k := 4) (by decide) hi hL) dL_law_1328 ?_
      refine xl_i (y := xs (i + 4)) (congrArg xs (x_sc (k := 4) (by decide) hi hL)) ?_
      refine lv_aload_n hx hb dL_law_1329 rfl (lv_at hl 3 rfl) ?_
      refine lv_iload_n hx hb dL_law_1330 rfl (lv_at hl 0 rfl) ?_
      refine lv_iconst (v := 5) hx hb dL_law_1331 (by decide) ?_
      refine lv_iadd hx hb dL_law_1332 ?_
      refine xl_i (y := nI (i + 5)) (nI_add i 5) ?_
      refine va_sld hx hb hX hbl hbA hS (x_si (k := 5) (by decide) hi hL) dL_law_1333 ?_
      refine xl_i (y := xs (i + 5)) (congrArg xs (x_sc (k := 5) (by decide) hi hL)) ?_
      refine xc_ViT (wr := [(h0, .inr (8, [.ref qh, .ref qk, .ref qd, .int b0, .ref qa, .ref qm, .ref qs, .ref qp, .ref ql, .ref qt, .ref qz, .ref qf])), (qz, .inl (cS, 4, .inr (.inr (.inr (.inr (xSh s0 s1 s2 s3)))))), (s0, .inr (4, [.int bt0, .int (nI (sz0)), .ref sn0])), (s1, .inr (4, [.int bt1, .int (nI (sz1)), .ref sn1])), (s2, .inr (4, [.int bt2, .int (nI (sz2)), .ref sn2])), (s3, .inr (4, [.int bt3, .int (nI (sz3)), .ref sn3])), (sn0, .inl (cJ, 40, .inr (.inl nu0))), (sn1, .inl (cJ, 40, .inr (.inl nu1))), (sn2, .inl (cJ, 40, .inr (.inl nv_90))), (sn3, .inl (cJ, 40, .inr (.inl nu3))), (qf, .inl (cI, 7, .inl f2_91))]) hF (c_X9_copy_12 l D cI cJ cZ cS ta sa sv H.size g0 m_ys m_yk m_yo m_yt b0 m_yfa m_yfe m_mL m_mS m_mM m_yro m_yhe m_ygr m_mF m_mC m_mY m_yta z m_mf m_mt m_mv m_mw m_ywa m_ybi m_ysi m_ynu m_ymo m_bi m_sq m_nb m_mv9 m_mq (xs (i + 2)) (xs (i + 4)) (xs (i + 5)) sz1 sz2 r_z1 hsz1 r_z2 hsz2 m_hsq) kv_L_170 ⟨rfl, rfl, Nat.le_of_ble_eq_true rfl, Nat.le_of_ble_eq_true rfl⟩ ⟨Nat.le_of_ble_eq_true rfl, Nat.le_of_ble_eq_true rfl⟩ hK hN hZ hP hD hS hA [0, 2, 3, 4, 5, 1] [6, 7, 8, 9, 10, 11, 12, 13, 14, 15, 16] rfl rfl (by decide +kernel) (by decide +kernel) (by decide +kernel) 0 rfl rfl rfl rfl hl.1 rfl (Nat.le_of_ble_eq_true rfl) dL_law_1334 (fun r_93 u_r_93 H locs hw_r_93 hP hD hS => ?_)
      obtain ⟨nb2_94, mv2_95, mq2_96⟩ := u_r_93
      try dsimp only at hw_r_93
      obtain ⟨hw_r_93, i_97, i_98⟩ := hw_r_93
      have hP : va_P D vwCl (@HAppend.hAppend va_W va_W va_W _ [(h0, .inr (8, [.ref qh, .ref qk, .ref qd, .int b0, .ref qa, .ref qm, .ref qs, .ref qp, .ref ql, .ref qt, .ref qz, .ref qf])), (qz, .inl (cS, 4, .inr (.inr (.inr (.inr (xSh s0 s1 s2 s3)))))), (s0, .inr (4, [.int bt0, .int (nI (sz0)), .ref sn0])), (s1, .inr (4, [.int bt1, .int (nI (sz1)), .ref sn1])), (s2, .inr (4, [.int bt2, .int (nI (sz2)), .ref sn2])), (s3, .inr (4, [.int bt3, .int (nI (sz3)), .ref sn3])), (sn0, .inl (cJ, 40, .inr (.inl nu0))), (sn1, .inl (cJ, 40, .inr (.inl nu1))), (sn2, .inl (cJ, 40, .inr (.inl nv_90))), (sn3, .inl (cJ, 40, .inr (.inl nu3))), (qf, .inl (cI, 7, .inl f2_91)), (g0, .inr (9, [.ref m_ys, .ref m_yk, .ref m_yo, .ref m_yt, .int b0, .ref m_yfa, .ref m_yfe, .int m_mL, .int m_mS, .int m_mM, .ref m_yro, .ref m_yhe, .ref m_ygr, .int m_mF, .int m_mC, .int m_mY, .ref m_yta, .int (nI (z)), .int (nI (m_mf)), .int (nI (m_mt)), .int m_mv, .int m_mw, .ref m_ywa, .ref m_ybi, .ref m_ysi, .ref m_ynu, .ref m_ymo])), (m_ybi, .inl (cI, 4, .inl m_bi)), (m_ysi, .inl (cI, 4, .inl m_sq)), (m_ynu, .inl (cJ, 160, .inr (.inl nb2_94))), (m_ymo, .inl (cJ, 40, .inr (.inl mv2_95))), (m_yt, .inl (cI, 7, .inl mq2_96))] tl) H := hP
      have hD : va_D A (@HAppend.hAppend va_W va_W va_W _ [(h0, .inr (8, [.ref qh, .ref qk, .ref qd, .int b0, .ref qa, .ref qm, .ref qs, .ref qp, .ref ql, .ref qt, .ref qz, .ref qf])), (qz, .inl (cS, 4, .inr (.inr (.inr (.inr (xSh s0 s1 s2 s3)))))), (s0, .inr (4, [.int bt0, .int (nI (sz0)), .ref sn0])), (s1, .inr (4, [.int bt1, .int (nI (sz1)), .ref sn1])), (s2, .inr (4, [.int bt2, .int (nI (sz2)), .ref sn2])), (s3, .inr (4, [.int bt3, .int (nI (sz3)), .ref sn3])), (sn0, .inl (cJ, 40, .inr (.inl nu0))), (sn1, .inl (cJ, 40, .inr (.inl nu1))), (sn2, .inl (cJ, 40, .inr (.inl nv_90))), (sn3, .inl (cJ, 40, .inr (.inl nu3))), (qf, .inl (cI, 7, .inl f2_91)), (g0, .inr (9, [.ref m_ys, .ref m_yk, .ref m_yo, .ref m_yt, .int b0, .ref m_yfa, .ref m_yfe, .int m_mL, .int m_mS, .int m_mM, .ref m_yro, .ref m_yhe, .ref m_ygr, .int m_mF, .int m_mC, .int m_mY, .ref m_yta, .int (nI (z)), .int (nI (m_mf)), .int (nI (m_mt)), .int m_mv, .int m_mw, .ref m_ywa, .ref m_ybi, .ref m_ysi, .ref m_ynu, .ref m_ymo])), (m_ybi, .inl (cI, 4, .inl m_bi)), (m_ysi, .inl (cI, 4, .inl m_sq)), (m_ynu, .inl (cJ, 160, .inr (.inl nb2_94))), (m_ymo, .inl (cJ, 40, .inr (.inl mv2_95))), (m_yt, .inl (cI, 7, .inl mq2_96))] tl) := hD
      subst hw_r_93
      refine lv_pop hx hb dL_law_1337 rfl ?_
      refine lv_goto (tgt := 1482) hx hb dL_law_1338 (by decide) ?_
      exact kkx _ _ _ nu0 nu1 nv_90 nu3 f2_91 mq2_96 nb2_94 mv2_95 (xt_P hP [0, 1, 2, 3, 4, 5, 6, 7, 8, 9, 10, 11, 16, 12, 13, 14, 15] rfl) (xt_D hD [0, 1, 2, 3, 4, 5, 6, 7, 8, 9, 10, 11, 16, 12, 13, 14, 15] (by decide +kernel) rfl) (fun j hj => (i_98 (0 + j) (by omega)).trans (r_n0 j hj)) (fun j hj => (i_98 (40 + j) (by omega)).trans (r_n1 j hj)) (fun j hj => (i_97 j).trans ((sp_cneq r_b1 r_b2 r_n1 (by omega) (r_n2 j hj)).trans (i_92 j).symm)) (fun j hj => (i_98 (120 + j) (by omega)).trans (r_n3 j hj)) hS hl
    · skip
      refine lv_aload_n hx hb dL_law_1279 rfl (lv_at hl 3 rfl) ?_
      refine lv_iload_n hx hb dL_law_1280 rfl (lv_at hl 0 rfl) ?_
      refine lv_iconst (v := 1) hx hb dL_law_1281 (by decide) ?_
      refine lv_iadd hx hb dL_law_1282 ?_
      refine xl_i (y := nI (i + 1)) (nI_add i 1) ?_
      refine va_sld hx hb hX hbl hbA hS (x_si (k := 1) (by decide) hi hL) dL_law_1283 ?_
      refine xl_i (y := xs (i + 1)) (congrArg xs (x_sc (k := 1) (by decide) hi hL)) ?_
      refine xl_i (y := 1) eq1 ?_
      refine lv_aload_n hx hb dL_law_1284 rfl (lv_at hl 3 rfl) ?_
      refine lv_iload_n hx hb dL_law_1285 rfl (lv_at hl 0 rfl) ?_
      refine lv_iconst (v := 2) hx hb dL_law_1286 (by decide) ?_
      refine lv_iadd hx hb dL_law_1287 ?_
      refine xl_i (y := nI (i + 2)) (nI_add i 2) ?_
      refine va_sld hx hb hX hbl hbA hS (x_si (k := 2) (by decide) hi hL) dL_law_1288 ?_
      refine xl_i (y := xs (i + 2)) (congrArg xs (x_sc (k := 2) (by decide) hi hL)) ?_
      refine lv_aload_n hx hb dL_law_1289 rfl (lv_at hl 3 rfl) ?_
      refine lv_iload_n hx hb dL_law_1290 rfl (lv_at hl 0 rfl) ?_
      refine lv_iconst (v := 3) hx hb dL_law_1291 (by decide) ?_
      refine lv_iadd hx hb dL_law_1292 ?_
      refine xl_i (y := nI (i + 3)) (nI_add i 3) ?_
      refine va_sld hx hb hX hbl hbA hS (x_si (k := 3) (by decide) hi hL) dL_law_1293 ?_
      refine xl_i (y := xs (i + 3)) (congrArg xs (x_sc (k := 3) (by decide) hi hL)) ?_
      refine xl_i (y := 3) eq3 ?_
      refine lv_aload_n hx hb dL_law_1294 rfl (lv_at hl 3 rfl) ?_
      refine lv_iload_n hx hb dL_law_1295 rfl (lv_at hl 0 rfl) ?_
      refine lv_iconst (v := 4) hx hb dL_law_1296 (by decide) ?_
      refine lv_iadd hx hb dL_law_1297 ?_
      refine xl_i (y := nI (i + 4)) (nI_add i 4) ?_
      refine va_sld hx hb hX hbl hbA hS (x_si (k := 4) (by decide) hi hL) dL_law_1298 ?_
      refine xl_i (y := xs (i + 4)) (congrArg xs (x_sc (k := 4) (by decide) hi hL)) ?_
      refine lv_aload_n hx hb dL_law_1299 rfl (lv_at hl 3 rfl) ?_
      refine lv_iload_n hx hb dL_law_1300 rfl (lv_at hl 0 rfl) ?_
      refine lv_iconst (v := 5) hx hb dL_law_1301 (by decide) ?_
      refine lv_iadd hx hb dL_law_1302 ?_
      refine xl_i (y := nI (i + 5)) (nI_add i 5) ?_
      refine va_sld hx hb hX hbl hbA hS (x_si (k := 5) (by decide) hi hL) dL_law_1303 ?_
      refine xl_i (y := xs (i + 5)) (congrArg xs (x_sc (k := 5) (by decide) hi hL)) ?_
      refine xc_ViT (wr := [(g0, .inr (9, [.ref m_ys, .ref m_yk, .ref m_yo, .ref m_yt, .int b0, .ref m_yfa, .ref m_yfe, .int m_mL, .int m_mS, .int m_mM, .ref m_yro, .ref m_yhe, .ref m_ygr, .int m_mF, .int m_mC, .int m_mY, .ref m_yta, .int (nI (z)), .int (nI (m_mf)), .int (nI (m_mt)), .int m_mv, .int m_mw, .ref m_ywa, .ref m_ybi, .ref m_ysi, .ref m_ynu, .ref m_ymo])), (m_yt, .inl (cI, 7, .inl m_mq)), (m_ybi, .inl (cI, 4, .inl m_bi)), (m_ysi, .inl (cI, 4, .inl m_sq)), (m_ynu, .inl (cJ, 160, .inr (.inl m_nb))), (m_ymo, .inl (cJ, 40, .inr (.inl m_mv9)))]) hF (c_X8_copy_13 l D cI cJ cZ cS ta sa sv H.size h0 qh qk qd b0 qa qm qs qp ql qt qz qf s0 s1 s2 s3 bt0 sz0 sn0 bt1 sz1 sn1 bt2 sz2 sn2 bt3 sz3 sn3 nu0 nu1 nu2 nu3 ff (xs (i + 2)) (xs (i + 4)) (xs (i + 5)) hsz0 hsz1 hsz2 hsz3) kv_L_166 ⟨rfl, rfl, Nat.le_of_ble_eq_true rfl, Nat.le_of_ble_eq_true rfl⟩ ⟨Nat.le_of_ble_eq_true rfl, Nat.le_of_ble_eq_true rfl⟩ hK hN hZ hP hD hS hA [0, 1, 2, 3, 4, 5, 6, 7, 8, 9, 10] [11, 12, 13, 14, 15, 16] rfl rfl (by decide +kernel) (by decide +kernel) (by decide +kernel) 0 rfl rfl rfl rfl hl.1 rfl (Nat.le_of_ble_eq_true rfl) dL_law_1304 (fun r_99 u_r_99 H locs hw_r_99 hP hD hS => ?_)
      obtain ⟨nv_100, f2_101⟩ := u_r_99
      try dsimp only at hw_r_99
      obtain ⟨hw_r_99, i_102⟩ := hw_r_99
      have hP : va_P D vwCl (@HAppend.hAppend va_W va_W va_W _ [(g0, .inr (9, [.ref m_ys, .ref m_yk, .ref m_yo, .ref m_yt, .int b0, .ref m_yfa, .ref m_yfe, .int m_mL, .int m_mS, .int m_mM, .ref m_yro, .ref m_yhe, .ref m_ygr, .int m_mF, .int m_mC, .int m_mY, .ref m_yta, .int (nI (z)), .int (nI (m_mf)), .int (nI (m_mt)), .int m_mv, .int m_mw, .ref m_ywa, .ref m_ybi, .ref m_ysi, .ref m_ynu, .ref m_ymo])), (m_yt, .inl (cI, 7, .inl m_mq)), (m_ybi, .inl (cI, 4, .inl m_bi)), (m_ysi, .inl (cI, 4, .inl m_sq)), (m_ynu, .inl (cJ, 160, .inr (.inl m_nb))), (m_ymo, .inl (cJ, 40, .inr (.inl m_mv9))), (h0, .inr (8, [.ref qh, .ref qk, .ref qd, .int b0, .ref qa, .ref qm, .ref qs, .ref qp, .ref ql, .ref qt, .ref qz, .ref qf])), (qz, .inl (cS, 4, .inr (.inr (.inr (.inr (xSh s0 s1 s2 s3)))))), (s0, .inr (4, [.int bt0, .int (nI (sz0)), .ref sn0])), (s1, .inr (4, [.int bt1, .int (nI (sz1)), .ref sn1])), (s2, .inr (4, [.int bt2, .int (nI (sz2)), .ref sn2])), (s3, .inr (4, [.int bt3, .int (nI (sz3)), .ref sn3])), (sn0, .inl (cJ, 40, .inr (.inl nu0))), (sn1, .inl (cJ, 40, .inr (.inl nu1))), (sn2, .inl (cJ, 40, .inr (.inl nu2))), (sn3, .inl (cJ, 40, .inr (.inl nv_100))), (qf, .inl (cI, 7, .inl f2_101))] tl) H := hP
      have hD : va_D A (@HAppend.hAppend va_W va_W va_W _ [(g0, .inr (9, [.ref m_ys, .ref m_yk, .ref m_yo, .ref m_yt, .int b0, .ref m_yfa, .ref m_yfe, .int m_mL, .int m_mS, .int m_mM, .ref m_yro, .ref m_yhe, .ref m_ygr, .int m_mF, .int m_mC, .int m_mY, .ref m_yta, .int (nI (z)), .int (nI (m_mf)), .int (nI (m_mt)), .int m_mv, .int m_mw, .ref m_ywa, .ref m_ybi, .ref m_ysi, .ref m_ynu, .ref m_ymo])), (m_yt, .inl (cI, 7, .inl m_mq)), (m_ybi, .inl (cI, 4, .inl m_bi)), (m_ysi, .inl (cI, 4, .inl m_sq)), (m_ynu, .inl (cJ, 160, .inr (.inl m_nb))), (m_ymo, .inl (cJ, 40, .inr (.inl m_mv9))), (h0, .inr (8, [.ref qh, .ref qk, .ref qd, .int b0, .ref qa, .ref qm, .ref qs, .ref qp, .ref ql, .ref qt, .ref qz, .ref qf])), (qz, .inl (cS, 4, .inr (.inr (.inr (.inr (xSh s0 s1 s2 s3)))))), (s0, .inr (4, [.int bt0, .int (nI (sz0)), .ref sn0])), (s1, .inr (4, [.int bt1, .int (nI (sz1)), .ref sn1])), (s2, .inr (4, [.int bt2, .int (nI (sz2)), .ref sn2])), (s3, .inr (4, [.int bt3, .int (nI (sz3)), .ref sn3])), (sn0, .inl (cJ, 40, .inr (.inl nu0))), (sn1, .inl (cJ, 40, .inr (.inl nu1))), (sn2, .inl (cJ, 40, .inr (.inl nu2))), (sn3, .inl (cJ, 40, .inr (.inl nv_100))), (qf, .inl (cI, 7, .inl f2_101))] tl) := hD
      subst hw_r_99
      refine lv_pop hx hb dL_law_1307 rfl ?_
      refine lv_aload_n hx hb dL_law_1308 rfl (lv_at hl 1 rfl) ?_
      refine lv_aload_n hx hb dL_law_1309 rfl (lv_at hl 3 rfl) ?_
      refine lv_iload_n hx hb dL_law_1310 rfl (lv_at hl 0 rfl) ?_
      refine lv_iconst (v := 1) hx hb dL_law_1311 (by decide) ?_
      refine lv_iadd hx hb dL_law_1312 ?_
      refine xl_i (y := nI (i + 1)) (nI_add i 1) ?_
      refine va_sld hx hb hX hbl hbA hS (x_si (k := 1) (by decide) hi hL) dL_law_1313 ?_
      refine xl_i (y := xs (i + 1)) (congrArg xs (x_sc (k := 1) (by decide) hi hL)) ?_
      refine xl_i (y := 1) eq1 ?_
      refine lv_aload_n hx hb dL_law_1314 rfl (lv_at hl 3 rfl) ?_
      refine lv_iload_n hx hb dL_law_1315 rfl (lv_at hl 0 rfl) ?_
      refine lv_iconst (v := 2) hx hb dL_law_1316 (by decide) ?_
      refine lv_iadd hx hb dL_law_1317 ?_
      refine xl_i (y := nI (i + 2)) (nI_add i 2) ?_
      refine va_sld hx hb hX hbl hbA hS (x_si (k := 2) (by decide) hi hL) dL_law_1318 ?_
      refine xl_i (y := xs (i + 2)) (congrArg xs (x_sc (k := 2) (by decide) hi hL)) ?_
      refine lv_aload_n hx hb dL_law_1319 rfl (lv_at hl 3 rfl) ?_
      refine lv_iload_n hx hb dL_law_1320 rfl (lv_at hl 0 rfl) ?_
      refine lv_iconst (v := 3) hx hb dL_law_1321 (by decide) ?_
      refine lv_iadd hx hb dL_law_1322 ?_
      refine xl_i (y := nI (i + 3)) (nI_add i 3) ?_
      refine va_sld hx hb hX hbl hbA hS (x_si (k := 3) (by decide) hi hL) dL_law_1323 ?_
      refine xl_i (y := xs (i + 3)) (congrArg xs (x_sc (k := 3) (by decide) hi hL)) ?_
      refine xl_i (y := 3) eq3 ?_
      refine lv_aload_n hx hb dL_law_1324 rfl (lv_at hl 3 rfl) ?_
      refine lv_iload_n hx hb dL_law_1325 rfl (lv_at hl 0 rfl) ?_
      refine lv_iconst (v := 4) hx hb dL_law_1326 (by decide) ?_
      refine lv_iadd hx hb dL_law_1327 ?_
      refine xl_i (y := nI (i + 4)) (nI_add i 4) ?_
      refine va_sld hx hb hX hbl hbA hS (x_si (k := 4) (by decide) hi hL) dL_law_1328 ?_
      refine xl_i (y := xs (i + 4)) (congrArg xs (x_sc (k := 4) (by decide) hi hL)) ?_
      refine lv_aload_n hx hb dL_law_1329 rfl (lv_at hl 3 rfl) ?_
      refine lv_iload_n hx hb dL_law_1330 rfl (lv_at hl 0 rfl) ?_
      refine lv_iconst (v := 5) hx hb dL_law_1331 (by decide) ?_
      refine lv_iadd hx hb dL_law_1332 ?_
      refine xl_i (y := nI (i + 5)) (nI_add i 5) ?_
      refine va_sld hx hb hX hbl hbA hS (x_si (k := 5) (by decide) hi hL) dL_law_1333 ?_
      refine xl_i (y := xs (i + 5)) (congrArg xs (x_sc (k := 5) (by decide) hi hL)) ?_
      refine xc_ViT (wr := [(h0, .inr (8, [.ref qh, .ref qk, .ref qd, .int b0, .ref qa, .ref qm, .ref qs, .ref qp, .ref ql, .ref qt, .ref qz, .ref qf])), (qz, .inl (cS, 4, .inr (.inr (.inr (.inr (xSh s0 s1 s2 s3)))))), (s0, .inr (4, [.int bt0, .int (nI (sz0)), .ref sn0])), (s1, .inr (4, [.int bt1, .int (nI (sz1)), .ref sn1])), (s2, .inr (4, [.int bt2, .int (nI (sz2)), .ref sn2])), (s3, .inr (4, [.int bt3, .int (nI (sz3)), .ref sn3])), (sn0, .inl (cJ, 40, .inr (.inl nu0))), (sn1, .inl (cJ, 40, .inr (.inl nu1))), (sn2, .inl (cJ, 40, .inr (.inl nu2))), (sn3, .inl (cJ, 40, .inr (.inl nv_100))), (qf, .inl (cI, 7, .inl f2_101))]) hF (c_X9_copy_13 l D cI cJ cZ cS ta sa sv H.size g0 m_ys m_yk m_yo m_yt b0 m_yfa m_yfe m_mL m_mS m_mM m_yro m_yhe m_ygr m_mF m_mC m_mY m_yta z m_mf m_mt m_mv m_mw m_ywa m_ybi m_ysi m_ynu m_ymo m_bi m_sq m_nb m_mv9 m_mq (xs (i + 2)) (xs (i + 4)) (xs (i + 5)) sz1 sz3 r_z1 hsz1 r_z3 hsz3 m_hsq) kv_L_170 ⟨rfl, rfl, Nat.le_of_ble_eq_true rfl, Nat.le_of_ble_eq_true rfl⟩ ⟨Nat.le_of_ble_eq_true rfl, Nat.le_of_ble_eq_true rfl⟩ hK hN hZ hP hD hS hA [0, 2, 3, 4, 5, 1] [6, 7, 8, 9, 10, 11, 12, 13, 14, 15, 16] rfl rfl (by decide +kernel) (by decide +kernel) (by decide +kernel) 0 rfl rfl rfl rfl hl.1 rfl (Nat.le_of_ble_eq_true rfl) dL_law_1334 (fun r_103 u_r_103 H locs hw_r_103 hP hD hS => ?_)
      obtain ⟨nb2_104, mv2_105, mq2_106⟩ := u_r_103
      try dsimp only at hw_r_103
      obtain ⟨hw_r_103, i_107, i_108⟩ := hw_r_103
      have hP : va_P D vwCl (@HAppend.hAppend va_W va_W va_W _ [(h0, .inr (8, [.ref qh, .ref qk, .ref qd, .int b0, .ref qa, .ref qm, .ref qs, .ref qp, .ref ql, .ref qt, .ref qz, .ref qf])), (qz, .inl (cS, 4, .inr (.inr (.inr (.inr (xSh s0 s1 s2 s3)))))), (s0, .inr (4, [.int bt0, .int (nI (sz0)), .ref sn0])), (s1, .inr (4, [.int bt1, .int (nI (sz1)), .ref sn1])), (s2, .inr (4, [.int bt2, .int (nI (sz2)), .ref sn2])), (s3, .inr (4, [.int bt3, .int (nI (sz3)), .ref sn3])), (sn0, .inl (cJ, 40, .inr (.inl nu0))), (sn1, .inl (cJ, 40, .inr (.inl nu1))), (sn2, .inl (cJ, 40, .inr (.inl nu2))), (sn3, .inl (cJ, 40, .inr (.inl nv_100))), (qf, .inl (cI, 7, .inl f2_101)), (g0, .inr (9, [.ref m_ys, .ref m_yk, .ref m_yo, .ref m_yt, .int b0, .ref m_yfa, .ref m_yfe, .int m_mL, .int m_mS, .int m_mM, .ref m_yro, .ref m_yhe, .ref m_ygr, .int m_mF, .int m_mC, .int m_mY, .ref m_yta, .int (nI (z)), .int (nI (m_mf)), .int (nI (m_mt)), .int m_mv, .int m_mw, .ref m_ywa, .ref m_ybi, .ref m_ysi, .ref m_ynu, .ref m_ymo])), (m_ybi, .inl (cI, 4, .inl m_bi)), (m_ysi, .inl (cI, 4, .inl m_sq)), (m_ynu, .inl (cJ, 160, .inr (.inl nb2_104))), (m_ymo, .inl (cJ, 40, .inr (.inl mv2_105))), (m_yt, .inl (cI, 7, .inl mq2_106))] tl) H := hP
      have hD : va_D A (@HAppend.hAppend va_W va_W va_W _ [(h0, .inr (8, [.ref qh, .ref qk, .ref qd, .int b0, .ref qa, .ref qm, .ref qs, .ref qp, .ref ql, .ref qt, .ref qz, .ref qf])), (qz, .inl (cS, 4, .inr (.inr (.inr (.inr (xSh s0 s1 s2 s3)))))), (s0, .inr (4, [.int bt0, .int (nI (sz0)), .ref sn0])), (s1, .inr (4, [.int bt1, .int (nI (sz1)), .ref sn1])), (s2, .inr (4, [.int bt2, .int (nI (sz2)), .ref sn2])), (s3, .inr (4, [.int bt3, .int (nI (sz3)), .ref sn3])), (sn0, .inl (cJ, 40, .inr (.inl nu0))), (sn1, .inl (cJ, 40, .inr (.inl nu1))), (sn2, .inl (cJ, 40, .inr (.inl nu2))), (sn3, .inl (cJ, 40, .inr (.inl nv_100))), (qf, .inl (cI, 7, .inl f2_101)), (g0, .inr (9, [.ref m_ys, .ref m_yk, .ref m_yo, .ref m_yt, .int b0, .ref m_yfa, .ref m_yfe, .int m_mL, .int m_mS, .int m_mM, .ref m_yro, .ref m_yhe, .ref m_ygr, .int m_mF, .int m_mC, .int m_mY, .ref m_yta, .int (nI (z)), .int (nI (m_mf)), .int (nI (m_mt)), .int m_mv, .int m_mw, .ref m_ywa, .ref m_ybi, .ref m_ysi, .ref m_ynu, .ref m_ymo])), (m_ybi, .inl (cI, 4, .inl m_bi)), (m_ysi, .inl (cI, 4, .inl m_sq)), (m_ynu, .inl (cJ, 160, .inr (.inl nb2_104))), (m_ymo, .inl (cJ, 40, .inr (.inl mv2_105))), (m_yt, .inl (cI, 7, .inl mq2_106))] tl) := hD
      subst hw_r_103
      refine lv_pop hx hb dL_law_1337 rfl ?_
      refine lv_goto (tgt := 1482) hx hb dL_law_1338 (by decide) ?_
      exact kkx _ _ _ nu0 nu1 nu2 nv_100 f2_101 mq2_106 nb2_104 mv2_105 (xt_P hP [0, 1, 2, 3, 4, 5, 6, 7, 8, 9, 10, 11, 16, 12, 13, 14, 15] rfl) (xt_D hD [0, 1, 2, 3, 4, 5, 6, 7, 8, 9, 10, 11, 16, 12, 13, 14, 15] (by decide +kernel) rfl) (fun j hj => (i_108 (0 + j) (by omega)).trans (r_n0 j hj)) (fun j hj => (i_108 (40 + j) (by omega)).trans (r_n1 j hj)) (fun j hj => (i_108 (80 + j) (by omega)).trans (r_n2 j hj)) (fun j hj => (i_107 j).trans ((sp_cneq r_b1 r_b3 r_n1 (by omega) (r_n3 j hj)).trans (i_102 j).symm)) hS hl
  · skip
    refine lv_aload_n hx hb dL_law_1278 rfl (lv_at hl 2 rfl) ?_
    rcases x_sh4 (xs (i + 3)) with oq3 | eq3 | eq3 | eq3 | eq3
    · skip
      refine lv_aload_n hx hb dL_law_1279 rfl (lv_at hl 3 rfl) ?_
      refine lv_iload_n hx hb dL_law_1280 rfl (lv_at hl 0 rfl) ?_
      refine lv_iconst (v := 1) hx hb dL_law_1281 (by decide) ?_
      refine lv_iadd hx hb dL_law_1282 ?_
      refine xl_i (y := nI (i + 1)) (nI_add i 1) ?_
      refine va_sld hx hb hX hbl hbA hS (x_si (k := 1) (by decide) hi hL) dL_law_1283 ?_
      refine xl_i (y := xs (i + 1)) (congrArg xs (x_sc (k := 1) (by decide) hi hL)) ?_
      refine xl_i (y := 2) eq1 ?_
      refine lv_aload_n hx hb dL_law_1284 rfl (lv_at hl 3 rfl) ?_
      refine lv_iload_n hx hb dL_law_1285 rfl (lv_at hl 0 rfl) ?_
      refine lv_iconst (v := 2) hx hb dL_law_1286 (by decide) ?_
      refine lv_iadd hx hb dL_law_1287 ?_
      refine xl_i (y := nI (i + 2)) (nI_add i 2) ?_
      refine va_sld hx hb hX hbl hbA hS (x_si (k := 2) (by decide) hi hL) dL_law_1288 ?_
      refine xl_i (y := xs (i + 2)) (congrArg xs (x_sc (k := 2) (by decide) hi hL)) ?_
      refine lv_aload_n hx hb dL_law_1289 rfl (lv_at hl 3 rfl) ?_
      refine lv_iload_n hx hb dL_law_1290 rfl (lv_at hl 0 rfl) ?_
      refine lv_iconst (v := 3) hx hb dL_law_1291 (by decide) ?_
      refine lv_iadd hx hb dL_law_1292 ?_
      refine xl_i (y := nI (i + 3)) (nI_add i 3) ?_
      refine va_sld hx hb hX hbl hbA hS (x_si (k := 3) (by decide) hi hL) dL_law_1293 ?_
      refine xl_i (y := xs (i + 3)) (congrArg xs (x_sc (k := 3) (by decide) hi hL)) ?_
      refine lv_aload_n hx hb dL_law_1294 rfl (lv_at hl 3 rfl) ?_
      refine lv_iload_n hx hb dL_law_1295 rfl (lv_at hl 0 rfl) ?_
      refine lv_iconst (v := 4) hx hb dL_law_1296 (by decide) ?_
      refine lv_iadd hx hb dL_law_1297 ?_
      refine xl_i (y := nI (i + 4)) (nI_add i 4) ?_
      refine va_sld hx hb hX hbl hbA hS (x_si (k := 4) (by decide) hi hL) dL_law_1298 ?_
      refine xl_i (y := xs (i + 4)) (congrArg xs (x_sc (k := 4) (by decide) hi hL)) ?_
      refine lv_aload_n hx hb dL_law_1299 rfl (lv_at hl 3 rfl) ?_
      refine lv_iload_n hx hb dL_law_1300 rfl (lv_at hl 0 rfl) ?_
      refine lv_iconst (v := 5) hx hb dL_law_1301 (by decide) ?_
      refine lv_iadd hx hb dL_law_1302 ?_
      refine xl_i (y := nI (i + 5)) (nI_add i 5) ?_
      refine va_sld hx hb hX hbl hbA hS (x_si (k := 5) (by decide) hi hL) dL_law_1303 ?_
      refine xl_i (y := xs (i + 5)) (congrArg xs (x_sc (k := 5) (by decide) hi hL)) ?_
      refine xc_ViT (wr := [(qz, .inl (cS, 4, .inr (.inr (.inr (.inr (xSh s0 s1 s2 s3)))))), (s0, .inr (4, [.int bt0, .int (nI (sz0)), .ref sn0])), (s1, .inr (4, [.int bt1, .int (nI (sz1)), .ref sn1])), (s2, .inr (4, [.int bt2, .int (nI (sz2)), .ref sn2])), (s3, .inr (4, [.int bt3, .int (nI (sz3)), .ref sn3])), (sn0, .inl (cJ, 40, .inr (.inl nu0))), (sn1, .inl (cJ, 40, .inr (.inl nu1))), (sn2, .inl (cJ, 40, .inr (.inl nu2))), (sn3, .inl (cJ, 40, .inr (.inl nu3))), (g0, .inr (9, [.ref m_ys, .ref m_yk, .ref m_yo, .ref m_yt, .int b0, .ref m_yfa, .ref m_yfe, .int m_mL, .int m_mS, .int m_mM, .ref m_yro, .ref m_yhe, .ref m_ygr, .int m_mF, .int m_mC, .int m_mY, .ref m_yta, .int (nI (z)), .int (nI (m_mf)), .int (nI (m_mt)), .int m_mv, .int m_mw, .ref m_ywa, .ref m_ybi, .ref m_ysi, .ref m_ynu, .ref m_ymo])), (m_yt, .inl (cI, 7, .inl m_mq)), (m_ybi, .inl (cI, 4, .inl m_bi)), (m_ysi, .inl (cI, 4, .inl m_sq)), (m_ynu, .inl (cJ, 160, .inr (.inl m_nb))), (m_ymo, .inl (cJ, 40, .inr (.inl m_mv9)))]) hF (c_X8_copy_2o l D cI cJ cZ cS ta sa sv H.size h0 qh qk qd b0 qa qm qs qp ql qt qz qf ff (xs (i + 2)) (xs (i + 3)) (xs (i + 4)) (xs (i + 5)) oq3) kv_L_166 ⟨rfl, rfl, Nat.le_of_ble_eq_true rfl, Nat.le_of_ble_eq_true rfl⟩ ⟨Nat.le_of_ble_eq_true rfl, Nat.le_of_ble_eq_true rfl⟩ hK hN hZ hP hD hS hA [0, 10] [1, 2, 3, 4, 5, 6, 7, 8, 9, 11, 12, 13, 14, 15, 16] rfl rfl rfl (by decide +kernel) (by decide +kernel) 0 rfl rfl rfl rfl hl.1 rfl (Nat.le_of_ble_eq_true rfl) dL_law_1304 (fun r_109 u_r_109 H locs hw_r_109 hP hD hS => ?_)
      obtain ⟨f2_110, rfl⟩ : ∃ z, z = u_r_109 := ⟨_, rfl⟩
      try dsimp only at hw_r_109
      have hP : va_P D vwCl (@HAppend.hAppend va_W va_W va_W _ [(qz, .inl (cS, 4, .inr (.inr (.inr (.inr (xSh s0 s1 s2 s3)))))), (s0, .inr (4, [.int bt0, .int (nI (sz0)), .ref sn0])), (s1, .inr (4, [.int bt1, .int (nI (sz1)), .ref sn1])), (s2, .inr (4, [.int bt2, .int (nI (sz2)), .ref sn2])), (s3, .inr (4, [.int bt3, .int (nI (sz3)), .ref sn3])), (sn0, .inl (cJ, 40, .inr (.inl nu0))), (sn1, .inl (cJ, 40, .inr (.inl nu1))), (sn2, .inl (cJ, 40, .inr (.inl nu2))), (sn3, .inl (cJ, 40, .inr (.inl nu3))), (g0, .inr (9, [.ref m_ys, .ref m_yk, .ref m_yo, .ref m_yt, .int b0, .ref m_yfa, .ref m_yfe, .int m_mL, .int m_mS, .int m_mM, .ref m_yro, .ref m_yhe, .ref m_ygr, .int m_mF, .int m_mC, .int m_mY, .ref m_yta, .int (nI (z)), .int (nI (m_mf)), .int (nI (m_mt)), .int m_mv, .int m_mw, .ref m_ywa, .ref m_ybi, .ref m_ysi, .ref m_ynu, .ref m_ymo])), (m_yt, .inl (cI, 7, .inl m_mq)), (m_ybi, .inl (cI, 4, .inl m_bi)), (m_ysi, .inl (cI, 4, .inl m_sq)), (m_ynu, .inl (cJ, 160, .inr (.inl m_nb))), (m_ymo, .inl (cJ, 40, .inr (.inl m_mv9))), (h0, .inr (8, [.ref qh, .ref qk, .ref qd, .int b0, .ref qa, .ref qm, .ref qs, .ref qp, .ref ql, .ref qt, .ref qz, .ref qf])), (qf, .inl (cI, 7, .inl f2_110))] tl) H := hP
      have hD : va_D A (@HAppend.hAppend va_W va_W va_W _ [(qz, .inl (cS, 4, .inr (.inr (.inr (.inr (xSh s0 s1 s2 s3)))))), (s0, .inr (4, [.int bt0, .int (nI (sz0)), .ref sn0])), (s1, .inr (4, [.int bt1, .int (nI (sz1)), .ref sn1])), (s2, .inr (4, [.int bt2, .int (nI (sz2)), .ref sn2])), (s3, .inr (4, [.int bt3, .int (nI (sz3)), .ref sn3])), (sn0, .inl (cJ, 40, .inr (.inl nu0))), (sn1, .inl (cJ, 40, .inr (.inl nu1))), (sn2, .inl (cJ, 40, .inr (.inl nu2))), (sn3, .inl (cJ, 40, .inr (.inl nu3))), (g0, .inr (9, [.ref m_ys, .ref m_yk, .ref m_yo, .ref m_yt, .int b0, .ref m_yfa, .ref m_yfe, .int m_mL, .int m_mS, .int m_mM, .ref m_yro, .ref m_yhe, .ref m_ygr, .int m_mF, .int m_mC, .int m_mY, .ref m_yta, .int (nI (z)), .int (nI (m_mf)), .int (nI (m_mt)), .int m_mv, .int m_mw, .ref m_ywa, .ref m_ybi, .ref m_ysi, .ref m_ynu, .ref m_ymo])), (m_yt, .inl (cI, 7, .inl m_mq)), (m_ybi, .inl (cI, 4, .inl m_bi)), (m_ysi, .inl (cI, 4, .inl m_sq)), (m_ynu, .inl (cJ, 160, .inr (.inl m_nb))), (m_ymo, .inl (cJ, 40, .inr (.inl m_mv9))), (h0, .inr (8, [.ref qh, .ref qk, .ref qd, .int b0, .ref qa, .ref qm, .ref qs, .ref qp, .ref ql, .ref qt, .ref qz, .ref qf])), (qf, .inl (cI, 7, .inl f2_110))] tl) := hD
      subst hw_r_109
      refine lv_pop hx hb dL_law_1307 rfl ?_
      refine lv_aload_n hx hb dL_law_1308 rfl (lv_at hl 1 rfl) ?_
      refine lv_aload_n hx hb dL_law_1309 rfl (lv_at hl 3 rfl) ?_
      refine lv_iload_n hx hb dL_law_1310 rfl (lv_at hl 0 rfl) ?_
      refine lv_iconst (v := 1) hx hb dL_law_1311 (by decide) ?_
      refine lv_iadd hx hb dL_law_1312 ?_
      refine xl_i (y := nI (i + 1)) (nI_add i 1) ?_
      refine va_sld hx hb hX hbl hbA hS (x_si (k := 1) (by decide) hi hL) dL_law_1313 ?_
      refine xl_i (y := xs (i + 1)) (congrArg xs (x_sc (k := 1) (by decide) hi hL)) ?_
      refine xl_i (y := 2) eq1 ?_
      refine lv_aload_n hx hb dL_law_1314 rfl (lv_at hl 3 rfl) ?_
      refine lv_iload_n hx hb dL_law_1315 rfl (lv_at hl 0 rfl) ?_
      refine lv_iconst (v := 2) hx hb dL_law_1316 (by decide) ?_
      refine lv_iadd hx hb dL_law_1317 ?_
      refine xl_i (y := nI (i + 2)) (nI_add i 2) ?_
      refine va_sld hx hb hX hbl hbA hS (x_si (k := 2) (by decide) hi hL) dL_law_1318 ?_
      refine xl_i (y := xs (i + 2)) (congrArg xs (x_sc (k := 2) (by decide) hi hL)) ?_
      refine lv_aload_n hx hb dL_law_1319 rfl (lv_at hl 3 rfl) ?_
      refine lv_iload_n hx hb dL_law_1320 rfl (lv_at hl 0 rfl) ?_
      refine lv_iconst (v := 3) hx hb dL_law_1321 (by decide) ?_
      refine lv_iadd hx hb dL_law_1322 ?_
      refine xl_i (y := nI (i + 3)) (nI_add i 3) ?_
      refine va_sld hx hb hX hbl hbA hS (x_si (k := 3) (by decide) hi hL) dL_law_1323 ?_
      refine xl_i (y := xs (i + 3)) (congrArg xs (x_sc (k := 3) (by decide) hi hL)) ?_
      refine lv_aload_n hx hb dL_law_1324 rfl (lv_at hl 3 rfl) ?_
      refine lv_iload_n hx hb dL_law_1325 rfl (lv_at hl 0 rfl) ?_
      refine lv_iconst (v := 4) hx hb dL_law_1326 (by decide) ?_
      refine lv_iadd hx hb dL_law_1327 ?_
      refine xl_i (y := nI (i + 4)) (nI_add i 4) ?_
      refine va_sld hx hb hX hbl hbA hS (x_si (k := 4) (by decide) hi hL) dL_law_1328 ?_
      refine xl_i (y := xs (i + 4)) (congrArg xs (x_sc (k := 4) (by decide) hi hL)) ?_
      refine lv_aload_n hx hb dL_law_1329 rfl (lv_at hl 3 rfl) ?_
      refine lv_iload_n hx hb dL_law_1330 rfl (lv_at hl 0 rfl) ?_
      refine lv_iconst (v := 5) hx hb dL_law_1331 (by decide) ?_
      refine lv_iadd hx hb dL_law_1332 ?_
      refine xl_i (y := nI (i + 5)) (nI_add i 5) ?_
      refine va_sld hx hb hX hbl hbA hS (x_si (k := 5) (by decide) hi hL) dL_law_1333 ?_
      refine xl_i (y := xs (i + 5)) (congrArg xs (x_sc (k := 5) (by decide) hi hL)) ?_
      refine xc_ViT (wr := [(qz, .inl (cS, 4, .inr (.inr (.inr (.inr (xSh s0 s1 s2 s3)))))), (s0, .inr (4, [.int bt0, .int (nI (sz0)), .ref sn0])), (s1, .inr (4, [.int bt1, .int (nI (sz1)), .ref sn1])), (s2, .inr (4, [.int bt2, .int (nI (sz2)), .ref sn2])), (s3, .inr (4, [.int bt3, .int (nI (sz3)), .ref sn3])), (sn0, .inl (cJ, 40, .inr (.inl nu0))), (sn1, .inl (cJ, 40, .inr (.inl nu1))), (sn2, .inl (cJ, 40, .inr (.inl nu2))), (sn3, .inl (cJ, 40, .inr (.inl nu3))), (m_ybi, .inl (cI, 4, .inl m_bi)), (m_ysi, .inl (cI, 4, .inl m_sq)), (m_ynu, .inl (cJ, 160, .inr (.inl m_nb))), (m_ymo, .inl (cJ, 40, .inr (.inl m_mv9))), (h0, .inr (8, [.ref qh, .ref qk, .ref qd, .int b0, .ref qa, .ref qm, .ref qs, .ref qp, .ref ql, .ref qt, .ref qz, .ref qf])), (qf, .inl (cI, 7, .inl f2_110))]) hF (c_X9_copy_2o l D cI cJ cZ cS ta sa sv H.size g0 m_ys m_yk m_yo m_yt b0 m_yfa m_yfe m_mL m_mS m_mM m_yro m_yhe m_ygr m_mF m_mC m_mY m_yta z m_mf m_mt m_mv m_mw m_ywa m_ybi m_ysi m_ynu m_ymo m_mq (xs (i + 2)) (xs (i + 3)) (xs (i + 4)) (xs (i + 5)) oq3) kv_L_170 ⟨rfl, rfl, Nat.le_of_ble_eq_true rfl, Nat.le_of_ble_eq_true rfl⟩ ⟨Nat.le_of_ble_eq_true rfl, Nat.le_of_ble_eq_true rfl⟩ hK hN hZ hP hD hS hA [9, 10] [0, 1, 2, 3, 4, 5, 6, 7, 8, 11, 12, 13, 14, 15, 16] rfl rfl rfl (by decide +kernel) (by decide +kernel) 0 rfl rfl rfl rfl hl.1 rfl (Nat.le_of_ble_eq_true rfl) dL_law_1334 (fun r_111 u_r_111 H locs hw_r_111 hP hD hS => ?_)
      obtain ⟨mq2_112, rfl⟩ : ∃ z, z = u_r_111 := ⟨_, rfl⟩
      try dsimp only at hw_r_111
      have hP : va_P D vwCl (@HAppend.hAppend va_W va_W va_W _ [(qz, .inl (cS, 4, .inr (.inr (.inr (.inr (xSh s0 s1 s2 s3)))))), (s0, .inr (4, [.int bt0, .int (nI (sz0)), .ref sn0])), (s1, .inr (4, [.int bt1, .int (nI (sz1)), .ref sn1])), (s2, .inr (4, [.int bt2, .int (nI (sz2)), .ref sn2])), (s3, .inr (4, [.int bt3, .int (nI (sz3)), .ref sn3])), (sn0, .inl (cJ, 40, .inr (.inl nu0))), (sn1, .inl (cJ, 40, .inr (.inl nu1))), (sn2, .inl (cJ, 40, .inr (.inl nu2))), (sn3, .inl (cJ, 40, .inr (.inl nu3))), (m_ybi, .inl (cI, 4, .inl m_bi)), (m_ysi, .inl (cI, 4, .inl m_sq)), (m_ynu, .inl (cJ, 160, .inr (.inl m_nb))), (m_ymo, .inl (cJ, 40, .inr (.inl m_mv9))), (h0, .inr (8, [.ref qh, .ref qk, .ref qd, .int b0, .ref qa, .ref qm, .ref qs, .ref qp, .ref ql, .ref qt, .ref qz, .ref qf])), (qf, .inl (cI, 7, .inl f2_110)), (g0, .inr (9, [.ref m_ys, .ref m_yk, .ref m_yo, .ref m_yt, .int b0, .ref m_yfa, .ref m_yfe, .int m_mL, .int m_mS, .int m_mM, .ref m_yro, .ref m_yhe, .ref m_ygr, .int m_mF, .int m_mC, .int m_mY, .ref m_yta, .int (nI (z)), .int (nI (m_mf)), .int (nI (m_mt)), .int m_mv, .int m_mw, .ref m_ywa, .ref m_ybi, .ref m_ysi, .ref m_ynu, .ref m_ymo])), (m_yt, .inl (cI, 7, .inl mq2_112))] tl) H := hP
      have hD : va_D A (@HAppend.hAppend va_W va_W va_W _ [(qz, .inl (cS, 4, .inr (.inr (.inr (.inr (xSh s0 s1 s2 s3)))))), (s0, .inr (4, [.int bt0, .int (nI (sz0)), .ref sn0])), (s1, .inr (4, [.int bt1, .int (nI (sz1)), .ref sn1])), (s2, .inr (4, [.int bt2, .int (nI (sz2)), .ref sn2])), (s3, .inr (4, [.int bt3, .int (nI (sz3)), .ref sn3])), (sn0, .inl (cJ, 40, .inr (.inl nu0))), (sn1, .inl (cJ, 40, .inr (.inl nu1))), (sn2, .inl (cJ, 40, .inr (.inl nu2))), (sn3, .inl (cJ, 40, .inr (.inl nu3))), (m_ybi, .inl (cI, 4, .inl m_bi)), (m_ysi, .inl (cI, 4, .inl m_sq)), (m_ynu, .inl (cJ, 160, .inr (.inl m_nb))), (m_ymo, .inl (cJ, 40, .inr (.inl m_mv9))), (h0, .inr (8, [.ref qh, .ref qk, .ref qd, .int b0, .ref qa, .ref qm, .ref qs, .ref qp, .ref ql, .ref qt, .ref qz, .ref qf])), (qf, .inl (cI, 7, .inl f2_110)), (g0, .inr (9, [.ref m_ys, .ref m_yk, .ref m_yo, .ref m_yt, .int b0, .ref m_yfa, .ref m_yfe, .int m_mL, .int m_mS, .int m_mM, .ref m_yro, .ref m_yhe, .ref m_ygr, .int m_mF, .int m_mC, .int m_mY, .ref m_yta, .int (nI (z)), .int (nI (m_mf)), .int (nI (m_mt)), .int m_mv, .int m_mw, .ref m_ywa, .ref m_ybi, .ref m_ysi, .ref m_ynu, .ref m_ymo])), (m_yt, .inl (cI, 7, .inl mq2_112))] tl) := hD
      subst hw_r_111
      refine lv_pop hx hb dL_law_1337 rfl ?_
      refine lv_goto (tgt := 1482) hx hb dL_law_1338 (by decide) ?_
      exact kkx _ _ _ nu0 nu1 nu2 nu3 f2_110 mq2_112 m_nb m_mv9 (xt_P hP [13, 0, 1, 2, 3, 4, 5, 6, 7, 8, 14, 15, 16, 9, 10, 11, 12] rfl) (xt_D hD [13, 0, 1, 2, 3, 4, 5, 6, 7, 8, 14, 15, 16, 9, 10, 11, 12] (by decide +kernel) rfl) r_n0 r_n1 r_n2 r_n3 hS hl
    · skip
      refine lv_aload_n hx hb dL_law_1279 rfl (lv_at hl 3 rfl) ?_
      refine lv_iload_n hx hb dL_law_1280 rfl (lv_at hl 0 rfl) ?_
      refine lv_iconst (v := 1) hx hb dL_law_1281 (by decide) ?_
      refine lv_iadd hx hb dL_law_1282 ?_
      refine xl_i (y := nI (i + 1)) (nI_add i 1) ?_
      refine va_sld hx hb hX hbl hbA hS (x_si (k := 1) (by decide) hi hL) dL_law_1283 ?_
      refine xl_i (y := xs (i + 1)) (congrArg xs (x_sc (k := 1) (by decide) hi hL)) ?_
      refine xl_i (y := 2) eq1 ?_
      refine lv_aload_n hx hb dL_law_1284 rfl (lv_at hl 3 rfl) ?_
      refine lv_iload_n hx hb dL_law_1285 rfl (lv_at hl 0 rfl) ?_
      refine lv_iconst (v := 2) hx hb dL_law_1286 (by decide) ?_
      refine lv_iadd hx hb dL_law_1287 ?_
      refine xl_i (y := nI (i + 2)) (nI_add i 2) ?_
      refine va_sld hx hb hX hbl hbA hS (x_si (k := 2) (by decide) hi hL) dL_law_1288 ?_
      refine xl_i (y := xs (i + 2)) (congrArg xs (x_sc (k := 2) (by decide) hi hL)) ?_
      refine lv_aload_n hx hb dL_law_1289 rfl (lv_at hl 3 rfl) ?_
      refine lv_iload_n hx hb dL_law_1290 rfl (lv_at hl 0 rfl) ?_
      refine lv_iconst (v := 3) hx hb dL_law_1291 (by decide) ?_
      refine lv_iadd hx hb dL_law_1292 ?_
      refine xl_i (y := nI (i + 3)) (nI_add i 3) ?_
      refine va_sld hx hb hX hbl hbA hS (x_si (k := 3) (by decide) hi hL) dL_law_1293 ?_
      refine xl_i (y := xs (i + 3)) (congrArg xs (x_sc (k := 3) (by decide) hi hL)) ?_
      refine xl_i (y := 0) eq3 ?_
      refine lv_aload_n hx hb dL_law_1294 rfl (lv_at hl 3 rfl) ?_
      refine lv_iload_n hx hb dL_law_1295 rfl (lv_at hl 0 rfl) ?_
      refine lv_iconst (v := 4) hx hb dL_law_1296 (by decide) ?_
      refine lv_iadd hx hb dL_law_1297 ?_
      refine xl_i (y := nI (i + 4)) (nI_add i 4) ?_
      refine va_sld hx hb hX hbl hbA hS (x_si (k := 4) (by decide) hi hL) dL_law_1298 ?_
      refine xl_i (y := xs (i + 4)) (congrArg xs (x_sc (k := 4) (by decide) hi hL)) ?_
      refine lv_aload_n hx hb dL_law_1299 rfl (lv_at hl 3 rfl) ?_
      refine lv_iload_n hx hb dL_law_1300 rfl (lv_at hl 0 rfl) ?_
      refine lv_iconst (v := 5) hx hb dL_law_1301 (by decide) ?_
      refine lv_iadd hx hb dL_law_1302 ?_
      refine xl_i (y := nI (i + 5)) (nI_add i 5) ?_
      refine va_sld hx hb hX hbl hbA hS (x_si (k := 5) (by decide) hi hL) dL_law_1303 ?_
      refine xl_i (y := xs (i + 5)) (congrArg xs (x_sc (k := 5) (by decide) hi hL)) ?_
      refine xc_ViT (wr := [(g0, .inr (9, [.ref m_ys, .ref m_yk, .ref m_yo, .ref m_yt, .int b0, .ref m_yfa, .ref m_yfe, .int m_mL, .int m_mS, .int m_mM, .ref m_yro, .ref m_yhe, .ref m_ygr, .int m_mF, .int m_mC, .int m_mY, .ref m_yta, .int (nI (z)), .int (nI (m_mf)), .int (nI (m_mt)), .int m_mv, .int m_mw, .ref m_ywa, .ref m_ybi, .ref m_ysi, .ref m_ynu, .ref m_ymo])), (m_yt, .inl (cI, 7, .inl m_mq)), (m_ybi, .inl (cI, 4, .inl m_bi)), (m_ysi, .inl (cI, 4, .inl m_sq)), (m_ynu, .inl (cJ, 160, .inr (.inl m_nb))), (m_ymo, .inl (cJ, 40, .inr (.inl m_mv9)))]) hF (c_X8_copy_20 l D cI cJ cZ cS ta sa sv H.size h0 qh qk qd b0 qa qm qs qp ql qt qz qf s0 s1 s2 s3 bt0 sz0 sn0 bt1 sz1 sn1 bt2 sz2 sn2 bt3 sz3 sn3 nu0 nu1 nu2 nu3 ff (xs (i + 2)) (xs (i + 4)) (xs (i + 5)) hsz0 hsz1 hsz2 hsz3) kv_L_166 ⟨rfl, rfl, Nat.le_of_ble_eq_true rfl, Nat.le_of_ble_eq_true rfl⟩ ⟨Nat.le_of_ble_eq_true rfl, Nat.le_of_ble_eq_true rfl⟩ hK hN hZ hP hD hS hA [0, 1, 2, 3, 4, 5, 6, 7, 8, 9, 10] [11, 12, 13, 14, 15, 16] rfl rfl (by decide +kernel) (by decide +kernel) (by decide +kernel) 0 rfl rfl rfl rfl hl.1 rfl (Nat.le_of_ble_eq_true rfl) dL_law_1304 (fun r_113 u_r_113 H locs hw_r_113 hP hD hS => ?_)
      obtain ⟨nv_114, f2_115⟩ := u_r_113
      try dsimp only at hw_r_113
      obtain ⟨hw_r_113, i_116⟩ := hw_r_113
      have hP : va_P D vwCl (@HAppend.hAppend va_W va_W va_W _ [(g0, .inr (9, [.ref m_ys, .ref m_yk, .ref m_yo, .ref m_yt, .int b0, .ref m_yfa, .ref m_yfe, .int m_mL, .int m_mS, .int m_mM, .ref m_yro, .ref m_yhe, .ref m_ygr, .int m_mF, .int m_mC, .int m_mY, .ref m_yta, .int (nI (z)), .int (nI (m_mf)), .int (nI (m_mt)), .int m_mv, .int m_mw, .ref m_ywa, .ref m_ybi, .ref m_ysi, .ref m_ynu, .ref m_ymo])), (m_yt, .inl (cI, 7, .inl m_mq)), (m_ybi, .inl (cI, 4, .inl m_bi)), (m_ysi, .inl (cI, 4, .inl m_sq)), (m_ynu, .inl (cJ, 160, .inr (.inl m_nb))), (m_ymo, .inl (cJ, 40, .inr (.inl m_mv9))), (h0, .inr (8, [.ref qh, .ref qk, .ref qd, .int b0, .ref qa, .ref qm, .ref qs, .ref qp, .ref ql, .ref qt, .ref qz, .ref qf])), (qz, .inl (cS, 4, .inr (.inr (.inr (.inr (xSh s0 s1 s2 s3)))))), (s0, .inr (4, [.int bt0, .int (nI (sz0)), .ref sn0])), (s1, .inr (4, [.int bt1, .int (nI (sz1)), .ref sn1])), (s2, .inr (4, [.int bt2, .int (nI (sz2)), .ref sn2])), (s3, .inr (4, [.int bt3, .int (nI (sz3)), .ref sn3])), (sn0, .inl (cJ, 40, .inr (.inl nv_114))), (sn1, .inl (cJ, 40, .inr (.inl nu1))), (sn2, .inl (cJ, 40, .inr (.inl nu2))), (sn3, .inl (cJ, 40, .inr (.inl nu3))), (qf, .inl (cI, 7, .inl f2_115))] tl) H := hP
      have hD : va_D A (@HAppend.hAppend va_W va_W va_W _ [(g0, .inr (9, [.ref m_ys, .ref m_yk, .ref m_yo, .ref m_yt, .int b0, .ref m_yfa, .ref m_yfe, .int m_mL, .int m_mS, .int m_mM, .ref m_yro, .ref m_yhe, .ref m_ygr, .int m_mF, .int m_mC, .int m_mY, .ref m_yta, .int (nI (z)), .int (nI (m_mf)), .int (nI (m_mt)), .int m_mv, .int m_mw, .ref m_ywa, .ref m_ybi, .ref m_ysi, .ref m_ynu, .ref m_ymo])), (m_yt, .inl (cI, 7, .inl m_mq)), (m_ybi, .inl (cI, 4, .inl m_bi)), (m_ysi, .inl (cI, 4, .inl m_sq)), (m_ynu, .inl (cJ, 160, .inr (.inl m_nb))), (m_ymo, .inl (cJ, 40, .inr (.inl m_mv9))), (h0, .inr (8, [.ref qh, .ref qk, .ref qd, .int b0, .ref qa, .ref qm, .ref qs, .ref qp, .ref ql, .ref qt, .ref qz, .ref qf])), (qz, .inl (cS, 4, .inr (.inr (.inr (.inr (xSh s0 s1 s2 s3)))))), (s0, .inr (4, [.int bt0, .int (nI (sz0)), .ref sn0])), (s1, .inr (4, [.int bt1, .int (nI (sz1)), .ref sn1])), (s2, .inr (4, [.int bt2, .int (nI (sz2)), .ref sn2])), (s3, .inr (4, [.int bt3, .int (nI (sz3)), .ref sn3])), (sn0, .inl (cJ, 40, .inr (.inl nv_114))), (sn1, .inl (cJ, 40, .inr (.inl nu1))), (sn2, .inl (cJ, 40, .inr (.inl nu2))), (sn3, .inl (cJ, 40, .inr (.inl nu3))), (qf, .inl (cI, 7, .inl f2_115))] tl) := hD
      subst hw_r_113
      refine lv_pop hx hb dL_law_1307 rfl ?_
      refine lv_aload_n hx hb dL_law_1308 rfl (lv_at hl 1 rfl) ?_
      refine lv_aload_n hx hb dL_law_1309 rfl (lv_at hl 3 rfl) ?_
      refine lv_iload_n hx hb dL_law_1310 rfl (lv_at hl 0 rfl) ?_
      refine lv_iconst (v := 1) hx hb dL_law_1311 (by decide) ?_
      refine lv_iadd hx hb dL_law_1312 ?_
      refine xl_i (y := nI (i + 1)) (nI_add i 1) ?_
      refine va_sld hx hb hX hbl hbA hS (x_si (k := 1) (by decide) hi hL) dL_law_1313 ?_
      refine xl_i (y := xs (i + 1)) (congrArg xs (x_sc (k := 1) (by decide) hi hL)) ?_
      refine xl_i (y := 2) eq1 ?_
      refine lv_aload_n hx hb dL_law_1314 rfl (lv_at hl 3 rfl) ?_
      refine lv_iload_n hx hb dL_law_1315 rfl (lv_at hl 0 rfl) ?_
      refine lv_iconst (v := 2) hx hb dL_law_1316 (by decide) ?_
      refine lv_iadd hx hb dL_law_1317 ?_
      refine xl_i (y := nI (i + 2)) (nI_add i 2) ?_
      refine va_sld hx hb hX hbl hbA hS (x_si (k := 2) (by decide) hi hL) dL_law_1318 ?_
      refine xl_i (y := xs (i + 2)) (congrArg xs (x_sc (k := 2) (by decide) hi hL)) ?_
      refine lv_aload_n hx hb dL_law_1319 rfl (lv_at hl 3 rfl) ?_
      refine lv_iload_n hx hb dL_law_1320 rfl (lv_at hl 0 rfl) ?_
      refine lv_iconst (v := 3) hx hb dL_law_1321 (by decide) ?_
      refine lv_iadd hx hb dL_law_1322 ?_
      refine xl_i (y := nI (i + 3)) (nI_add i 3) ?_
      refine va_sld hx hb hX hbl hbA hS (x_si (k := 3) (by decide) hi hL) dL_law_1323 ?_
      refine xl_i (y := xs (i + 3)) (congrArg xs (x_sc (k := 3) (by decide) hi hL)) ?_
      refine xl_i (y := 0) eq3 ?_
      refine lv_aload_n hx hb dL_law_1324 rfl (lv_at hl 3 rfl) ?_
      refine lv_iload_n hx hb dL_law_1325 rfl (lv_at hl 0 rfl) ?_
      refine lv_iconst (v := 4) hx hb dL_law_1326 (by decide) ?_
      refine lv_iadd hx hb dL_law_1327 ?_
      refine xl_i (y := nI (i + 4)) (nI_add i 4) ?_
      refine va_sld hx hb hX hbl hbA hS (x_si (k := 4) (by decide) hi hL) dL_law_1328 ?_
      refine xl_i (y := xs (i + 4)) (congrArg xs (x_sc (k := 4) (by decide) hi hL)) ?_
      refine lv_aload_n hx hb dL_law_1329 rfl (lv_at hl 3 rfl) ?_
      refine lv_iload_n hx hb dL_law_1330 rfl (lv_at hl 0 rfl) ?_
      refine lv_iconst (v := 5) hx hb dL_law_1331 (by decide) ?_
      refine lv_iadd hx hb dL_law_1332 ?_
      refine xl_i (y := nI (i + 5)) (nI_add i 5) ?_
      refine va_sld hx hb hX hbl hbA hS (x_si (k := 5) (by decide) hi hL) dL_law_1333 ?_
      refine xl_i (y := xs (i + 5)) (congrArg xs (x_sc (k := 5) (by decide) hi hL)) ?_
      refine xc_ViT (wr := [(h0, .inr (8, [.ref qh, .ref qk, .ref qd, .int b0, .ref qa, .ref qm, .ref qs, .ref qp, .ref ql, .ref qt, .ref qz, .ref qf])), (qz, .inl (cS, 4, .inr (.inr (.inr (.inr (xSh s0 s1 s2 s3)))))), (s0, .inr (4, [.int bt0, .int (nI (sz0)), .ref sn0])), (s1, .inr (4, [.int bt1, .int (nI (sz1)), .ref sn1])), (s2, .inr (4, [.int bt2, .int (nI (sz2)), .ref sn2])), (s3, .inr (4, [.int bt3, .int (nI (sz3)), .ref sn3])), (sn0, .inl (cJ, 40, .inr (.inl nv_114))), (sn1, .inl (cJ, 40, .inr (.inl nu1))), (sn2, .inl (cJ, 40, .inr (.inl nu2))), (sn3, .inl (cJ, 40, .inr (.inl nu3))), (qf, .inl (cI, 7, .inl f2_115))]) hF (c_X9_copy_20 l D cI cJ cZ cS ta sa sv H.size g0 m_ys m_yk m_yo m_yt b0 m_yfa m_yfe m_mL m_mS m_mM m_yro m_yhe m_ygr m_mF m_mC m_mY m_yta z m_mf m_mt m_mv m_mw m_ywa m_ybi m_ysi m_ynu m_ymo m_bi m_sq m_nb m_mv9 m_mq (xs (i + 2)) (xs (i + 4)) (xs (i + 5)) sz2 sz0 r_z2 hsz2 r_z0 hsz0 m_hsq) kv_L_170 ⟨rfl, rfl, Nat.le_of_ble_eq_true rfl, Nat.le_of_ble_eq_true rfl⟩ ⟨Nat.le_of_ble_eq_true rfl, Nat.le_of_ble_eq_true rfl⟩ hK hN hZ hP hD hS hA [0, 2, 3, 4, 5, 1] [6, 7, 8, 9, 10, 11, 12, 13, 14, 15, 16] rfl rfl (by decide +kernel) (by decide +kernel) (by decide +kernel) 0 rfl rfl rfl rfl hl.1 rfl (Nat.le_of_ble_eq_true rfl) dL_law_1334 (fun r_117 u_r_117 H locs hw_r_117 hP hD hS => ?_)
      obtain ⟨nb2_118, mv2_119, mq2_120⟩ := u_r_117
      try dsimp only at hw_r_117
      obtain ⟨hw_r_117, i_121, i_122⟩ := hw_r_117
      have hP : va_P D vwCl (@HAppend.hAppend va_W va_W va_W _ [(h0, .inr (8, [.ref qh, .ref qk, .ref qd, .int b0, .ref qa, .ref qm, .ref qs, .ref qp, .ref ql, .ref qt, .ref qz, .ref qf])), (qz, .inl (cS, 4, .inr (.inr (.inr (.inr (xSh s0 s1 s2 s3)))))), (s0, .inr (4, [.int bt0, .int (nI (sz0)), .ref sn0])), (s1, .inr (4, [.int bt1, .int (nI (sz1)), .ref sn1])), (s2, .inr (4, [.int bt2, .int (nI (sz2)), .ref sn2])), (s3, .inr (4, [.int bt3, .int (nI (sz3)), .ref sn3])), (sn0, .inl (cJ, 40, .inr (.inl nv_114))), (sn1, .inl (cJ, 40, .inr (.inl nu1))), (sn2, .inl (cJ, 40, .inr (.inl nu2))), (sn3, .inl (cJ, 40, .inr (.inl nu3))), (qf, .inl (cI, 7, .inl f2_115)), (g0, .inr (9, [.ref m_ys, .ref m_yk, .ref m_yo, .ref m_yt, .int b0, .ref m_yfa, .ref m_yfe, .int m_mL, .int m_mS, .int m_mM, .ref m_yro, .ref m_yhe, .ref m_ygr, .int m_mF, .int m_mC, .int m_mY, .ref m_yta, .int (nI (z)), .int (nI (m_mf)), .int (nI (m_mt)), .int m_mv, .int m_mw, .ref m_ywa, .ref m_ybi, .ref m_ysi, .ref m_ynu, .ref m_ymo])), (m_ybi, .inl (cI, 4, .inl m_bi)), (m_ysi, .inl (cI, 4, .inl m_sq)), (m_ynu, .inl (cJ, 160, .inr (.inl nb2_118))), (m_ymo, .inl (cJ, 40, .inr (.inl mv2_119))), (m_yt, .inl (cI, 7, .inl mq2_120))] tl) H := hP
      have hD : va_D A (@HAppend.hAppend va_W va_W va_W _ [(h0, .inr (8, [.ref qh, .ref qk, .ref qd, .int b0, .ref qa, .ref qm, .ref qs, .ref qp, .ref ql, .ref qt, .ref qz, .ref qf])), (qz, .inl (cS, 4, .inr (.inr (.inr (.inr (xSh s0 s1 s2 s3)))))), (s0, .inr (4, [.int bt0, .int (nI (sz0)), .ref sn0])), (s1, .inr (4, [.int bt1, .int (nI (sz1)), .ref sn1])), (s2, .inr (4, [.int bt2, .int (nI (sz2)), .ref sn2])), (s3, .inr (4, [.int bt3, .int (nI (sz3)), .ref sn3])), (sn0, .inl (cJ, 40, .inr (.inl nv_114))), (sn1, .inl (cJ, 40, .inr (.inl nu1))), (sn2, .inl (cJ, 40, .inr (.inl nu2))), (sn3, .inl (cJ, 40, .inr (.inl nu3))), (qf, .inl (cI, 7, .inl f2_115)), (g0, .inr (9, [.ref m_ys, .ref m_yk, .ref m_yo, .ref m_yt, .int b0, .ref m_yfa, .ref m_yfe, .int m_mL, .int m_mS, .int m_mM, .ref m_yro, .ref m_yhe, .ref m_ygr, .int m_mF, .int m_mC, .int m_mY, .ref m_yta, .int (nI (z)), .int (nI (m_mf)), .int (nI (m_mt)), .int m_mv, .int m_mw, .ref m_ywa, .ref m_ybi, .ref m_ysi, .ref m_ynu, .ref m_ymo])), (m_ybi, .inl (cI, 4, .inl m_bi)), (m_ysi, .inl (cI, 4, .inl m_sq)), (m_ynu, .inl (cJ, 160, .inr (.inl nb2_118))), (m_ymo, .inl (cJ, 40, .inr (.inl mv2_119))), (m_yt, .inl (cI, 7, .inl mq2_120))] tl) := hD
      subst hw_r_117
      refine lv_pop hx hb dL_law_1337 rfl ?_
      refine lv_goto (tgt := 1482) hx hb dL_law_1338 (by decide) ?_
      exact kkx _ _ _ nv_114 nu1 nu2 nu3 f2_115 mq2_120 nb2_118 mv2_119 (xt_P hP [0, 1, 2, 3, 4, 5, 6, 7, 8, 9, 10, 11, 16, 12, 13, 14, 15] rfl) (xt_D hD [0, 1, 2, 3, 4, 5, 6, 7, 8, 9, 10, 11, 16, 12, 13, 14, 15] (by decide +kernel) rfl) (fun j hj => (i_121 j).trans ((sp_cneq r_b2 r_b0 r_n2 (by omega) (r_n0 j hj)).trans (i_116 j).symm)) (fun j hj => (i_122 (40 + j) (by omega)).trans (r_n1 j hj)) (fun j hj => (i_122 (80 + j) (by omega)).trans (r_n2 j hj)) (fun j hj => (i_122 (120 + j) (by omega)).trans (r_n3 j hj)) hS hl
    · skip
      refine lv_aload_n hx hb dL_law_1279 rfl (lv_at hl 3 rfl) ?_
      refine lv_iload_n hx hb dL_law_1280 rfl (lv_at hl 0 rfl) ?_
      refine lv_iconst (v := 1) hx hb dL_law_1281 (by decide) ?_
      refine lv_iadd hx hb dL_law_1282 ?_
      refine xl_i (y := nI (i + 1)) (nI_add i 1) ?_
      refine va_sld hx hb hX hbl hbA hS (x_si (k := 1) (by decide) hi hL) dL_law_1283 ?_
      refine xl_i (y := xs (i + 1)) (congrArg xs (x_sc (k := 1) (by decide) hi hL)) ?_
      refine xl_i (y := 2) eq1 ?_
      refine lv_aload_n hx hb dL_law_1284 rfl (lv_at hl 3 rfl) ?_
      refine lv_iload_n hx hb dL_law_1285 rfl (lv_at hl 0 rfl) ?_
      refine lv_iconst (v := 2) hx hb dL_law_1286 (by decide) ?_
      refine lv_iadd hx hb dL_law_1287 ?_
      refine xl_i (y := nI (i + 2)) (nI_add i 2) ?_
      refine va_sld hx hb hX hbl hbA hS (x_si (k := 2) (by decide) hi hL) dL_law_1288 ?_
      refine xl_i (y := xs (i + 2)) (congrArg xs (x_sc (k := 2) (by decide) hi hL)) ?_
      refine lv_aload_n hx hb dL_law_1289 rfl (lv_at hl 3 rfl) ?_
      refine lv_iload_n hx hb dL_law_1290 rfl (lv_at hl 0 rfl) ?_
      refine lv_iconst (v := 3) hx hb dL_law_1291 (by decide) ?_
      refine lv_iadd hx hb dL_law_1292 ?_
      refine xl_i (y := nI (i + 3)) (nI_add i 3) ?_
      refine va_sld hx hb hX hbl hbA hS (x_si (k := 3) (by decide) hi hL) dL_law_1293 ?_
      refine xl_i (y := xs (i + 3)) (congrArg xs (x_sc (k := 3) (by decide) hi hL)) ?_
      refine xl_i (y := 1) eq3 ?_
      refine lv_aload_n hx hb dL_law_1294 rfl (lv_at hl 3 rfl) ?_
      refine lv_iload_n hx hb dL_law_1295 rfl (lv_at hl 0 rfl) ?_
      refine lv_iconst (v := 4) hx hb dL_law_1296 (by decide) ?_
      refine lv_iadd hx hb dL_law_1297 ?_
      refine xl_i (y := nI (i + 4)) (nI_add i 4) ?_
      refine va_sld hx hb hX hbl hbA hS (x_si (k := 4) (by decide) hi hL) dL_law_1298 ?_
      refine xl_i (y := xs (i + 4)) (congrArg xs (x_sc (k := 4) (by decide) hi hL)) ?_
      refine lv_aload_n hx hb dL_law_1299 rfl (lv_at hl 3 rfl) ?_
      refine lv_iload_n hx hb dL_law_1300 rfl (lv_at hl 0 rfl) ?_
      refine lv_iconst (v := 5) hx hb dL_law_1301 (by decide) ?_
      refine lv_iadd hx hb dL_law_1302 ?_
      refine xl_i (y := nI (i + 5)) (nI_add i 5) ?_
      refine va_sld hx hb hX hbl hbA hS (x_si (k := 5) (by decide) hi hL) dL_law_1303 ?_
      refine xl_i (y := xs (i + 5)) (congrArg xs (x_sc (k := 5) (by decide) hi hL)) ?_
      refine xc_ViT (wr := [(g0, .inr (9, [.ref m_ys, .ref m_yk, .ref m_yo, .ref m_yt, .int b0, .ref m_yfa, .ref m_yfe, .int m_mL, .int m_mS, .int m_mM, .ref m_yro, .ref m_yhe, .ref m_ygr, .int m_mF, .int m_mC, .int m_mY, .ref m_yta, .int (nI (z)), .int (nI (m_mf)), .int (nI (m_mt)), .int m_mv, .int m_mw, .ref m_ywa, .ref m_ybi, .ref m_ysi, .ref m_ynu, .ref m_ymo])), (m_yt, .inl (cI, 7, .inl m_mq)), (m_ybi, .inl (cI, 4, .inl m_bi)), (m_ysi, .inl (cI, 4, .inl m_sq)), (m_ynu, .inl (cJ, 160, .inr (.inl m_nb))), (m_ymo, .inl (cJ, 40, .inr (.inl m_mv9)))]) hF (c_X8_copy_21 l D cI cJ cZ cS ta sa sv H.size h0 qh qk qd b0 qa qm qs qp ql qt qz qf s0 s1 s2 s3 bt0 sz0 sn0 bt1 sz1 sn1 bt2 sz2 sn2 bt3 sz3 sn3 nu0 nu1 nu2 nu3 ff (xs (i + 2)) (xs (i + 4)) (xs (i + 5)) hsz0 hsz1 hsz2 hsz3) kv_L_166 ⟨rfl, rfl, Nat.le_of_ble_eq_true rfl, Nat.le_of_ble_eq_true rfl⟩ ⟨Nat.le_of_ble_eq_true rfl, Nat.le_of_ble_eq_true rfl⟩ hK hN hZ hP hD hS hA [0, 1, 2, 3, 4, 5, 6, 7, 8, 9, 10] [11, 12, 13, 14, 15, 16] rfl rfl (by decide +kernel) (by decide +kernel) (by decide +kernel) 0 rfl rfl rfl rfl hl.1 rfl (Nat.le_of_ble_eq_true rfl) dL_law_1304 (fun r_123 u_r_123 H locs hw_r_123 hP hD hS => ?_)
      obtain ⟨nv_124, f2_125⟩ := u_r_123
      try dsimp only at hw_r_123
      obtain ⟨hw_r_123, i_126⟩ := hw_r_123
      have hP : va_P D vwCl (@HAppend.hAppend va_W va_W va_W _ [(g0, .inr (9, [.ref m_ys, .ref m_yk, .ref m_yo, .ref m_yt, .int b0, .ref m_yfa, .ref m_yfe, .int m_mL, .int m_mS, .int m_mM, .ref m_yro, .ref m_yhe, .ref m_ygr, .int m_mF, .int m_mC, .int m_mY, .ref m_yta, .int (nI (z)), .int (nI (m_mf)), .int (nI (m_mt)), .int m_mv, .int m_mw, .ref m_ywa, .ref m_ybi, .ref m_ysi, .ref m_ynu, .ref m_ymo])), (m_yt, .inl (cI, 7, .inl m_mq)), (m_ybi, .inl (cI, 4, .inl m_bi)), (m_ysi, .inl (cI, 4, .inl m_sq)), (m_ynu, .inl (cJ, 160, .inr (.inl m_nb))), (m_ymo, .inl (cJ, 40, .inr (.inl m_mv9))), (h0, .inr (8, [.ref qh, .ref qk, .ref qd, .int b0, .ref qa, .ref qm, .ref qs, .ref qp, .ref ql, .ref qt, .ref qz, .ref qf])), (qz, .inl (cS, 4, .inr (.inr (.inr (.inr (xSh s0 s1 s2 s3)))))), (s0, .inr (4, [.int bt0, .int (nI (sz0)), .ref sn0])), (s1, .inr (4, [.int bt1, .int (nI (sz1)), .ref sn1])), (s2, .inr (4, [.int bt2, .int (nI (sz2)), .ref sn2])), (s3, .inr (4, [.int bt3, .int (nI (sz3)), .ref sn3])), (sn0, .inl (cJ, 40, .inr (.inl nu0))), (sn1, .inl (cJ, 40, .inr (.inl nv_124))), (sn2, .inl (cJ, 40, .inr (.inl nu2))), (sn3, .inl (cJ, 40, .inr (.inl nu3))), (qf, .inl (cI, 7, .inl f2_125))] tl) H := hP
      have hD : va_D A (@HAppend.hAppend va_W va_W va_W _ [(g0, .inr (9, [.ref m_ys, .ref m_yk, .ref m_yo, .ref m_yt, .int b0, .ref m_yfa, .ref m_yfe, .int m_mL, .int m_mS, .int m_mM, .ref m_yro, .ref m_yhe, .ref m_ygr, .int m_mF, .int m_mC, .int m_mY, .ref m_yta, .int (nI (z)), .int (nI (m_mf)), .int (nI (m_mt)), .int m_mv, .int m_mw, .ref m_ywa, .ref m_ybi, .ref m_ysi, .ref m_ynu, .ref m_ymo])), (m_yt, .inl (cI, 7, .inl m_mq)), (m_ybi, .inl (cI, 4, .inl m_bi)), (m_ysi, .inl (cI, 4, .inl m_sq)), (m_ynu, .inl (cJ, 160, .inr (.inl m_nb))), (m_ymo, .inl (cJ, 40, .inr (.inl m_mv9))), (h0, .inr (8, [.ref qh, .ref qk, .ref qd, .int b0, .ref qa, .ref qm, .ref qs, .ref qp, .ref ql, .ref qt, .ref qz, .ref qf])), (qz, .inl (cS, 4, .inr (.inr (.inr (.inr (xSh s0 s1 s2 s3)))))), (s0, .inr (4, [.int bt0, .int (nI (sz0)), .ref sn0])), (s1, .inr (4, [.int bt1, .int (nI (sz1)), .ref sn1])), (s2, .inr (4, [.int bt2, .int (nI (sz2)), .ref sn2])), (s3, .inr (4, [.int bt3, .int (nI (sz3)), .ref sn3])), (sn0, .inl (cJ, 40, .inr (.inl nu0))), (sn1, .inl (cJ, 40, .inr (.inl nv_124))), (sn2, .inl (cJ, 40, .inr (.inl nu2))), (sn3, .inl (cJ, 40, .inr (.inl nu3))), (qf, .inl (cI, 7, .inl f2_125))] tl) := hD
      subst hw_r_123
      refine lv_pop hx hb dL_law_1307 rfl ?_
      refine lv_aload_n hx hb dL_law_1308 rfl (lv_at hl 1 rfl) ?_
      refine lv_aload_n hx hb dL_law_1309 rfl (lv_at hl 3 rfl) ?_
      refine lv_iload_n hx hb dL_law_1310 rfl (lv_at hl 0 rfl) ?_
      refine lv_iconst (v := 1) hx hb dL_law_1311 (by decide) ?_
      refine lv_iadd hx hb dL_law_1312 ?_
      refine xl_i (y := nI (i + 1)) (nI_add i 1) ?_
      refine va_sld hx hb hX hbl hbA hS (x_si (k := 1) (by decide) hi hL) dL_law_1313 ?_
      refine xl_i (y := xs (i + 1)) (congrArg xs (x_sc (k := 1) (by decide) hi hL)) ?_
      refine xl_i (y := 2) eq1 ?_
      refine lv_aload_n hx hb dL_law_1314 rfl (lv_at hl 3 rfl) ?_
      refine lv_iload_n hx hb dL_law_1315 rfl (lv_at hl 0 rfl) ?_
      refine lv_iconst (v := 2) hx hb dL_law_1316 (by decide) ?_
      refine lv_iadd hx hb dL_law_1317 ?_
      refine xl_i (y := nI (i + 2)) (nI_add i 2) ?_
      refine va_sld hx hb hX hbl hbA hS (x_si (k := 2) (by decide) hi hL) dL_law_1318 ?_
      refine xl_i (y := xs (i + 2)) (congrArg xs (x_sc (k := 2) (by decide) hi hL)) ?_
      refine lv_aload_n hx hb dL_law_1319 rfl (lv_at hl 3 rfl) ?_
      refine lv_iload_n hx hb dL_law_1320 rfl (lv_at hl 0 rfl) ?_
      refine lv_iconst (v := 3) hx hb dL_law_1321 (by decide) ?_
      refine lv_iadd hx hb dL_law_1322 ?_
      refine xl_i (y := nI (i + 3)) (nI_add i 3) ?_
      refine va_sld hx hb hX hbl hbA hS (x_si (k := 3) (by decide) hi hL) dL_law_1323 ?_
      refine xl_i (y := xs (i + 3)) (congrArg xs (x_sc (k := 3) (by decide) hi hL)) ?_
      refine xl_i (y := 1) eq3 ?_
      refine lv_aload_n hx hb dL_law_1324 rfl (lv_at hl 3 rfl) ?_
      refine lv_iload_n hx hb dL_law_1325 rfl (lv_at hl 0 rfl) ?_
      refine lv_iconst (v := 4) hx hb dL_law_1326 (by decide) ?_
      refine lv_iadd hx hb dL_law_1327 ?_
      refine xl_i (y := nI (i + 4)) (nI_add i 4) ?_
      refine va_sld hx hb hX hbl hbA hS (x_si (k := 4) (by decide) hi hL) dL_law_1328 ?_
      refine xl_i (y := xs (i + 4)) (congrArg xs (x_sc (k := 4) (by decide) hi hL)) ?_
      refine lv_aload_n hx hb dL_law_1329 rfl (lv_at hl 3 rfl) ?_
      refine lv_iload_n hx hb dL_law_1330 rfl (lv_at hl 0 rfl) ?_
      refine lv_iconst (v := 5) hx hb dL_law_1331 (by decide) ?_
      refine lv_iadd hx hb dL_law_1332 ?_
      refine xl_i (y := nI (i + 5)) (nI_add i 5) ?_
      refine va_sld hx hb hX hbl hbA hS (x_si (k := 5) (by decide) hi hL) dL_law_1333 ?_
      refine xl_i (y := xs (i + 5)) (congrArg xs (x_sc (k := 5) (by decide) hi hL)) ?_
      refine xc_ViT (wr := [(h0, .inr (8, [.ref qh, .ref qk, .ref qd, .int b0, .ref qa, .ref qm, .ref qs, .ref qp, .ref ql, .ref qt, .ref qz, .ref qf])), (qz, .inl (cS, 4, .inr (.inr (.inr (.inr (xSh s0 s1 s2 s3)))))), (s0, .inr (4, [.int bt0, .int (nI (sz0)), .ref sn0])), (s1, .inr (4, [.int bt1, .int (nI (sz1)), .ref sn1])), (s2, .inr (4, [.int bt2, .int (nI (sz2)), .ref sn2])), (s3, .inr (4, [.int bt3, .int (nI (sz3)), .ref sn3])), (sn0, .inl (cJ, 40, .inr (.inl nu0))), (sn1, .inl (cJ, 40, .inr (.inl nv_124))), (sn2, .inl (cJ, 40, .inr (.inl nu2))), (sn3, .inl (cJ, 40, .inr (.inl nu3))), (qf, .inl (cI, 7, .inl f2_125))]) hF (c_X9_copy_21 l D cI cJ cZ cS ta sa sv H.size g0 m_ys m_yk m_yo m_yt b0 m_yfa m_yfe m_mL m_mS m_mM m_yro m_yhe m_ygr m_mF m_mC m_mY m_yta z m_mf m_mt m_mv m_mw m_ywa m_ybi m_ysi m_ynu m_ymo m_bi m_sq m_nb m_mv9 m_mq (xs (i + 2)) (xs (i + 4)) (xs (i + 5)) sz2 sz1 r_z2 hsz2 r_z1 hsz1 m_hsq) kv_L_170 ⟨rfl, rfl, Nat.le_of_ble_eq_true rfl, Nat.le_of_ble_eq_true rfl⟩ ⟨Nat.le_of_ble_eq_true rfl, Nat.le_of_ble_eq_true rfl⟩ hK hN hZ hP hD hS hA [0, 2, 3, 4, 5, 1] [6, 7, 8, 9, 10, 11, 12, 13, 14, 15, 16] rfl rfl (by decide +kernel) (by decide +kernel) (by decide +kernel) 0 rfl rfl rfl rfl hl.1 rfl (Nat.le_of_ble_eq_true rfl) dL_law_1334 (fun r_127 u_r_127 H locs hw_r_127 hP hD hS => ?_)
      obtain ⟨nb2_128, mv2_129, mq2_130⟩ := u_r_127
      try dsimp only at hw_r_127
      obtain ⟨hw_r_127, i_131, i_132⟩ := hw_r_127
      have hP : va_P D vwCl (@HAppend.hAppend va_W va_W va_W _ [(h0, .inr (8, [.ref qh, .ref qk, .ref qd, .int b0, .ref qa, .ref qm, .ref qs, .ref qp, .ref ql, .ref qt, .ref qz, .ref qf])), (qz, .inl (cS, 4, .inr (.inr (.inr (.inr (xSh s0 s1 s2 s3)))))), (s0, .inr (4, [.int bt0, .int (nI (sz0)), .ref sn0])), (s1, .inr (4, [.int bt1, .int (nI (sz1)), .ref sn1])), (s2, .inr (4, [.int bt2, .int (nI (sz2)), .ref sn2])), (s3, .inr (4, [.int bt3, .int (nI (sz3)), .ref sn3])), (sn0, .inl (cJ, 40, .inr (.inl nu0))), (sn1, .inl (cJ, 40, .inr (.inl nv_124))), (sn2, .inl (cJ, 40, .inr (.inl nu2))), (sn3, .inl (cJ, 40, .inr (.inl nu3))), (qf, .inl (cI, 7, .inl f2_125)), (g0, .inr (9, [.ref m_ys, .ref m_yk, .ref m_yo, .ref m_yt, .int b0, .ref m_yfa, .ref m_yfe, .int m_mL, .int m_mS, .int m_mM, .ref m_yro, .ref m_yhe, .ref m_ygr, .int m_mF, .int m_mC, .int m_mY, .ref m_yta, .int (nI (z)), .int (nI (m_mf)), .int (nI (m_mt)), .int m_mv, .int m_mw, .ref m_ywa, .ref m_ybi, .ref m_ysi, .ref m_ynu, .ref m_ymo])), (m_ybi, .inl (cI, 4, .inl m_bi)), (m_ysi, .inl (cI, 4, .inl m_sq)), (m_ynu, .inl (cJ, 160, .inr (.inl nb2_128))), (m_ymo, .inl (cJ, 40, .inr (.inl mv2_129))), (m_yt, .inl (cI, 7, .inl mq2_130))] tl) H := hP
      have hD : va_D A (@HAppend.hAppend va_W va_W va_W _ [(h0, .inr (8, [.ref qh, .ref qk, .ref qd, .int b0, .ref qa, .ref qm, .ref qs, .ref qp, .ref ql, .ref qt, .ref qz, .ref qf])), (qz, .inl (cS, 4, .inr (.inr (.inr (.inr (xSh s0 s1 s2 s3)))))), (s0, .inr (4, [.int bt0, .int (nI (sz0)), .ref sn0])), (s1, .inr (4, [.int bt1, .int (nI (sz1)), .ref sn1])), (s2, .inr (4, [.int bt2, .int (nI (sz2)), .ref sn2])), (s3, .inr (4, [.int bt3, .int (nI (sz3)), .ref sn3])), (sn0, .inl (cJ, 40, .inr (.inl nu0))), (sn1, .inl (cJ, 40, .inr (.inl nv_124))), (sn2, .inl (cJ, 40, .inr (.inl nu2))), (sn3, .inl (cJ, 40, .inr (.inl nu3))), (qf, .inl (cI, 7, .inl f2_125)), (g0, .inr (9, [.ref m_ys, .ref m_yk, .ref m_yo, .ref m_yt, .int b0, .ref m_yfa, .ref m_yfe, .int m_mL, .int m_mS, .int m_mM, .ref m_yro, .ref m_yhe, .ref m_ygr, .int m_mF, .int m_mC, .int m_mY, .ref m_yta, .int (nI (z)), .int (nI (m_mf)), .int (nI (m_mt)), .int m_mv, .int m_mw, .ref m_ywa, .ref m_ybi, .ref m_ysi, .ref m_ynu, .ref m_ymo])), (m_ybi, .inl (cI, 4, .inl m_bi)), (m_ysi, .inl (cI, 4, .inl m_sq)), (m_ynu, .inl (cJ, 160, .inr (.inl nb2_128))), (m_ymo, .inl (cJ, 40, .inr (.inl mv2_129))), (m_yt, .inl (cI, 7, .inl mq2_130))] tl) := hD
      subst hw_r_127
      refine lv_pop hx hb dL_law_1337 rfl ?_
      refine lv_goto (tgt := 1482) hx hb dL_law_1338 (by decide) ?_
      exact kkx _ _ _ nu0 nv_124 nu2 nu3 f2_125 mq2_130 nb2_128 mv2_129 (xt_P hP [0, 1, 2, 3, 4, 5, 6, 7, 8, 9, 10, 11, 16, 12, 13, 14, 15] rfl) (xt_D hD [0, 1, 2, 3, 4, 5, 6, 7, 8, 9, 10, 11, 16, 12, 13, 14, 15] (by decide +kernel) rfl) (fun j hj => (i_132 (0 + j) (by omega)).trans (r_n0 j hj)) (fun j hj => (i_131 j).trans ((sp_cneq r_b2 r_b1 r_n2 (by omega) (r_n1 j hj)).trans (i_126 j).symm)) (fun j hj => (i_132 (80 + j) (by omega)).trans (r_n2 j hj)) (fun j hj => (i_132 (120 + j) (by omega)).trans (r_n3 j hj)) hS hl
    · skip
      refine lv_aload_n hx hb dL_law_1279 rfl (lv_at hl 3 rfl) ?_
      refine lv_iload_n hx hb dL_law_1280 rfl (lv_at hl 0 rfl) ?_
      refine lv_iconst (v := 1) hx hb dL_law_1281 (by decide) ?_
      refine lv_iadd hx hb dL_law_1282 ?_
      refine xl_i (y := nI (i + 1)) (nI_add i 1) ?_
      refine va_sld hx hb hX hbl hbA hS (x_si (k := 1) (by decide) hi hL) dL_law_1283 ?_
      refine xl_i (y := xs (i + 1)) (congrArg xs (x_sc (k := 1) (by decide) hi hL)) ?_
      refine xl_i (y := 2) eq1 ?_
      refine lv_aload_n hx hb dL_law_1284 rfl (lv_at hl 3 rfl) ?_
      refine lv_iload_n hx hb dL_law_1285 rfl (lv_at hl 0 rfl) ?_
      refine lv_iconst (v := 2) hx hb dL_law_1286 (by decide) ?_
      refine lv_iadd hx hb dL_law_1287 ?_
      refine xl_i (y := nI (i + 2)) (nI_add i 2) ?_
      refine va_sld hx hb hX hbl hbA hS (x_si (k := 2) (by decide) hi hL) dL_law_1288 ?_
      refine xl_i (y := xs (i + 2)) (congrArg xs (x_sc (k := 2) (by decide) hi hL)) ?_
      refine lv_aload_n hx hb dL_law_1289 rfl (lv_at hl 3 rfl) ?_
      refine lv_iload_n hx hb dL_law_1290 rfl (lv_at hl 0 rfl) ?_
      refine lv_iconst (v := 3) hx hb dL_law_1291 (by decide) ?_
      refine lv_iadd hx hb dL_law_1292 ?_
      refine xl_i (y := nI (i + 3)) (nI_add i 3) ?_
      refine va_sld hx hb hX hbl hbA hS (x_si (k := 3) (by decide) hi hL) dL_law_1293 ?_
      refine xl_i (y := xs (i + 3)) (congrArg xs (x_sc (k := 3) (by decide) hi hL)) ?_
      refine xl_i (y := 2) eq3 ?_
      refine lv_aload_n hx hb dL_law_1294 rfl (lv_at hl 3 rfl) ?_
      refine lv_iload_n hx hb dL_law_1295 rfl (lv_at hl 0 rfl) ?_
      refine lv_iconst (v := 4) hx hb dL_law_1296 (by decide) ?_
      refine lv_iadd hx hb dL_law_1297 ?_
      refine xl_i (y := nI (i + 4)) (nI_add i 4) ?_
      refine va_sld hx hb hX hbl hbA hS (x_si (k := 4) (by decide) hi hL) dL_law_1298 ?_
      refine xl_i (y := xs (i + 4)) (congrArg xs (x_sc (k := 4) (by decide) hi hL)) ?_
      refine lv_aload_n hx hb dL_law_1299 rfl (lv_at hl 3 rfl) ?_
      refine lv_iload_n hx hb dL_law_1300 rfl (lv_at hl 0 rfl) ?_
      refine lv_iconst (v := 5) hx hb dL_law_1301 (by decide) ?_
      refine lv_iadd hx hb dL_law_1302 ?_
      refine xl_i (y := nI (i + 5)) (nI_add i 5) ?_
      refine va_sld hx hb hX hbl hbA hS (x_si (k := 5) (by decide) hi hL) dL_law_1303 ?_
      refine xl_i (y := xs (i + 5)) (congrArg xs (x_sc (k := 5) (by decide) hi hL)) ?_
      refine xc_ViT (wr := [(g0, .inr (9, [.ref m_ys, .ref m_yk, .ref m_yo, .ref m_yt, .int b0, .ref m_yfa, .ref m_yfe, .int m_mL, .int m_mS, .int m_mM, .ref m_yro, .ref m_yhe, .ref m_ygr, .int m_mF, .int m_mC, .int m_mY, .ref m_yta, .int (nI (z)), .int (nI (m_mf)), .int (nI (m_mt)), .int m_mv, .int m_mw, .ref m_ywa, .ref m_ybi, .ref m_ysi, .ref m_ynu, .ref m_ymo])), (m_yt, .inl (cI, 7, .inl m_mq)), (m_ybi, .inl (cI, 4, .inl m_bi)), (m_ysi, .inl (cI, 4, .inl m_sq)), (m_ynu, .inl (cJ, 160, .inr (.inl m_nb))), (m_ymo, .inl (cJ, 40, .inr (.inl m_mv9)))]) hF (c_X8_copy_22 l D cI cJ cZ cS ta sa sv H.size h0 qh qk qd b0 qa qm qs qp ql qt qz qf s0 s1 s2 s3 bt0 sz0 sn0 bt1 sz1 sn1 bt2 sz2 sn2 bt3 sz3 sn3 nu0 nu1 nu2 nu3 ff (xs (i + 2)) (xs (i + 4)) (xs (i + 5)) hsz0 hsz1 hsz2 hsz3) kv_L_166 ⟨rfl, rfl, Nat.le_of_ble_eq_true rfl, Nat.le_of_ble_eq_true rfl⟩ ⟨Nat.le_of_ble_eq_true rfl, Nat.le_of_ble_eq_true rfl⟩ hK hN hZ hP hD hS hA [0, 1, 2, 3, 4, 5, 6, 7, 8, 9, 10] [11, 12, 13, 14, 15, 16] rfl rfl (by decide +kernel) (by decide +kernel) (by decide +kernel) 0 rfl rfl rfl rfl hl.1 rfl (Nat.le_of_ble_eq_true rfl) dL_law_1304 (fun r_133 u_r_133 H locs hw_r_133 hP hD hS => ?_)
      obtain ⟨nv_134, f2_135⟩ := u_r_133
      try dsimp only at hw_r_133
      obtain ⟨hw_r_133, i_136⟩ := hw_r_133
      have hP : va_P D vwCl (@HAppend.hAppend va_W va_W va_W _ [(g0, .inr (9, [.ref m_ys, .ref m_yk, .ref m_yo, .ref m_yt, .int b0, .ref m_yfa, .ref m_yfe, .int m_mL, .int m_mS, .int m_mM, .ref m_yro, .ref m_yhe, .ref m_ygr, .int m_mF, .int m_mC, .int m_mY, .ref m_yta, .int (nI (z)), .int (nI (m_mf)), .int (nI (m_mt)), .int m_mv, .int m_mw, .ref m_ywa, .ref m_ybi, .ref m_ysi, .ref m_ynu, .ref m_ymo])), (m_yt, .inl (cI, 7, .inl m_mq)), (m_ybi, .inl (cI, 4, .inl m_bi)), (m_ysi, .inl (cI, 4, .inl m_sq)), (m_ynu, .inl (cJ, 160, .inr (.inl m_nb))), (m_ymo, .inl (cJ, 40, .inr (.inl m_mv9))), (h0, .inr (8, [.ref qh, .ref qk, .ref qd, .int b0, .ref qa, .ref qm, .ref qs, .ref qp, .ref ql, .ref qt, .ref qz, .ref qf])), (qz, .inl (cS, 4, .inr (.inr (.inr (.inr (xSh s0 s1 s2 s3)))))), (s0, .inr (4, [.int bt0, .int (nI (sz0)), .ref sn0])), (s1, .inr (4, [.int bt1, .int (nI (sz1)), .ref sn1])), (s2, .inr (4, [.int bt2, .int (nI (sz2)), .ref sn2])), (s3, .inr (4, [.int bt3, .int (nI (sz3)), .ref sn3])), (sn0, .inl (cJ, 40, .inr (.inl nu0))), (sn1, .inl (cJ, 40, .inr (.inl nu1))), (sn2, .inl (cJ, 40, .inr (.inl nv_134))), (sn3, .inl (cJ, 40, .inr (.inl nu3))), (qf, .inl (cI, 7, .inl f2_135))] tl) H := hP
      have hD : va_D A (@HAppend.hAppend va_W va_W va_W _ [(g0, .inr (9, [.ref m_ys, .ref m_yk, .ref m_yo, .ref m_yt, .int b0, .ref m_yfa, .ref m_yfe, .int m_mL, .int m_mS, .int m_mM, .ref m_yro, .ref m_yhe, .ref m_ygr, .int m_mF, .int m_mC, .int m_mY, .ref m_yta, .int (nI (z)), .int (nI (m_mf)), .int (nI (m_mt)), .int m_mv, .int m_mw, .ref m_ywa, .ref m_ybi, .ref m_ysi, .ref m_ynu, .ref m_ymo])), (m_yt, .inl (cI, 7, .inl m_mq)), (m_ybi, .inl (cI, 4, .inl m_bi)), (m_ysi, .inl (cI, 4, .inl m_sq)), (m_ynu, .inl (cJ, 160, .inr (.inl m_nb))), (m_ymo, .inl (cJ, 40, .inr (.inl m_mv9))), (h0, .inr (8, [.ref qh, .ref qk, .ref qd, .int b0, .ref qa, .ref qm, .ref qs, .ref qp, .ref ql, .ref qt, .ref qz, .ref qf])), (qz, .inl (cS, 4, .inr (.inr (.inr (.inr (xSh s0 s1 s2 s3)))))), (s0, .inr (4, [.int bt0, .int (nI (sz0)), .ref sn0])), (s1, .inr (4, [.int bt1, .int (nI (sz1)), .ref sn1])), (s2, .inr (4, [.int bt2, .int (nI (sz2)), .ref sn2])), (s3, .inr (4, [.int bt3, .int (nI (sz3)), .ref sn3])), (sn0, .inl (cJ, 40, .inr (.inl nu0))), (sn1, .inl (cJ, 40, .inr (.inl nu1))), (sn2, .inl (cJ, 40, .inr (.inl nv_134))), (sn3, .inl (cJ, 40, .inr (.inl nu3))), (qf, .inl (cI, 7, .inl f2_135))] tl) := hD
      subst hw_r_133
      refine lv_pop hx hb dL_law_1307 rfl ?_
      refine lv_aload_n hx hb dL_law_1308 rfl (lv_at hl 1 rfl) ?_
      refine lv_aload_n hx hb dL_law_1309 rfl (lv_at hl 3 rfl) ?_
      refine lv_iload_n hx hb dL_law_1310 rfl (lv_at hl 0 rfl) ?_
      refine lv_iconst (v := 1) hx hb dL_law_1311 (by decide) ?_
      refine lv_iadd hx hb dL_law_1312 ?_
      refine xl_i (y := nI (i + 1)) (nI_add i 1) ?_
      refine va_sld hx hb hX hbl hbA hS (x_si (k := 1) (by decide) hi hL) dL_law_1313 ?_
      refine xl_i (y := xs (i + 1)) (congrArg xs (x_sc (k := 1) (by decide) hi hL)) ?_
      refine xl_i (y := 2) eq1 ?_
      refine lv_aload_n hx hb dL_law_1314 rfl (lv_at hl 3 rfl) ?_
      refine lv_iload_n hx hb dL_law_1315 rfl (lv_at hl 0 rfl) ?_
      refine lv_iconst (v := 2) hx hb dL_law_1316 (by decide) ?_
      refine lv_iadd hx hb dL_law_1317 ?_
      refine xl_i (y := nI (i + 2)) (nI_add i 2) ?_
      refine va_sld hx hb hX hbl hbA hS (x_si (k := 2) (by decide) hi hL) dL_law_1318 ?_
      refine xl_i (y := xs (i + 2)) (congrArg xs (x_sc (k := 2) (by decide) hi hL)) ?_
      refine lv_aload_n hx hb dL_law_1319 rfl (lv_at hl 3 rfl) ?_
      refine lv_iload_n hx hb dL_law_1320 rfl (lv_at hl 0 rfl) ?_
      refine lv_iconst (v := 3) hx hb dL_law_1321 (by decide) ?_
      refine lv_iadd hx hb dL_law_1322 ?_
      refine xl_i (y := nI (i + 3)) (nI_add i 3) ?_
      refine va_sld hx hb hX hbl hbA hS (x_si (k := 3) (by decide) hi hL) dL_law_1323 ?_
      refine xl_i (y := xs (i + 3)) (congrArg xs (x_sc (k := 3) (by decide) hi hL)) ?_
      refine xl_i (y := 2) eq3 ?_
      refine lv_aload_n hx hb dL_law_1324 rfl (lv_at hl 3 rfl) ?_
      refine lv_iload_n hx hb dL_law_1325 rfl (lv_at hl 0 rfl) ?_
      refine lv_iconst (v := 4) hx hb dL_law_1326 (by decide) ?_
      refine lv_iadd hx hb dL_law_1327 ?_
      refine xl_i (y := nI (i + 4)) (nI_add i 4) ?_
      refine va_sld hx hb hX hbl hbA hS (x_si (k := 4) (by decide) hi hL) dL_law_1328 ?_
      refine xl_i (y := xs (i + 4)) (congrArg xs (x_sc (k := 4) (by decide) hi hL)) ?_
      refine lv_aload_n hx hb dL_law_1329 rfl (lv_at hl 3 rfl) ?_
      refine lv_iload_n hx hb dL_law_1330 rfl (lv_at hl 0 rfl) ?_
      refine lv_iconst (v := 5) hx hb dL_law_1331 (by decide) ?_
      refine lv_iadd hx hb dL_law_1332 ?_
      refine xl_i (y := nI (i + 5)) (nI_add i 5) ?_
      refine va_sld hx hb hX hbl hbA hS (x_si (k := 5) (by decide) hi hL) dL_law_1333 ?_
      refine xl_i (y := xs (i + 5)) (congrArg xs (x_sc (k := 5) (by decide) hi hL)) ?_
      refine xc_ViT (wr := [(h0, .inr (8, [.ref qh, .ref qk, .ref qd, .int b0, .ref qa, .ref qm, .ref qs, .ref qp, .ref ql, .ref qt, .ref qz, .ref qf])), (qz, .inl (cS, 4, .inr (.inr (.inr (.inr (xSh s0 s1 s2 s3)))))), (s0, .inr (4, [.int bt0, .int (nI (sz0)), .ref sn0])), (s1, .inr (4, [.int bt1, .int (nI (sz1)), .ref sn1])), (s2, .inr (4, [.int bt2, .int (nI (sz2)), .ref sn2])), (s3, .inr (4, [.int bt3, .int (nI (sz3)), .ref sn3])), (sn0, .inl (cJ, 40, .inr (.inl nu0))), (sn1, .inl (cJ, 40, .inr (.inl nu1))), (sn2, .inl (cJ, 40, .inr (.inl nv_134))), (sn3, .inl (cJ, 40, .inr (.inl nu3))), (qf, .inl (cI, 7, .inl f2_135))]) hF (c_X9_copy_22 l D cI cJ cZ cS ta sa sv H.size g0 m_ys m_yk m_yo m_yt b0 m_yfa m_yfe m_mL m_mS m_mM m_yro m_yhe m_ygr m_mF m_mC m_mY m_yta z m_mf m_mt m_mv m_mw m_ywa m_ybi m_ysi m_ynu m_ymo m_bi m_sq m_nb m_mv9 m_mq (xs (i + 2)) (xs (i + 4)) (xs (i + 5)) sz2 sz2 r_z2 hsz2 r_z2 hsz2 m_hsq) kv_L_170 ⟨rfl, rfl, Nat.le_of_ble_eq_true rfl, Nat.le_of_ble_eq_true rfl⟩ ⟨Nat.le_of_ble_eq_true rfl, Nat.le_of_ble_eq_true rfl⟩ hK hN hZ hP hD hS hA [0, 2, 3, 4, 5, 1] [6, 7, 8, 9, 10, 11, 12, 13, 14, 15, 16] rfl rfl (by decide +kernel) (by decide +kernel) (by decide +kernel) 0 rfl rfl rfl rfl hl.1 rfl (Nat.le_of_ble_eq_true rfl) dL_law_1334 (fun r_137 u_r_137 H locs hw_r_137 hP hD hS => ?_)
      obtain ⟨nb2_138, mv2_139, mq2_140⟩ := u_r_137
      try dsimp only at hw_r_137
      obtain ⟨hw_r_137, i_141, i_142⟩ := hw_r_137
      have hP : va_P D vwCl (@HAppend.hAppend va_W va_W va_W _ [(h0, .inr (8, [.ref qh, .ref qk, .ref qd, .int b0, .ref qa, .ref qm, .ref qs, .ref qp, .ref ql, .ref qt, .ref qz, .ref qf])), (qz, .inl (cS, 4, .inr (.inr (.inr (.inr (xSh s0 s1 s2 s3)))))), (s0, .inr (4, [.int bt0, .int (nI (sz0)), .ref sn0])), (s1, .inr (4, [.int bt1, .int (nI (sz1)), .ref sn1])), (s2, .inr (4, [.int bt2, .int (nI (sz2)), .ref sn2])), (s3, .inr (4, [.int bt3, .int (nI (sz3)), .ref sn3])), (sn0, .inl (cJ, 40, .inr (.inl nu0))), (sn1, .inl (cJ, 40, .inr (.inl nu1))), (sn2, .inl (cJ, 40, .inr (.inl nv_134))), (sn3, .inl (cJ, 40, .inr (.inl nu3))), (qf, .inl (cI, 7, .inl f2_135)), (g0, .inr (9, [.ref m_ys, .ref m_yk, .ref m_yo, .ref m_yt, .int b0, .ref m_yfa, .ref m_yfe, .int m_mL, .int m_mS, .int m_mM, .ref m_yro, .ref m_yhe, .ref m_ygr, .int m_mF, .int m_mC, .int m_mY, .ref m_yta, .int (nI (z)), .int (nI (m_mf)), .int (nI (m_mt)), .int m_mv, .int m_mw, .ref m_ywa, .ref m_ybi, .ref m_ysi, .ref m_ynu, .ref m_ymo])), (m_ybi, .inl (cI, 4, .inl m_bi)), (m_ysi, .inl (cI, 4, .inl m_sq)), (m_ynu, .inl (cJ, 160, .inr (.inl nb2_138))), (m_ymo, .inl (cJ, 40, .inr (.inl mv2_139))), (m_yt, .inl (cI, 7, .inl mq2_140))] tl) H := hP
      have hD : va_D A (@HAppend.hAppend va_W va_W va_W _ [(h0, .inr (8, [.ref qh, .ref qk, .ref qd, .int b0, .ref qa, .ref qm, .ref qs, .ref qp, .ref ql, .ref qt, .ref qz, .ref qf])), (qz, .inl (cS, 4, .inr (.inr (.inr (.inr (xSh s0 s1 s2 s3)))))), (s0, .inr (4, [.int bt0, .int (nI (sz0)), .ref sn0])), (s1, .inr (4, [.int bt1, .int (nI (sz1)), .ref sn1])), (s2, .inr (4, [.int bt2, .int (nI (sz2)), .ref sn2])), (s3, .inr (4, [.int bt3, .int (nI (sz3)), .ref sn3])), (sn0, .inl (cJ, 40, .inr (.inl nu0))), (sn1, .inl (cJ, 40, .inr (.inl nu1))), (sn2, .inl (cJ, 40, .inr (.inl nv_134))), (sn3, .inl (cJ, 40, .inr (.inl nu3))), (qf, .inl (cI, 7, .inl f2_135)), (g0, .inr (9, [.ref m_ys, .ref m_yk, .ref m_yo, .ref m_yt, .int b0, .ref m_yfa, .ref m_yfe, .int m_mL, .int m_mS, .int m_mM, .ref m_yro, .ref m_yhe, .ref m_ygr, .int m_mF, .int m_mC, .int m_mY, .ref m_yta, .int (nI (z)), .int (nI (m_mf)), .int (nI (m_mt)), .int m_mv, .int m_mw, .ref m_ywa, .ref m_ybi, .ref m_ysi, .ref m_ynu, .ref m_ymo])), (m_ybi, .inl (cI, 4, .inl m_bi)), (m_ysi, .inl (cI, 4, .inl m_sq)), (m_ynu, .inl (cJ, 160, .inr (.inl nb2_138))), (m_ymo, .inl (cJ, 40, .inr (.inl mv2_139))), (m_yt, .inl (cI, 7, .inl mq2_140))] tl) := hD
      subst hw_r_137
      refine lv_pop hx hb dL_law_1337 rfl ?_
      refine lv_goto (tgt := 1482) hx hb dL_law_1338 (by decide) ?_
      exact kkx _ _ _ nu0 nu1 nv_134 nu3 f2_135 mq2_140 nb2_138 mv2_139 (xt_P hP [0, 1, 2, 3, 4, 5, 6, 7, 8, 9, 10, 11, 16, 12, 13, 14, 15] rfl) (xt_D hD [0, 1, 2, 3, 4, 5, 6, 7, 8, 9, 10, 11, 16, 12, 13, 14, 15] (by decide +kernel) rfl) (fun j hj => (i_142 (0 + j) (by omega)).trans (r_n0 j hj)) (fun j hj => (i_142 (40 + j) (by omega)).trans (r_n1 j hj)) (fun j hj => (i_141 j).trans ((sp_cneq r_b2 r_b2 r_n2 (by omega) (r_n2 j hj)).trans (i_136 j).symm)) (fun j hj => (i_142 (120 + j) (by omega)).trans (r_n3 j hj)) hS hl
    · skip
      refine lv_aload_n hx hb dL_law_1279 rfl (lv_at hl 3 rfl) ?_
      refine lv_iload_n hx hb dL_law_1280 rfl (lv_at hl 0 rfl) ?_
      refine lv_iconst (v := 1) hx hb dL_law_1281 (by decide) ?_
      refine lv_iadd hx hb dL_law_1282 ?_
      refine xl_i (y := nI (i + 1)) (nI_add i 1) ?_
      refine va_sld hx hb hX hbl hbA hS (x_si (k := 1) (by decide) hi hL) dL_law_1283 ?_
      refine xl_i (y := xs (i + 1)) (congrArg xs (x_sc (k := 1) (by decide) hi hL)) ?_
      refine xl_i (y := 2) eq1 ?_
      refine lv_aload_n hx hb dL_law_1284 rfl (lv_at hl 3 rfl) ?_
      refine lv_iload_n hx hb dL_law_1285 rfl (lv_at hl 0 rfl) ?_
      refine lv_iconst (v := 2) hx hb dL_law_1286 (by decide) ?_
      refine lv_iadd hx hb dL_law_1287 ?_
      refine xl_i (y := nI (i + 2)) (nI_add i 2) ?_
      refine va_sld hx hb hX hbl hbA hS (x_si (k := 2) (by decide) hi hL) dL_law_1288 ?_
      refine xl_i (y := xs (i + 2)) (congrArg xs (x_sc (k := 2) (by decide) hi hL)) ?_
      refine lv_aload_n hx hb dL_law_1289 rfl (lv_at hl 3 rfl) ?_
      refine lv_iload_n hx hb dL_law_1290 rfl (lv_at hl 0 rfl) ?_
      refine lv_iconst (v := 3) hx hb dL_law_1291 (by decide) ?_
      refine lv_iadd hx hb dL_law_1292 ?_
      refine xl_i (y := nI (i + 3)) (nI_add i 3) ?_
      refine va_sld hx hb hX hbl hbA hS (x_si (k := 3) (by decide) hi hL) dL_law_1293 ?_
      refine xl_i (y := xs (i + 3)) (congrArg xs (x_sc (k := 3) (by decide) hi hL)) ?_
      refine xl_i (y := 3) eq3 ?_
      refine lv_aload_n hx hb dL_law_1294 rfl (lv_at hl 3 rfl) ?_
      refine lv_iload_n hx hb dL_law_1295 rfl (lv_at hl 0 rfl) ?_
      refine lv_iconst (v := 4) hx hb dL_law_1296 (by decide) ?_
      refine lv_iadd hx hb dL_law_1297 ?_
      refine xl_i (y := nI (i + 4)) (nI_add i 4) ?_
      refine va_sld hx hb hX hbl hbA hS (x_si (k := 4) (by decide) hi hL) dL_law_1298 ?_
      refine xl_i (y := xs (i + 4)) (congrArg xs (x_sc (k := 4) (by decide) hi hL)) ?_
      refine lv_aload_n hx hb dL_law_1299 rfl (lv_at hl 3 rfl) ?_
      refine lv_iload_n hx hb dL_law_1300 rfl (lv_at hl 0 rfl) ?_
      refine lv_iconst (v := 5) hx hb dL_law_1301 (by decide) ?_
      refine lv_iadd hx hb dL_law_1302 ?_
      refine xl_i (y := nI (i + 5)) (nI_add i 5) ?_
      refine va_sld hx hb hX hbl hbA hS (x_si (k := 5) (by decide) hi hL) dL_law_1303 ?_
      refine xl_i (y := xs (i + 5)) (congrArg xs (x_sc (k := 5) (by decide) hi hL)) ?_
      refine xc_ViT (wr := [(g0, .inr (9, [.ref m_ys, .ref m_yk, .ref m_yo, .ref m_yt, .int b0, .ref m_yfa, .ref m_yfe, .int m_mL, .int m_mS, .int m_mM, .ref m_yro, .ref m_yhe, .ref m_ygr, .int m_mF, .int m_mC, .int m_mY, .ref m_yta, .int (nI (z)), .int (nI (m_mf)), .int (nI (m_mt)), .int m_mv, .int m_mw, .ref m_ywa, .ref m_ybi, .ref m_ysi, .ref m_ynu, .ref m_ymo])), (m_yt, .inl (cI, 7, .inl m_mq)), (m_ybi, .inl (cI, 4, .inl m_bi)), (m_ysi, .inl (cI, 4, .inl m_sq)), (m_ynu, .inl (cJ, 160, .inr (.inl m_nb))), (m_ymo, .inl (cJ, 40, .inr (.inl m_mv9)))]) hF (c_X8_copy_23 l D cI cJ cZ cS ta sa sv H.size h0 qh qk qd b0 qa qm qs qp ql qt qz qf s0 s1 s2 s3 bt0 sz0 sn0 bt1 sz1 sn1 bt2 sz2 sn2 bt3 sz3 sn3 nu0 nu1 nu2 nu3 ff (xs (i + 2)) (xs (i + 4)) (xs (i + 5)) hsz0 hsz1 hsz2 hsz3) kv_L_166 ⟨rfl, rfl, Nat.le_of_ble_eq_true rfl, Nat.le_of_ble_eq_true rfl⟩ ⟨Nat.le_of_ble_eq_true rfl, Nat.le_of_ble_eq_true rfl⟩ hK hN hZ hP hD hS hA [0, 1, 2, 3, 4, 5, 6, 7, 8, 9, 10] [11, 12, 13, 14, 15, 16] rfl rfl (by decide +kernel) (by decide +kernel) (by decide +kernel) 0 rfl rfl rfl rfl hl.1 rfl (Nat.le_of_ble_eq_true rfl) dL_law_1304 (fun r_143 u_r_143 H locs hw_r_143 hP hD hS => ?_)
      obtain ⟨nv_144, f2_145⟩ := u_r_143
      try dsimp only at hw_r_143
      obtain ⟨hw_r_143, i_146⟩ := hw_r_143
      have hP : va_P D vwCl (@HAppend.hAppend va_W va_W va_W _ [(g0, .inr (9, [.ref m_ys, .ref m_yk, .ref m_yo, .ref m_yt, .int b0, .ref m_yfa, .ref m_yfe, .int m_mL, .int m_mS, .int m_mM, .ref m_yro, .ref m_yhe, .ref m_ygr, .int m_mF, .int m_mC, .int m_mY, .ref m_yta, .int (nI (z)), .int (nI (m_mf)), .int (nI (m_mt)), .int m_mv, .int m_mw, .ref m_ywa, .ref m_ybi, .ref m_ysi, .ref m_ynu, .ref m_ymo])), (m_yt, .inl (cI, 7, .inl m_mq)), (m_ybi, .inl (cI, 4, .inl m_bi)), (m_ysi, .inl (cI, 4, .inl m_sq)), (m_ynu, .inl (cJ, 160, .inr (.inl m_nb))), (m_ymo, .inl (cJ, 40, .inr (.inl m_mv9))), (h0, .inr (8, [.ref qh, .ref qk, .ref qd, .int b0, .ref qa, .ref qm, .ref qs, .ref qp, .ref ql, .ref qt, .ref qz, .ref qf])), (qz, .inl (cS, 4, .inr (.inr (.inr (.inr (xSh s0 s1 s2 s3)))))), (s0, .inr (4, [.int bt0, .int (nI (sz0)), .ref sn0])), (s1, .inr (4, [.int bt1, .int (nI (sz1)), .ref sn1])), (s2, .inr (4, [.int bt2, .int (nI (sz2)), .ref sn2])), (s3, .inr (4, [.int bt3, .int (nI (sz3)), .ref sn3])), (sn0, .inl (cJ, 40, .inr (.inl nu0))), (sn1, .inl (cJ, 40, .inr (.inl nu1))), (sn2, .inl (cJ, 40, .inr (.inl nu2))), (sn3, .inl (cJ, 40, .inr (.inl nv_144))), (qf, .inl (cI, 7, .inl f2_145))] tl) H := hP
      have hD : va_D A (@HAppend.hAppend va_W va_W va_W _ [(g0, .inr (9, [.ref m_ys, .ref m_yk, .ref m_yo, .ref m_yt, .int b0, .ref m_yfa, .ref m_yfe, .int m_mL, .int m_mS, .int m_mM, .ref m_yro, .ref m_yhe, .ref m_ygr, .int m_mF, .int m_mC, .int m_mY, .ref m_yta, .int (nI (z)), .int (nI (m_mf)), .int (nI (m_mt)), .int m_mv, .int m_mw, .ref m_ywa, .ref m_ybi, .ref m_ysi, .ref m_ynu, .ref m_ymo])), (m_yt, .inl (cI, 7, .inl m_mq)), (m_ybi, .inl (cI, 4, .inl m_bi)), (m_ysi, .inl (cI, 4, .inl m_sq)), (m_ynu, .inl (cJ, 160, .inr (.inl m_nb))), (m_ymo, .inl (cJ, 40, .inr (.inl m_mv9))), (h0, .inr (8, [.ref qh, .ref qk, .ref qd, .int b0, .ref qa, .ref qm, .ref qs, .ref qp, .ref ql, .ref qt, .ref qz, .ref qf])), (qz, .inl (cS, 4, .inr (.inr (.inr (.inr (xSh s0 s1 s2 s3)))))), (s0, .inr (4, [.int bt0, .int (nI (sz0)), .ref sn0])), (s1, .inr (4, [.int bt1, .int (nI (sz1)), .ref sn1])), (s2, .inr (4, [.int bt2, .int (nI (sz2)), .ref sn2])), (s3, .inr (4, [.int bt3, .int (nI (sz3)), .ref sn3])), (sn0, .inl (cJ, 40, .inr (.inl nu0))), (sn1, .inl (cJ, 40, .inr (.inl nu1))), (sn2, .inl (cJ, 40, .inr (.inl nu2))), (sn3, .inl (cJ, 40, .inr (.inl nv_144))), (qf, .inl (cI, 7, .inl f2_145))] tl) := hD
      subst hw_r_143
      refine lv_pop hx hb dL_law_1307 rfl ?_
      refine lv_aload_n hx hb dL_law_1308 rfl (lv_at hl 1 rfl) ?_
      refine lv_aload_n hx hb dL_law_1309 rfl (lv_at hl 3 rfl) ?_
      refine lv_iload_n hx hb dL_law_1310 rfl (lv_at hl 0 rfl) ?_
      refine lv_iconst (v := 1) hx hb dL_law_1311 (by decide) ?_
      refine lv_iadd hx hb dL_law_1312 ?_
      refine xl_i (y := nI (i + 1)) (nI_add i 1) ?_
      refine va_sld hx hb hX hbl hbA hS (x_si (k := 1) (by decide) hi hL) dL_law_1313 ?_
      refine xl_i (y := xs (i + 1)) (congrArg xs (x_sc (k := 1) (by decide) hi hL)) ?_
      refine xl_i (y := 2) eq1 ?_
      refine lv_aload_n hx hb dL_law_1314 rfl (lv_at hl 3 rfl) ?_
      refine lv_iload_n hx hb dL_law_1315 rfl (lv_at hl 0 rfl) ?_
      refine lv_iconst (v := 2) hx hb dL_law_1316 (by decide) ?_
      refine lv_iadd hx hb dL_law_1317 ?_
      refine xl_i (y := nI (i + 2)) (nI_add i 2) ?_
      refine va_sld hx hb hX hbl hbA hS (x_si (k := 2) (by decide) hi hL) dL_law_1318 ?_
      refine xl_i (y := xs (i + 2)) (congrArg xs (x_sc (k := 2) (by decide) hi hL)) ?_
      refine lv_aload_n hx hb dL_law_1319 rfl (lv_at hl 3 rfl) ?_
      refine lv_iload_n hx hb dL_law_1320 rfl (lv_at hl 0 rfl) ?_
      refine lv_iconst (v := 3) hx hb dL_law_1321 (by decide) ?_
      refine lv_iadd hx hb dL_law_1322 ?_
      refine xl_i (y := nI (i + 3)) (nI_add i 3) ?_
      refine va_sld hx hb hX hbl hbA hS (x_si (k := 3) (by decide) hi hL) dL_law_1323 ?_
      refine xl_i (y := xs (i + 3)) (congrArg xs (x_sc (k := 3) (by decide) hi hL)) ?_
      refine xl_i (y := 3) eq3 ?_
      refine lv_aload_n hx hb dL_law_1324 rfl (lv_at hl 3 rfl) ?_
      refine lv_iload_n hx hb dL_law_1325 rfl (lv_at hl 0 rfl) ?_
      refine lv_iconst (v := 4) hx hb dL_law_1326 (by decide) ?_
      refine lv_iadd hx hb dL_law_1327 ?_
      refine xl_i (y := nI (i + 4)) (nI_add i 4) ?_
      refine va_sld hx hb hX hbl hbA hS (x_si (k := 4) (by decide) hi hL) dL_law_1328 ?_
      refine xl_i (y := xs (i + 4)) (congrArg xs (x_sc (k := 4) (by decide) hi hL)) ?_
      refine lv_aload_n hx hb dL_law_1329 rfl (lv_at hl 3 rfl) ?_
      refine lv_iload_n hx hb dL_law_1330 rfl (lv_at hl 0 rfl) ?_
      refine lv_iconst (v := 5) hx hb dL_law_1331 (by decide) ?_
      refine lv_iadd hx hb dL_law_1332 ?_
      refine xl_i (y := nI (i + 5)) (nI_add i 5) ?_
      refine va_sld hx hb hX hbl hbA hS (x_si (k := 5) (by decide) hi hL) dL_law_1333 ?_
      refine xl_i (y := xs (i + 5)) (congrArg xs (x_sc (k := 5) (by decide) hi hL)) ?_
      refine xc_ViT (wr := [(h0, .inr (8, [.ref qh, .ref qk, .ref qd, .int b0, .ref qa, .ref qm, .ref qs, .ref qp, .ref ql, .ref qt, .ref qz, .ref qf])), (qz, .inl (cS, 4, .inr (.inr (.inr (.inr (xSh s0 s1 s2 s3)))))), (s0, .inr (4, [.int bt0, .int (nI (sz0)), .ref sn0])), (s1, .inr (4, [.int bt1, .int (nI (sz1)), .ref sn1])), (s2, .inr (4, [.int bt2, .int (nI (sz2)), .ref sn2])), (s3, .inr (4, [.int bt3, .int (nI (sz3)), .ref sn3])), (sn0, .inl (cJ, 40, .inr (.inl nu0))), (sn1, .inl (cJ, 40, .inr (.inl nu1))), (sn2, .inl (cJ, 40, .inr (.inl nu2))), (sn3, .inl (cJ, 40, .inr (.inl nv_144))), (qf, .inl (cI, 7, .inl f2_145))]) hF (c_X9_copy_23 l D cI cJ cZ cS ta sa sv H.size g0 m_ys m_yk m_yo m_yt b0 m_yfa m_yfe m_mL m_mS m_mM m_yro m_yhe m_ygr m_mF m_mC m_mY m_yta z m_mf m_mt m_mv m_mw m_ywa m_ybi m_ysi m_ynu m_ymo m_bi m_sq m_nb m_mv9 m_mq (xs (i + 2)) (xs (i + 4)) (xs (i + 5)) sz2 sz3 r_z2 hsz2 r_z3 hsz3 m_hsq) kv_L_170 ⟨rfl, rfl, Nat.le_of_ble_eq_true rfl, Nat.le_of_ble_eq_true rfl⟩ ⟨Nat.le_of_ble_eq_true rfl, Nat.le_of_ble_eq_true rfl⟩ hK hN hZ hP hD hS hA [0, 2, 3, 4, 5, 1] [6, 7, 8, 9, 10, 11, 12, 13, 14, 15, 16] rfl rfl (by decide +kernel) (by decide +kernel) (by decide +kernel) 0 rfl rfl rfl rfl hl.1 rfl (Nat.le_of_ble_eq_true rfl) dL_law_1334 (fun r_147 u_r_147 H locs hw_r_147 hP hD hS => ?_)
      obtain ⟨nb2_148, mv2_149, mq2_150⟩ := u_r_147
      try dsimp only at hw_r_147
      obtain ⟨hw_r_147, i_151, i_152⟩ := hw_r_147
      have hP : va_P D vwCl (@HAppend.hAppend va_W va_W va_W _ [(h0, .inr (8, [.ref qh, .ref qk, .ref qd, .int b0, .ref qa, .ref qm, .ref qs, .ref qp, .ref ql, .ref qt, .ref qz, .ref qf])), (qz, .inl (cS, 4, .inr (.inr (.inr (.inr (xSh s0 s1 s2 s3)))))), (s0, .inr (4, [.int bt0, .int (nI (sz0)), .ref sn0])), (s1, .inr (4, [.int bt1, .int (nI (sz1)), .ref sn1])), (s2, .inr (4, [.int bt2, .int (nI (sz2)), .ref sn2])), (s3, .inr (4, [.int bt3, .int (nI (sz3)), .ref sn3])), (sn0, .inl (cJ, 40, .inr (.inl nu0))), (sn1, .inl (cJ, 40, .inr (.inl nu1))), (sn2, .inl (cJ, 40, .inr (.inl nu2))), (sn3, .inl (cJ, 40, .inr (.inl nv_144))), (qf, .inl (cI, 7, .inl f2_145)), (g0, .inr (9, [.ref m_ys, .ref m_yk, .ref m_yo, .ref m_yt, .int b0, .ref m_yfa, .ref m_yfe, .int m_mL, .int m_mS, .int m_mM, .ref m_yro, .ref m_yhe, .ref m_ygr, .int m_mF, .int m_mC, .int m_mY, .ref m_yta, .int (nI (z)), .int (nI (m_mf)), .int (nI (m_mt)), .int m_mv, .int m_mw, .ref m_ywa, .ref m_ybi, .ref m_ysi, .ref m_ynu, .ref m_ymo])), (m_ybi, .inl (cI, 4, .inl m_bi)), (m_ysi, .inl (cI, 4, .inl m_sq)), (m_ynu, .inl (cJ, 160, .inr (.inl nb2_148))), (m_ymo, .inl (cJ, 40, .inr (.inl mv2_149))), (m_yt, .inl (cI, 7, .inl mq2_150))] tl) H := hP
      have hD : va_D A (@HAppend.hAppend va_W va_W va_W _ [(h0, .inr (8, [.ref qh, .ref qk, .ref qd, .int b0, .ref qa, .ref qm, .ref qs, .ref qp, .ref ql, .ref qt, .ref qz, .ref qf])), (qz, .inl (cS, 4, .inr (.inr (.inr (.inr (xSh s0 s1 s2 s3)))))), (s0, .inr (4, [.int bt0, .int (nI (sz0)), .ref sn0])), (s1, .inr (4, [.int bt1, .int (nI (sz1)), .ref sn1])), (s2, .inr (4, [.int bt2, .int (nI (sz2)), .ref sn2])), (s3, .inr (4, [.int bt3, .int (nI (sz3)), .ref sn3])), (sn0, .inl (cJ, 40, .inr (.inl nu0))), (sn1, .inl (cJ, 40, .inr (.inl nu1))), (sn2, .inl (cJ, 40, .inr (.inl nu2))), (sn3, .inl (cJ, 40, .inr (.inl nv_144))), (qf, .inl (cI, 7, .inl f2_145)), (g0, .inr (9, [.ref m_ys, .ref m_yk, .ref m_yo, .ref m_yt, .int b0, .ref m_yfa, .ref m_yfe, .int m_mL, .int m_mS, .int m_mM, .ref m_yro, .ref m_yhe, .ref m_ygr, .int m_mF, .int m_mC, .int m_mY, .ref m_yta, .int (nI (z)), .int (nI (m_mf)), .int (nI (m_mt)), .int m_mv, .int m_mw, .ref m_ywa, .ref m_ybi, .ref m_ysi, .ref m_ynu, .ref m_ymo])), (m_ybi, .inl (cI, 4, .inl m_bi)), (m_ysi, .inl (cI, 4, .inl m_sq)), (m_ynu, .inl (cJ, 160, .inr (.inl nb2_148))), (m_ymo, .inl (cJ, 40, .inr (.inl mv2_149))), (m_yt, .inl (cI, 7, .inl mq2_150))] tl) := hD
      subst hw_r_147
      refine lv_pop hx hb dL_law_1337 rfl ?_
      refine lv_goto (tgt := 1482) hx hb dL_law_1338 (by decide) ?_
      exact kkx _ _ _ nu0 nu1 nu2 nv_144 f2_145 mq2_150 nb2_148 mv2_149 (xt_P hP [0, 1, 2, 3, 4, 5, 6, 7, 8, 9, 10, 11, 16, 12, 13, 14, 15] rfl) (xt_D hD [0, 1, 2, 3, 4, 5, 6, 7, 8, 9, 10, 11, 16, 12, 13, 14, 15] (by decide +kernel) rfl) (fun j hj => (i_152 (0 + j) (by omega)).trans (r_n0 j hj)) (fun j hj => (i_152 (40 + j) (by omega)).trans (r_n1 j hj)) (fun j hj => (i_152 (80 + j) (by omega)).trans (r_n2 j hj)) (fun j hj => (i_151 j).trans ((sp_cneq r_b2 r_b3 r_n2 (by omega) (r_n3 j hj)).trans (i_146 j).symm)) hS hl
  · skip
    refine lv_aload_n hx hb dL_law_1278 rfl (lv_at hl 2 rfl) ?_
    rcases x_sh4 (xs (i + 3)) with oq3 | eq3 | eq3 | eq3 | eq3
    · skip
      refine lv_aload_n hx hb dL_law_1279 rfl (lv_at hl 3 rfl) ?_
      refine lv_iload_n hx hb dL_law_1280 rfl (lv_at hl 0 rfl) ?_
      refine lv_iconst (v := 1) hx hb dL_law_1281 (by decide) ?_
      refine lv_iadd hx hb dL_law_1282 ?_
      refine xl_i (y := nI (i + 1)) (nI_add i 1) ?_
      refine va_sld hx hb hX hbl hbA hS (x_si (k := 1) (by decide) hi hL) dL_law_1283 ?_
      refine xl_i (y := xs (i + 1)) (congrArg xs (x_sc (k := 1) (by decide) hi hL)) ?_
      refine xl_i (y := 3) eq1 ?_
      refine lv_aload_n hx hb dL_law_1284 rfl (lv_at hl 3 rfl) ?_
      refine lv_iload_n hx hb dL_law_1285 rfl (lv_at hl 0 rfl) ?_
      refine lv_iconst (v := 2) hx hb dL_law_1286 (by decide) ?_
      refine lv_iadd hx hb dL_law_1287 ?_
      refine xl_i (y := nI (i + 2)) (nI_add i 2) ?_
      refine va_sld hx hb hX hbl hbA hS (x_si (k := 2) (by decide) hi hL) dL_law_1288 ?_
      refine xl_i (y := xs (i + 2)) (congrArg xs (x_sc (k := 2) (by decide) hi hL)) ?_
      refine lv_aload_n hx hb dL_law_1289 rfl (lv_at hl 3 rfl) ?_
      refine lv_iload_n hx hb dL_law_1290 rfl (lv_at hl 0 rfl) ?_
      refine lv_iconst (v := 3) hx hb dL_law_1291 (by decide) ?_
      refine lv_iadd hx hb dL_law_1292 ?_
      refine xl_i (y := nI (i + 3)) (nI_add i 3) ?_
      refine va_sld hx hb hX hbl hbA hS (x_si (k := 3) (by decide) hi hL) dL_law_1293 ?_
      refine xl_i (y := xs (i + 3)) (congrArg xs (x_sc (k := 3) (by decide) hi hL)) ?_
      refine lv_aload_n hx hb dL_law_1294 rfl (lv_at hl 3 rfl) ?_
      refine lv_iload_n hx hb dL_law_1295 rfl (lv_at hl 0 rfl) ?_
      refine lv_iconst (v := 4) hx hb dL_law_1296 (by decide) ?_
      refine lv_iadd hx hb dL_law_1297 ?_
      refine xl_i (y := nI (i + 4)) (nI_add i 4) ?_
      refine va_sld hx hb hX hbl hbA hS (x_si (k := 4) (by decide) hi hL) dL_law_1298 ?_
      refine xl_i (y := xs (i + 4)) (congrArg xs (x_sc (k := 4) (by decide) hi hL)) ?_
      refine lv_aload_n hx hb dL_law_1299 rfl (lv_at hl 3 rfl) ?_
      refine lv_iload_n hx hb dL_law_1300 rfl (lv_at hl 0 rfl) ?_
      refine lv_iconst (v := 5) hx hb dL_law_1301 (by decide) ?_
      refine lv_iadd hx hb dL_law_1302 ?_
      refine xl_i (y := nI (i + 5)) (nI_add i 5) ?_
      refine va_sld hx hb hX hbl hbA hS (x_si (k := 5) (by decide) hi hL) dL_law_1303 ?_
      refine xl_i (y := xs (i + 5)) (congrArg xs (x_sc (k := 5) (by decide) hi hL)) ?_
      refine xc_ViT (wr := [(qz, .inl (cS, 4, .inr (.inr (.inr (.inr (xSh s0 s1 s2 s3)))))), (s0, .inr (4, [.int bt0, .int (nI (sz0)), .ref sn0])), (s1, .inr (4, [.int bt1, .int (nI (sz1)), .ref sn1])), (s2, .inr (4, [.int bt2, .int (nI (sz2)), .ref sn2])), (s3, .inr (4, [.int bt3, .int (nI (sz3)), .ref sn3])), (sn0, .inl (cJ, 40, .inr (.inl nu0))), (sn1, .inl (cJ, 40, .inr (.inl nu1))), (sn2, .inl (cJ, 40, .inr (.inl nu2))), (sn3, .inl (cJ, 40, .inr (.inl nu3))), (g0, .inr (9, [.ref m_ys, .ref m_yk, .ref m_yo, .ref m_yt, .int b0, .ref m_yfa, .ref m_yfe, .int m_mL, .int m_mS, .int m_mM, .ref m_yro, .ref m_yhe, .ref m_ygr, .int m_mF, .int m_mC, .int m_mY, .ref m_yta, .int (nI (z)), .int (nI (m_mf)), .int (nI (m_mt)), .int m_mv, .int m_mw, .ref m_ywa, .ref m_ybi, .ref m_ysi, .ref m_ynu, .ref m_ymo])), (m_yt, .inl (cI, 7, .inl m_mq)), (m_ybi, .inl (cI, 4, .inl m_bi)), (m_ysi, .inl (cI, 4, .inl m_sq)), (m_ynu, .inl (cJ, 160, .inr (.inl m_nb))), (m_ymo, .inl (cJ, 40, .inr (.inl m_mv9)))]) hF (c_X8_copy_3o l D cI cJ cZ cS ta sa sv H.size h0 qh qk qd b0 qa qm qs qp ql qt qz qf ff (xs (i + 2)) (xs (i + 3)) (xs (i + 4)) (xs (i + 5)) oq3) kv_L_166 ⟨rfl, rfl, Nat.le_of_ble_eq_true rfl, Nat.le_of_ble_eq_true rfl⟩ ⟨Nat.le_of_ble_eq_true rfl, Nat.le_of_ble_eq_true rfl⟩ hK hN hZ hP hD hS hA [0, 10] [1, 2, 3, 4, 5, 6, 7, 8, 9, 11, 12, 13, 14, 15, 16] rfl rfl rfl (by decide +kernel) (by decide +kernel) 0 rfl rfl rfl rfl hl.1 rfl (Nat.le_of_ble_eq_true rfl) dL_law_1304 (fun r_153 u_r_153 H locs hw_r_153 hP hD hS => ?_)
      obtain ⟨f2_154, rfl⟩ : ∃ z, z = u_r_153 := ⟨_, rfl⟩
      try dsimp only at hw_r_153
      have hP : va_P D vwCl (@HAppend.hAppend va_W va_W va_W _ [(qz, .inl (cS, 4, .inr (.inr (.inr (.inr (xSh s0 s1 s2 s3)))))), (s0, .inr (4, [.int bt0, .int (nI (sz0)), .ref sn0])), (s1, .inr (4, [.int bt1, .int (nI (sz1)), .ref sn1])), (s2, .inr (4, [.int bt2, .int (nI (sz2)), .ref sn2])), (s3, .inr (4, [.int bt3, .int (nI (sz3)), .ref sn3])), (sn0, .inl (cJ, 40, .inr (.inl nu0))), (sn1, .inl (cJ, 40, .inr (.inl nu1))), (sn2, .inl (cJ, 40, .inr (.inl nu2))), (sn3, .inl (cJ, 40, .inr (.inl nu3))), (g0, .inr (9, [.ref m_ys, .ref m_yk, .ref m_yo, .ref m_yt, .int b0, .ref m_yfa, .ref m_yfe, .int m_mL, .int m_mS, .int m_mM, .ref m_yro, .ref m_yhe, .ref m_ygr, .int m_mF, .int m_mC, .int m_mY, .ref m_yta, .int (nI (z)), .int (nI (m_mf)), .int (nI (m_mt)), .int m_mv, .int m_mw, .ref m_ywa, .ref m_ybi, .ref m_ysi, .ref m_ynu, .ref m_ymo])), (m_yt, .inl (cI, 7, .inl m_mq)), (m_ybi, .inl (cI, 4, .inl m_bi)), (m_ysi, .inl (cI, 4, .inl m_sq)), (m_ynu, .inl (cJ, 160, .inr (.inl m_nb))), (m_ymo, .inl (cJ, 40, .inr (.inl m_mv9))), (h0, .inr (8, [.ref qh, .ref qk, .ref qd, .int b0, .ref qa, .ref qm, .ref qs, .ref qp, .ref ql, .ref qt, .ref qz, .ref qf])), (qf, .inl (cI, 7, .inl f2_154))] tl) H := hP
      have hD : va_D A (@HAppend.hAppend va_W va_W va_W _ [(qz, .inl (cS, 4, .inr (.inr (.inr (.inr (xSh s0 s1 s2 s3)))))), (s0, .inr (4, [.int bt0, .int (nI (sz0)), .ref sn0])), (s1, .inr (4, [.int bt1, .int (nI (sz1)), .ref sn1])), (s2, .inr (4, [.int bt2, .int (nI (sz2)), .ref sn2])), (s3, .inr (4, [.int bt3, .int (nI (sz3)), .ref sn3])), (sn0, .inl (cJ, 40, .inr (.inl nu0))), (sn1, .inl (cJ, 40, .inr (.inl nu1))), (sn2, .inl (cJ, 40, .inr (.inl nu2))), (sn3, .inl (cJ, 40, .inr (.inl nu3))), (g0, .inr (9, [.ref m_ys, .ref m_yk, .ref m_yo, .ref m_yt, .int b0, .ref m_yfa, .ref m_yfe, .int m_mL, .int m_mS, .int m_mM, .ref m_yro, .ref m_yhe, .ref m_ygr, .int m_mF, .int m_mC, .int m_mY, .ref m_yta, .int (nI (z)), .int (nI (m_mf)), .int (nI (m_mt)), .int m_mv, .int m_mw, .ref m_ywa, .ref m_ybi, .ref m_ysi, .ref m_ynu, .ref m_ymo])), (m_yt, .inl (cI, 7, .inl m_mq)), (m_ybi, .inl (cI, 4, .inl m_bi)), (m_ysi, .inl (cI, 4, .inl m_sq)), (m_ynu, .inl (cJ, 160, .inr (.inl m_nb))), (m_ymo, .inl (cJ, 40, .inr (.inl m_mv9))), (h0, .inr (8, [.ref qh, .ref qk, .ref qd, .int b0, .ref qa, .ref qm, .ref qs, .ref qp, .ref ql, .ref qt, .ref qz, .ref qf])), (qf, .inl (cI, 7, .inl f2_154))] tl) := hD
      subst hw_r_153
      refine lv_pop hx hb dL_law_1307 rfl ?_
      refine lv_aload_n hx hb dL_law_1308 rfl (lv_at hl 1 rfl) ?_
      refine lv_aload_n hx hb dL_law_1309 rfl (lv_at hl 3 rfl) ?_
      refine lv_iload_n hx hb dL_law_1310 rfl (lv_at hl 0 rfl) ?_
      refine lv_iconst (v := 1) hx hb dL_law_1311 (by decide) ?_
      refine lv_iadd hx hb dL_law_1312 ?_
      refine xl_i (y := nI (i + 1)) (nI_add i 1) ?_
      refine va_sld hx hb hX hbl hbA hS (x_si (k := 1) (by decide) hi hL) dL_law_1313 ?_
      refine xl_i (y := xs (i + 1)) (congrArg xs (x_sc (k := 1) (by decide) hi hL)) ?_
      refine xl_i (y := 3) eq1 ?_
      refine lv_aload_n hx hb dL_law_1314 rfl (lv_at hl 3 rfl) ?_
      refine lv_iload_n hx hb dL_law_1315 rfl (lv_at hl 0 rfl) ?_
      refine lv_iconst (v := 2) hx hb dL_law_1316 (by decide) ?_
      refine lv_iadd hx hb dL_law_1317 ?_
      refine xl_i (y := nI (i + 2)) (nI_add i 2) ?_
      refine va_sld hx hb hX hbl hbA hS (x_si (k := 2) (by decide) hi hL) dL_law_1318 ?_
      refine xl_i (y := xs (i + 2)) (congrArg xs (x_sc (k := 2) (by decide) hi hL)) ?_
      refine lv_aload_n hx hb dL_law_1319 rfl (lv_at hl 3 rfl) ?_
      refine lv_iload_n hx hb dL_law_1320 rfl (lv_at hl 0 rfl) ?_
      refine lv_iconst (v := 3) hx hb dL_law_1321 (by decide) ?_
      refine lv_iadd hx hb dL_law_1322 ?_
      refine xl_i (y := nI (i + 3)) (nI_add i 3) ?_
      refine va_sld hx hb hX hbl hbA hS (x_si (k := 3) (by decide) hi hL) dL_law_1323 ?_
      refine xl_i (y := xs (i + 3)) (congrArg xs (x_sc (k := 3) (by decide) hi hL)) ?_
      refine lv_aload_n hx hb dL_law_1324 rfl (lv_at hl 3 rfl) ?_
      refine lv_iload_n hx hb dL_law_1325 rfl (lv_at hl 0 rfl) ?_
      refine lv_iconst (v := 4) hx hb dL_law_1326 (by decide) ?_
      refine lv_iadd hx hb dL_law_1327 ?_
      refine xl_i (y := nI (i + 4)) (nI_add i 4) ?_
      refine va_sld hx hb hX hbl hbA hS (x_si (k := 4) (by decide) hi hL) dL_law_1328 ?_
      refine xl_i (y := xs (i + 4)) (congrArg xs (x_sc (k := 4) (by decide) hi hL)) ?_
      refine lv_aload_n hx hb dL_law_1329 rfl (lv_at hl 3 rfl) ?_
      refine lv_iload_n hx hb dL_law_1330 rfl (lv_at hl 0 rfl) ?_
      refine lv_iconst (v := 5) hx hb dL_law_1331 (by decide) ?_
      refine lv_iadd hx hb dL_law_1332 ?_
      refine xl_i (y := nI (i + 5)) (nI_add i 5) ?_
      refine va_sld hx hb hX hbl hbA hS (x_si (k := 5) (by decide) hi hL) dL_law_1333 ?_
      refine xl_i (y := xs (i + 5)) (congrArg xs (x_sc (k := 5) (by decide) hi hL)) ?_
      refine xc_ViT (wr := [(qz, .inl (cS, 4, .inr (.inr (.inr (.inr (xSh s0 s1 s2 s3)))))), (s0, .inr (4, [.int bt0, .int (nI (sz0)), .ref sn0])), (s1, .inr (4, [.int bt1, .int (nI (sz1)), .ref sn1])), (s2, .inr (4, [.int bt2, .int (nI (sz2)), .ref sn2])), (s3, .inr (4, [.int bt3, .int (nI (sz3)), .ref sn3])), (sn0, .inl (cJ, 40, .inr (.inl nu0))), (sn1, .inl (cJ, 40, .inr (.inl nu1))), (sn2, .inl (cJ, 40, .inr (.inl nu2))), (sn3, .inl (cJ, 40, .inr (.inl nu3))), (m_ybi, .inl (cI, 4, .inl m_bi)), (m_ysi, .inl (cI, 4, .inl m_sq)), (m_ynu, .inl (cJ, 160, .inr (.inl m_nb))), (m_ymo, .inl (cJ, 40, .inr (.inl m_mv9))), (h0, .inr (8, [.ref qh, .ref qk, .ref qd, .int b0, .ref qa, .ref qm, .ref qs, .ref qp, .ref ql, .ref qt, .ref qz, .ref qf])), (qf, .inl (cI, 7, .inl f2_154))]) hF (c_X9_copy_3o l D cI cJ cZ cS ta sa sv H.size g0 m_ys m_yk m_yo m_yt b0 m_yfa m_yfe m_mL m_mS m_mM m_yro m_yhe m_ygr m_mF m_mC m_mY m_yta z m_mf m_mt m_mv m_mw m_ywa m_ybi m_ysi m_ynu m_ymo m_mq (xs (i + 2)) (xs (i + 3)) (xs (i + 4)) (xs (i + 5)) oq3) kv_L_170 ⟨rfl, rfl, Nat.le_of_ble_eq_true rfl, Nat.le_of_ble_eq_true rfl⟩ ⟨Nat.le_of_ble_eq_true rfl, Nat.le_of_ble_eq_true rfl⟩ hK hN hZ hP hD hS hA [9, 10] [0, 1, 2, 3, 4, 5, 6, 7, 8, 11, 12, 13, 14, 15, 16] rfl rfl rfl (by decide +kernel) (by decide +kernel) 0 rfl rfl rfl rfl hl.1 rfl (Nat.le_of_ble_eq_true rfl) dL_law_1334 (fun r_155 u_r_155 H locs hw_r_155 hP hD hS => ?_)
      obtain ⟨mq2_156, rfl⟩ : ∃ z, z = u_r_155 := ⟨_, rfl⟩
      try dsimp only at hw_r_155
      have hP : va_P D vwCl (@HAppend.hAppend va_W va_W va_W _ [(qz, .inl (cS, 4, .inr (.inr (.inr (.inr (xSh s0 s1 s2 s3)))))), (s0, .inr (4, [.int bt0, .int (nI (sz0)), .ref sn0])), (s1, .inr (4, [.int bt1, .int (nI (sz1)), .ref sn1])), (s2, .inr (4, [.int bt2, .int (nI (sz2)), .ref sn2])), (s3, .inr (4, [.int bt3, .int (nI (sz3)), .ref sn3])), (sn0, .inl (cJ, 40, .inr (.inl nu0))), (sn1, .inl (cJ, 40, .inr (.inl nu1))), (sn2, .inl (cJ, 40, .inr (.inl nu2))), (sn3, .inl (cJ, 40, .inr (.inl nu3))), (m_ybi, .inl (cI, 4, .inl m_bi)), (m_ysi, .inl (cI, 4, .inl m_sq)), (m_ynu, .inl (cJ, 160, .inr (.inl m_nb))), (m_ymo, .inl (cJ, 40, .inr (.inl m_mv9))), (h0, .inr (8, [.ref qh, .ref qk, .ref qd, .int b0, .ref qa, .ref qm, .ref qs, .ref qp, .ref ql, .ref qt, .ref qz, .ref qf])), (qf, .inl (cI, 7, .inl f2_154)), (g0, .inr (9, [.ref m_ys, .ref m_yk, .ref m_yo, .ref m_yt, .int b0, .ref m_yfa, .ref m_yfe, .int m_mL, .int m_mS, .int m_mM, .ref m_yro, .ref m_yhe, .ref m_ygr, .int m_mF, .int m_mC, .int m_mY, .ref m_yta, .int (nI (z)), .int (nI (m_mf)), .int (nI (m_mt)), .int m_mv, .int m_mw, .ref m_ywa, .ref m_ybi, .ref m_ysi, .ref m_ynu, .ref m_ymo])), (m_yt, .inl (cI, 7, .inl mq2_156))] tl) H := hP
      have hD : va_D A (@HAppend.hAppend va_W va_W va_W _ [(qz, .inl (cS, 4, .inr (.inr (.inr (.inr (xSh s0 s1 s2 s3)))))), (s0, .inr (4, [.int bt0, .int (nI (sz0)), .ref sn0])), (s1, .inr (4, [.int bt1, .int (nI (sz1)), .ref sn1])), (s2, .inr (4, [.int bt2, .int (nI (sz2)), .ref sn2])), (s3, .inr (4, [.int bt3, .int (nI (sz3)), .ref sn3])), (sn0, .inl (cJ, 40, .inr (.inl nu0))), (sn1, .inl (cJ, 40, .inr (.inl nu1))), (sn2, .inl (cJ, 40, .inr (.inl nu2))), (sn3, .inl (cJ, 40, .inr (.inl nu3))), (m_ybi, .inl (cI, 4, .inl m_bi)), (m_ysi, .inl (cI, 4, .inl m_sq)), (m_ynu, .inl (cJ, 160, .inr (.inl m_nb))), (m_ymo, .inl (cJ, 40, .inr (.inl m_mv9))), (h0, .inr (8, [.ref qh, .ref qk, .ref qd, .int b0, .ref qa, .ref qm, .ref qs, .ref qp, .ref ql, .ref qt, .ref qz, .ref qf])), (qf, .inl (cI, 7, .inl f2_154)), (g0, .inr (9, [.ref m_ys, .ref m_yk, .ref m_yo, .ref m_yt, .int b0, .ref m_yfa, .ref m_yfe, .int m_mL, .int m_mS, .int m_mM, .ref m_yro, .ref m_yhe, .ref m_ygr, .int m_mF, .int m_mC, .int m_mY, .ref m_yta, .int (nI (z)), .int (nI (m_mf)), .int (nI (m_mt)), .int m_mv, .int m_mw, .ref m_ywa, .ref m_ybi, .ref m_ysi, .ref m_ynu, .ref m_ymo])), (m_yt, .inl (cI, 7, .inl mq2_156))] tl) := hD
      subst hw_r_155
      refine lv_pop hx hb dL_law_1337 rfl ?_
      refine lv_goto (tgt := 1482) hx hb dL_law_1338 (by decide) ?_
      exact kkx _ _ _ nu0 nu1 nu2 nu3 f2_154 mq2_156 m_nb m_mv9 (xt_P hP [13, 0, 1, 2, 3, 4, 5, 6, 7, 8, 14, 15, 16, 9, 10, 11, 12] rfl) (xt_D hD [13, 0, 1, 2, 3, 4, 5, 6, 7, 8, 14, 15, 16, 9, 10, 11, 12] (by decide +kernel) rfl) r_n0 r_n1 r_n2 r_n3 hS hl
    · skip
      refine lv_aload_n hx hb dL_law_1279 rfl (lv_at hl 3 rfl) ?_
      refine lv_iload_n hx hb dL_law_1280 rfl (lv_at hl 0 rfl) ?_
      refine lv_iconst (v := 1) hx hb dL_law_1281 (by decide) ?_
      refine lv_iadd hx hb dL_law_1282 ?_
      refine xl_i (y := nI (i + 1)) (nI_add i 1) ?_
      refine va_sld hx hb hX hbl hbA hS (x_si (k := 1) (by decide) hi hL) dL_law_1283 ?_
      refine xl_i (y := xs (i + 1)) (congrArg xs (x_sc (k := 1) (by decide) hi hL)) ?_
      refine xl_i (y := 3) eq1 ?_
      refine lv_aload_n hx hb dL_law_1284 rfl (lv_at hl 3 rfl) ?_
      refine lv_iload_n hx hb dL_law_1285 rfl (lv_at hl 0 rfl) ?_
      refine lv_iconst (v := 2) hx hb dL_law_1286 (by decide) ?_
      refine lv_iadd hx hb dL_law_1287 ?_
      refine xl_i (y := nI (i + 2)) (nI_add i 2) ?_
      refine va_sld hx hb hX hbl hbA hS (x_si (k := 2) (by decide) hi hL) dL_law_1288 ?_
      refine xl_i (y := xs (i + 2)) (congrArg xs (x_sc (k := 2) (by decide) hi hL)) ?_
      refine lv_aload_n hx hb dL_law_1289 rfl (lv_at hl 3 rfl) ?_
      refine lv_iload_n hx hb dL_law_1290 rfl (lv_at hl 0 rfl) ?_
      refine lv_iconst (v := 3) hx hb dL_law_1291 (by decide) ?_
      refine lv_iadd hx hb dL_law_1292 ?_
      refine xl_i (y := nI (i + 3)) (nI_add i 3) ?_
      refine va_sld hx hb hX hbl hbA hS (x_si (k := 3) (by decide) hi hL) dL_law_1293 ?_
      refine xl_i (y := xs (i + 3)) (congrArg xs (x_sc (k := 3) (by decide) hi hL)) ?_
      refine xl_i (y := 0) eq3 ?_
      refine lv_aload_n hx hb dL_law_1294 rfl (lv_at hl 3 rfl) ?_
      refine lv_iload_n hx hb dL_law_1295 rfl (lv_at hl 0 rfl) ?_
      refine lv_iconst (v := 4) hx hb dL_law_1296 (by decide) ?_
      refine lv_iadd hx hb dL_law_1297 ?_
      refine xl_i (y := nI (i + 4)) (nI_add i 4) ?_
      refine va_sld hx hb hX hbl hbA hS (x_si (k := 4) (by decide) hi hL) dL_law_1298 ?_
      refine xl_i (y := xs (i + 4)) (congrArg xs (x_sc (k := 4) (by decide) hi hL)) ?_
      refine lv_aload_n hx hb dL_law_1299 rfl (lv_at hl 3 rfl) ?_
      refine lv_iload_n hx hb dL_law_1300 rfl (lv_at hl 0 rfl) ?_
      refine lv_iconst (v := 5) hx hb dL_law_1301 (by decide) ?_
      refine lv_iadd hx hb dL_law_1302 ?_
      refine xl_i (y := nI (i + 5)) (nI_add i 5) ?_
      refine va_sld hx hb hX hbl hbA hS (x_si (k := 5) (by decide) hi hL) dL_law_1303 ?_
      refine xl_i (y := xs (i + 5)) (congrArg xs (x_sc (k := 5) (by decide) hi hL)) ?_
      refine xc_ViT (wr := [(g0, .inr (9, [.ref m_ys, .ref m_yk, .ref m_yo, .ref m_yt, .int b0, .ref m_yfa, .ref m_yfe, .int m_mL, .int m_mS, .int m_mM, .ref m_yro, .ref m_yhe, .ref m_ygr, .int m_mF, .int m_mC, .int m_mY, .ref m_yta, .int (nI (z)), .int (nI (m_mf)), .int (nI (m_mt)), .int m_mv, .int m_mw, .ref m_ywa, .ref m_ybi, .ref m_ysi, .ref m_ynu, .ref m_ymo])), (m_yt, .inl (cI, 7, .inl m_mq)), (m_ybi, .inl (cI, 4, .inl m_bi)), (m_ysi, .inl (cI, 4, .inl m_sq)), (m_ynu, .inl (cJ, 160, .inr (.inl m_nb))), (m_ymo, .inl (cJ, 40, .inr (.inl m_mv9)))]) hF (c_X8_copy_30 l D cI cJ cZ cS ta sa sv H.size h0 qh qk qd b0 qa qm qs qp ql qt qz qf s0 s1 s2 s3 bt0 sz0 sn0 bt1 sz1 sn1 bt2 sz2 sn2 bt3 sz3 sn3 nu0 nu1 nu2 nu3 ff (xs (i + 2)) (xs (i + 4)) (xs (i + 5)) hsz0 hsz1 hsz2 hsz3) kv_L_166 ⟨rfl, rfl, Nat.le_of_ble_eq_true rfl, Nat.le_of_ble_eq_true rfl⟩ ⟨Nat.le_of_ble_eq_true rfl, Nat.le_of_ble_eq_true rfl⟩ hK hN hZ hP hD hS hA [0, 1, 2, 3, 4, 5, 6, 7, 8, 9, 10] [11, 12, 13, 14, 15, 16] rfl rfl (by decide +kernel) (by decide +kernel) (by decide +kernel) 0 rfl rfl rfl rfl hl.1 rfl (Nat.le_of_ble_eq_true rfl) dL_law_1304 (fun r_157 u_r_157 H locs hw_r_157 hP hD hS => ?_)
      obtain ⟨nv_158, f2_159⟩ := u_r_157
      try dsimp only at hw_r_157
      obtain ⟨hw_r_157, i_160⟩ := hw_r_157
      have hP : va_P D vwCl (@HAppend.hAppend va_W va_W va_W _ [(g0, .inr (9, [.ref m_ys, .ref m_yk, .ref m_yo, .ref m_yt, .int b0, .ref m_yfa, .ref m_yfe, .int m_mL, .int m_mS, .int m_mM, .ref m_yro, .ref m_yhe, .ref m_ygr, .int m_mF, .int m_mC, .int m_mY, .ref m_yta, .int (nI (z)), .int (nI (m_mf)), .int (nI (m_mt)), .int m_mv, .int m_mw, .ref m_ywa, .ref m_ybi, .ref m_ysi, .ref m_ynu, .ref m_ymo])), (m_yt, .inl (cI, 7, .inl m_mq)), (m_ybi, .inl (cI, 4, .inl m_bi)), (m_ysi, .inl (cI, 4, .inl m_sq)), (m_ynu, .inl (cJ, 160, .inr (.inl m_nb))), (m_ymo, .inl (cJ, 40, .inr (.inl m_mv9))), (h0, .inr (8, [.ref qh, .ref qk, .ref qd, .int b0, .ref qa, .ref qm, .ref qs, .ref qp, .ref ql, .ref qt, .ref qz, .ref qf])), (qz, .inl (cS, 4, .inr (.inr (.inr (.inr (xSh s0 s1 s2 s3)))))), (s0, .inr (4, [.int bt0, .int (nI (sz0)), .ref sn0])), (s1, .inr (4, [.int bt1, .int (nI (sz1)), .ref sn1])), (s2, .inr (4, [.int bt2, .int (nI (sz2)), .ref sn2])), (s3, .inr (4, [.int bt3, .int (nI (sz3)), .ref sn3])), (sn0, .inl (cJ, 40, .inr (.inl nv_158))), (sn1, .inl (cJ, 40, .inr (.inl nu1))), (sn2, .inl (cJ, 40, .inr (.inl nu2))), (sn3, .inl (cJ, 40, .inr (.inl nu3))), (qf, .inl (cI, 7, .inl f2_159))] tl) H := hP
      have hD : va_D A (@HAppend.hAppend va_W va_W va_W _ [(g0, .inr (9, [.ref m_ys, .ref m_yk, .ref m_yo, .ref m_yt, .int b0, .ref m_yfa, .ref m_yfe, .int m_mL, .int m_mS, .int m_mM, .ref m_yro, .ref m_yhe, .ref m_ygr, .int m_mF, .int m_mC, .int m_mY, .ref m_yta, .int (nI (z)), .int (nI (m_mf)), .int (nI (m_mt)), .int m_mv, .int m_mw, .ref m_ywa, .ref m_ybi, .ref m_ysi, .ref m_ynu, .ref m_ymo])), (m_yt, .inl (cI, 7, .inl m_mq)), (m_ybi, .inl (cI, 4, .inl m_bi)), (m_ysi, .inl (cI, 4, .inl m_sq)), (m_ynu, .inl (cJ, 160, .inr (.inl m_nb))), (m_ymo, .inl (cJ, 40, .inr (.inl m_mv9))), (h0, .inr (8, [.ref qh, .ref qk, .ref qd, .int b0, .ref qa, .ref qm, .ref qs, .ref qp, .ref ql, .ref qt, .ref qz, .ref qf])), (qz, .inl (cS, 4, .inr (.inr (.inr (.inr (xSh s0 s1 s2 s3)))))), (s0, .inr (4, [.int bt0, .int (nI (sz0)), .ref sn0])), (s1, .inr (4, [.int bt1, .int (nI (sz1)), .ref sn1])), (s2, .inr (4, [.int bt2, .int (nI (sz2)), .ref sn2])), (s3, .inr (4, [.int bt3, .int (nI (sz3)), .ref sn3])), (sn0, .inl (cJ, 40, .inr (.inl nv_158))), (sn1, .inl (cJ, 40, .inr (.inl nu1))), (sn2, .inl (cJ, 40, .inr (.inl nu2))), (sn3, .inl (cJ, 40, .inr (.inl nu3))), (qf, .inl (cI, 7, .inl f2_159))] tl) := hD
      subst hw_r_157
      refine lv_pop hx hb dL_law_1307 rfl ?_
      refine lv_aload_n hx hb dL_law_1308 rfl (lv_at hl 1 rfl) ?_
      refine lv_aload_n hx hb dL_law_1309 rfl (lv_at hl 3 rfl) ?_
      refine lv_iload_n hx hb dL_law_1310 rfl (lv_at hl 0 rfl) ?_
      refine lv_iconst (v := 1) hx hb dL_law_1311 (by decide) ?_
      refine lv_iadd hx hb dL_law_1312 ?_
      refine xl_i (y := nI (i + 1)) (nI_add i 1) ?_
      refine va_sld hx hb hX hbl hbA hS (x_si (k := 1) (by decide) hi hL) dL_law_1313 ?_
      refine xl_i (y := xs (i + 1)) (congrArg xs (x_sc (k := 1) (by decide) hi hL)) ?_
      refine xl_i (y := 3) eq1 ?_
      refine lv_aload_n hx hb dL_law_1314 rfl (lv_at hl 3 rfl) ?_
      refine lv_iload_n hx hb dL_law_1315 rfl (lv_at hl 0 rfl) ?_
      refine lv_iconst (v := 2) hx hb dL_law_1316 (by decide) ?_
      refine lv_iadd hx hb dL_law_1317 ?_
      refine xl_i (y := nI (i + 2)) (nI_add i 2) ?_
      refine va_sld hx hb hX hbl hbA hS (x_si (k := 2) (by decide) hi hL) dL_law_1318 ?_
      refine xl_i (y := xs (i + 2)) (congrArg xs (x_sc (k := 2) (by decide) hi hL)) ?_
      refine lv_aload_n hx hb dL_law_1319 rfl (lv_at hl 3 rfl) ?_
      refine lv_iload_n hx hb dL_law_1320 rfl (lv_at hl 0 rfl) ?_
      refine lv_iconst (v := 3) hx hb dL_law_1321 (by decide) ?_
      refine lv_iadd hx hb dL_law_1322 ?_
      refine xl_i (y := nI (i + 3)) (nI_add i 3) ?_
      refine va_sld hx hb hX hbl hbA hS (x_si (k := 3) (by decide) hi hL) dL_law_1323 ?_
      refine xl_i (y := xs (i + 3)) (congrArg xs (x_sc (k := 3) (by decide) hi hL)) ?_
      refine xl_i (y := 0) eq3 ?_
      refine lv_aload_n hx hb dL_law_1324 rfl (lv_at hl 3 rfl) ?_
      refine lv_iload_n hx hb dL_law_1325 rfl (lv_at hl 0 rfl) ?_
      refine lv_iconst (v := 4) hx hb dL_law_1326 (by decide) ?_
      refine lv_iadd hx hb dL_law_1327 ?_
      refine xl_i (y := nI (i + 4)) (nI_add i 4) ?_
      refine va_sld hx hb hX hbl hbA hS (x_si (k := 4) (by decide) hi hL) dL_law_1328 ?_
      refine xl_i (y := xs (i + 4)) (congrArg xs (x_sc (k := 4) (by decide) hi hL)) ?_
      refine lv_aload_n hx hb dL_law_1329 rfl (lv_at hl 3 rfl) ?_
      refine lv_iload_n hx hb dL_law_1330 rfl (lv_at hl 0 rfl) ?_
      refine lv_iconst (v := 5) hx hb dL_law_1331 (by decide) ?_
      refine lv_iadd hx hb dL_law_1332 ?_
      refine xl_i (y := nI (i + 5)) (nI_add i 5) ?_
      refine va_sld hx hb hX hbl hbA hS (x_si (k := 5) (by decide) hi hL) dL_law_1333 ?_
      refine xl_i (y := xs (i + 5)) (congrArg xs (x_sc (k := 5) (by decide) hi hL)) ?_
      refine xc_ViT (wr := [(h0, .inr (8, [.ref qh, .ref qk, .ref qd, .int b0, .ref qa, .ref qm, .ref qs, .ref qp, .ref ql, .ref qt, .ref qz, .ref qf])), (qz, .inl (cS, 4, .inr (.inr (.inr (.inr (xSh s0 s1 s2 s3)))))), (s0, .inr (4, [.int bt0, .int (nI (sz0)), .ref sn0])), (s1, .inr (4, [.int bt1, .int (nI (sz1)), .ref sn1])), (s2, .inr (4, [.int bt2, .int (nI (sz2)), .ref sn2])), (s3, .inr (4, [.int bt3, .int (nI (sz3)), .ref sn3])), (sn0, .inl (cJ, 40, .inr (.inl nv_158))), (sn1, .inl (cJ, 40, .inr (.inl nu1))), (sn2, .inl (cJ, 40, .inr (.inl nu2))), (sn3, .inl (cJ, 40, .inr (.inl nu3))), (qf, .inl (cI, 7, .inl f2_159))]) hF (c_X9_copy_30 l D cI cJ cZ cS ta sa sv H.size g0 m_ys m_yk m_yo m_yt b0 m_yfa m_yfe m_mL m_mS m_mM m_yro m_yhe m_ygr m_mF m_mC m_mY m_yta z m_mf m_mt m_mv m_mw m_ywa m_ybi m_ysi m_ynu m_ymo m_bi m_sq m_nb m_mv9 m_mq (xs (i + 2)) (xs (i + 4)) (xs (i + 5)) sz3 sz0 r_z3 hsz3 r_z0 hsz0 m_hsq) kv_L_170 ⟨rfl, rfl, Nat.le_of_ble_eq_true rfl, Nat.le_of_ble_eq_true rfl⟩ ⟨Nat.le_of_ble_eq_true rfl, Nat.le_of_ble_eq_true rfl⟩ hK hN hZ hP hD hS hA [0, 2, 3, 4, 5, 1] [6, 7, 8, 9, 10, 11, 12, 13, 14, 15, 16] rfl rfl (by decide +kernel) (by decide +kernel) (by decide +kernel) 0 rfl rfl rfl rfl hl.1 rfl (Nat.le_of_ble_eq_true rfl) dL_law_1334 (fun r_161 u_r_161 H locs hw_r_161 hP hD hS => ?_)
      obtain ⟨nb2_162, mv2_163, mq2_164⟩ := u_r_161
      try dsimp only at hw_r_161
      obtain ⟨hw_r_161, i_165, i_166⟩ := hw_r_161
      have hP : va_P D vwCl (@HAppend.hAppend va_W va_W va_W _ [(h0, .inr (8, [.ref qh, .ref qk, .ref qd, .int b0, .ref qa, .ref qm, .ref qs, .ref qp, .ref ql, .ref qt, .ref qz, .ref qf])), (qz, .inl (cS, 4, .inr (.inr (.inr (.inr (xSh s0 s1 s2 s3)))))), (s0, .inr (4, [.int bt0, .int (nI (sz0)), .ref sn0])), (s1, .inr (4, [.int bt1, .int (nI (sz1)), .ref sn1])), (s2, .inr (4, [.int bt2, .int (nI (sz2)), .ref sn2])), (s3, .inr (4, [.int bt3, .int (nI (sz3)), .ref sn3])), (sn0, .inl (cJ, 40, .inr (.inl nv_158))), (sn1, .inl (cJ, 40, .inr (.inl nu1))), (sn2, .inl (cJ, 40, .inr (.inl nu2))), (sn3, .inl (cJ, 40, .inr (.inl nu3))), (qf, .inl (cI, 7, .inl f2_159)), (g0, .inr (9, [.ref m_ys, .ref m_yk, .ref m_yo, .ref m_yt, .int b0, .ref m_yfa, .ref m_yfe, .int m_mL, .int m_mS, .int m_mM, .ref m_yro, .ref m_yhe, .ref m_ygr, .int m_mF, .int m_mC, .int m_mY, .ref m_yta, .int (nI (z)), .int (nI (m_mf)), .int (nI (m_mt)), .int m_mv, .int m_mw, .ref m_ywa, .ref m_ybi, .ref m_ysi, .ref m_ynu, .ref m_ymo])), (m_ybi, .inl (cI, 4, .inl m_bi)), (m_ysi, .inl (cI, 4, .inl m_sq)), (m_ynu, .inl (cJ, 160, .inr (.inl nb2_162))), (m_ymo, .inl (cJ, 40, .inr (.inl mv2_163))), (m_yt, .inl (cI, 7, .inl mq2_164))] tl) H := hP
      have hD : va_D A (@HAppend.hAppend va_W va_W va_W _ [(h0, .inr (8, [.ref qh, .ref qk, .ref qd, .int b0, .ref qa, .ref qm, .ref qs, .ref qp, .ref ql, .ref qt, .ref qz, .ref qf])), (qz, .inl (cS, 4, .inr (.inr (.inr (.inr (xSh s0 s1 s2 s3)))))), (s0, .inr (4, [.int bt0, .int (nI (sz0)), .ref sn0])), (s1, .inr (4, [.int bt1, .int (nI (sz1)), .ref sn1])), (s2, .inr (4, [.int bt2, .int (nI (sz2)), .ref sn2])), (s3, .inr (4, [.int bt3, .int (nI (sz3)), .ref sn3])), (sn0, .inl (cJ, 40, .inr (.inl nv_158))), (sn1, .inl (cJ, 40, .inr (.inl nu1))), (sn2, .inl (cJ, 40, .inr (.inl nu2))), (sn3, .inl (cJ, 40, .inr (.inl nu3))), (qf, .inl (cI, 7, .inl f2_159)), (g0, .inr (9, [.ref m_ys, .ref m_yk, .ref m_yo, .ref m_yt, .int b0, .ref m_yfa, .ref m_yfe, .int m_mL, .int m_mS, .int m_mM, .ref m_yro, .ref m_yhe, .ref m_ygr, .int m_mF, .int m_mC, .int m_mY, .ref m_yta, .int (nI (z)), .int (nI (m_mf)), .int (nI (m_mt)), .int m_mv, .int m_mw, .ref m_ywa, .ref m_ybi, .ref m_ysi, .ref m_ynu, .ref m_ymo])), (m_ybi, .inl (cI, 4, .inl m_bi)), (m_ysi, .inl (cI, 4, .inl m_sq)), (m_ynu, .inl (cJ, 160, .inr (.inl nb2_162))), (m_ymo, .inl (cJ, 40, .inr (.inl mv2_163))), (m_yt, .inl (cI, 7, .inl mq2_164))] tl) := hD
      subst hw_r_161
      refine lv_pop hx hb dL_law_1337 rfl ?_
      refine lv_goto (tgt := 1482) hx hb dL_law_1338 (by decide) ?_
      exact kkx _ _ _ nv_158 nu1 nu2 nu3 f2_159 mq2_164 nb2_162 mv2_163 (xt_P hP [0, 1, 2, 3, 4, 5, 6, 7, 8, 9, 10, 11, 16, 12, 13, 14, 15] rfl) (xt_D hD [0, 1, 2, 3, 4, 5, 6, 7, 8, 9, 10, 11, 16, 12, 13, 14, 15] (by decide +kernel) rfl) (fun j hj => (i_165 j).trans ((sp_cneq r_b3 r_b0 r_n3 (by omega) (r_n0 j hj)).trans (i_160 j).symm)) (fun j hj => (i_166 (40 + j) (by omega)).trans (r_n1 j hj)) (fun j hj => (i_166 (80 + j) (by omega)).trans (r_n2 j hj)) (fun j hj => (i_166 (120 + j) (by omega)).trans (r_n3 j hj)) hS hl
    · skip
      refine lv_aload_n hx hb dL_law_1279 rfl (lv_at hl 3 rfl) ?_
      refine lv_iload_n hx hb dL_law_1280 rfl (lv_at hl 0 rfl) ?_
      refine lv_iconst (v := 1) hx hb dL_law_1281 (by decide) ?_
      refine lv_iadd hx hb dL_law_1282 ?_
      refine xl_i (y := nI (i + 1)) (nI_add i 1) ?_
      refine va_sld hx hb hX hbl hbA hS (x_si (k := 1) (by decide) hi hL) dL_law_1283 ?_
      refine xl_i (y := xs (i + 1)) (congrArg xs (x_sc (k := 1) (by decide) hi hL)) ?_
      refine xl_i (y := 3) eq1 ?_
      refine lv_aload_n hx hb dL_law_1284 rfl (lv_at hl 3 rfl) ?_
      refine lv_iload_n hx hb dL_law_1285 rfl (lv_at hl 0 rfl) ?_
      refine lv_iconst (v := 2) hx hb dL_law_1286 (by decide) ?_
      refine lv_iadd hx hb dL_law_1287 ?_
      refine xl_i (y := nI (i + 2)) (nI_add i 2) ?_
      refine va_sld hx hb hX hbl hbA hS (x_si (k := 2) (by decide) hi hL) dL_law_1288 ?_
      refine xl_i (y := xs (i + 2)) (congrArg xs (x_sc (k := 2) (by decide) hi hL)) ?_
      refine lv_aload_n hx hb dL_law_1289 rfl (lv_at hl 3 rfl) ?_
      refine lv_iload_n hx hb dL_law_1290 rfl (lv_at hl 0 rfl) ?_
      refine lv_iconst (v := 3) hx hb dL_law_1291 (by decide) ?_
      refine lv_iadd hx hb dL_law_1292 ?_
      refine xl_i (y := nI (i + 3)) (nI_add i 3) ?_
      refine va_sld hx hb hX hbl hbA hS (x_si (k := 3) (by decide) hi hL) dL_law_1293 ?_
      refine xl_i (y := xs (i + 3)) (congrArg xs (x_sc (k := 3) (by decide) hi hL)) ?_
      refine xl_i (y := 1) eq3 ?_
      refine lv_aload_n hx hb dL_law_1294 rfl (lv_at hl 3 rfl) ?_
      refine lv_iload_n hx hb dL_law_1295 rfl (lv_at hl 0 rfl) ?_
      refine lv_iconst (v := 4) hx hb dL_law_1296 (by decide) ?_
      refine lv_iadd hx hb dL_law_1297 ?_
      refine xl_i (y := nI (i + 4)) (nI_add i 4) ?_
      refine va_sld hx hb hX hbl hbA hS (x_si (k := 4) (by decide) hi hL) dL_law_1298 ?_
      refine xl_i (y := xs (i + 4)) (congrArg xs (x_sc (k := 4) (by decide) hi hL)) ?_
      refine lv_aload_n hx hb dL_law_1299 rfl (lv_at hl 3 rfl) ?_
      refine lv_iload_n hx hb dL_law_1300 rfl (lv_at hl 0 rfl) ?_
      refine lv_iconst (v := 5) hx hb dL_law_1301 (by decide) ?_
      refine lv_iadd hx hb dL_law_1302 ?_
      refine xl_i (y := nI (i + 5)) (nI_add i 5) ?_
      refine va_sld hx hb hX hbl hbA hS (x_si (k := 5) (by decide) hi hL) dL_law_1303 ?_
      refine xl_i (y := xs (i + 5)) (congrArg xs (x_sc (k := 5) (by decide) hi hL)) ?_
      refine xc_ViT (wr := [(g0, .inr (9, [.ref m_ys, .ref m_yk, .ref m_yo, .ref m_yt, .int b0, .ref m_yfa, .ref m_yfe, .int m_mL, .int m_mS, .int m_mM, .ref m_yro, .ref m_yhe, .ref m_ygr, .int m_mF, .int m_mC, .int m_mY, .ref m_yta, .int (nI (z)), .int (nI (m_mf)), .int (nI (m_mt)), .int m_mv, .int m_mw, .ref m_ywa, .ref m_ybi, .ref m_ysi, .ref m_ynu, .ref m_ymo])), (m_yt, .inl (cI, 7, .inl m_mq)), (m_ybi, .inl (cI, 4, .inl m_bi)), (m_ysi, .inl (cI, 4, .inl m_sq)), (m_ynu, .inl (cJ, 160, .inr (.inl m_nb))), (m_ymo, .inl (cJ, 40, .inr (.inl m_mv9)))]) hF (c_X8_copy_31 l D cI cJ cZ cS ta sa sv H.size h0 qh qk qd b0 qa qm qs qp ql qt qz qf s0 s1 s2 s3 bt0 sz0 sn0 bt1 sz1 sn1 bt2 sz2 sn2 bt3 sz3 sn3 nu0 nu1 nu2 nu3 ff (xs (i + 2)) (xs (i + 4)) (xs (i + 5)) hsz0 hsz1 hsz2 hsz3) kv_L_166 ⟨rfl, rfl, Nat.le_of_ble_eq_true rfl, Nat.le_of_ble_eq_true rfl⟩ ⟨Nat.le_of_ble_eq_true rfl, Nat.le_of_ble_eq_true rfl⟩ hK hN hZ hP hD hS hA [0, 1, 2, 3, 4, 5, 6, 7, 8, 9, 10] [11, 12, 13, 14, 15, 16] rfl rfl (by decide +kernel) (by decide +kernel) (by decide +kernel) 0 rfl rfl rfl rfl hl.1 rfl (Nat.le_of_ble_eq_true rfl) dL_law_1304 (fun r_167 u_r_167 H locs hw_r_167 hP hD hS => ?_)
      obtain ⟨nv_168, f2_169⟩ := u_r_167
      try dsimp only at hw_r_167
      obtain ⟨hw_r_167, i_170⟩ := hw_r_167
      have hP : va_P D vwCl (@HAppend.hAppend va_W va_W va_W _ [(g0, .inr (9, [.ref m_ys, .ref m_yk, .ref m_yo, .ref m_yt, .int b0, .ref m_yfa, .ref m_yfe, .int m_mL, .int m_mS, .int m_mM, .ref m_yro, .ref m_yhe, .ref m_ygr, .int m_mF, .int m_mC, .int m_mY, .ref m_yta, .int (nI (z)), .int (nI (m_mf)), .int (nI (m_mt)), .int m_mv, .int m_mw, .ref m_ywa, .ref m_ybi, .ref m_ysi, .ref m_ynu, .ref m_ymo])), (m_yt, .inl (cI, 7, .inl m_mq)), (m_ybi, .inl (cI, 4, .inl m_bi)), (m_ysi, .inl (cI, 4, .inl m_sq)), (m_ynu, .inl (cJ, 160, .inr (.inl m_nb))), (m_ymo, .inl (cJ, 40, .inr (.inl m_mv9))), (h0, .inr (8, [.ref qh, .ref qk, .ref qd, .int b0, .ref qa, .ref qm, .ref qs, .ref qp, .ref ql, .ref qt, .ref qz, .ref qf])), (qz, .inl (cS, 4, .inr (.inr (.inr (.inr (xSh s0 s1 s2 s3)))))), (s0, .inr (4, [.int bt0, .int (nI (sz0)), .ref sn0])), (s1, .inr (4, [.int bt1, .int (nI (sz1)), .ref sn1])), (s2, .inr (4, [.int bt2, .int (nI (sz2)), .ref sn2])), (s3, .inr (4, [.int bt3, .int (nI (sz3)), .ref sn3])), (sn0, .inl (cJ, 40, .inr (.inl nu0))), (sn1, .inl (cJ, 40, .inr (.inl nv_168))), (sn2, .inl (cJ, 40, .inr (.inl nu2))), (sn3, .inl (cJ, 40, .inr (.inl nu3))), (qf, .inl (cI, 7, .inl f2_169))] tl) H := hP
      have hD : va_D A (@HAppend.hAppend va_W va_W va_W _ [(g0, .inr (9, [.ref m_ys, .ref m_yk, .ref m_yo, .ref m_yt, .int b0, .ref m_yfa, .ref m_yfe, .int m_mL, .int m_mS, .int m_mM, .ref m_yro, .ref m_yhe, .ref m_ygr, .int m_mF, .int m_mC, .int m_mY, .ref m_yta, .int (nI (z)), .int (nI (m_mf)), .int (nI (m_mt)), .int m_mv, .int m_mw, .ref m_ywa, .ref m_ybi, .ref m_ysi, .ref m_ynu, .ref m_ymo])), (m_yt, .inl (cI, 7, .inl m_mq)), (m_ybi, .inl (cI, 4, .inl m_bi)), (m_ysi, .inl (cI, 4, .inl m_sq)), (m_ynu, .inl (cJ, 160, .inr (.inl m_nb))), (m_ymo, .inl (cJ, 40, .inr (.inl m_mv9))), (h0, .inr (8, [.ref qh, .ref qk, .ref qd, .int b0, .ref qa, .ref qm, .ref qs, .ref qp, .ref ql, .ref qt, .ref qz, .ref qf])), (qz, .inl (cS, 4, .inr (.inr (.inr (.inr (xSh s0 s1 s2 s3)))))), (s0, .inr (4, [.int bt0, .int (nI (sz0)), .ref sn0])), (s1, .inr (4, [.int bt1, .int (nI (sz1)), .ref sn1])), (s2, .inr (4, [.int bt2, .int (nI (sz2)), .ref sn2])), (s3, .inr (4, [.int bt3, .int (nI (sz3)), .ref sn3])), (sn0, .inl (cJ, 40, .inr (.inl nu0))), (sn1, .inl (cJ, 40, .inr (.inl nv_168))), (sn2, .inl (cJ, 40, .inr (.inl nu2))), (sn3, .inl (cJ, 40, .inr (.inl nu3))), (qf, .inl (cI, 7, .inl f2_169))] tl) := hD
      subst hw_r_167
      refine lv_pop hx hb dL_law_1307 rfl ?_
      refine lv_aload_n hx hb dL_law_1308 rfl (lv_at hl 1 rfl) ?_
      refine lv_aload_n hx hb dL_law_1309 rfl (lv_at hl 3 rfl) ?_
      refine lv_iload_n hx hb dL_law_1310 rfl (lv_at hl 0 rfl) ?_
      refine lv_iconst (v := 1) hx hb dL_law_1311 (by decide) ?_
      refine lv_iadd hx hb dL_law_1312 ?_
      refine xl_i (y := nI (i + 1)) (nI_add i 1) ?_
      refine va_sld hx hb hX hbl hbA hS (x_si (k := 1) (by decide) hi hL) dL_law_1313 ?_
      refine xl_i (y := xs (i + 1)) (congrArg xs (x_sc (k := 1) (by decide) hi hL)) ?_
      refine xl_i (y := 3) eq1 ?_
      refine lv_aload_n hx hb dL_law_1314 rfl (lv_at hl 3 rfl) ?_
      refine lv_iload_n hx hb dL_law_1315 rfl (lv_at hl 0 rfl) ?_
      refine lv_iconst (v := 2) hx hb dL_law_1316 (by decide) ?_
      refine lv_iadd hx hb dL_law_1317 ?_
      refine xl_i (y := nI (i + 2)) (nI_add i 2) ?_
      refine va_sld hx hb hX hbl hbA hS (x_si (k := 2) (by decide) hi hL) dL_law_1318 ?_
      refine xl_i (y := xs (i + 2)) (congrArg xs (x_sc (k := 2) (by decide) hi hL)) ?_
      refine lv_aload_n hx hb dL_law_1319 rfl (lv_at hl 3 rfl) ?_
      refine lv_iload_n hx hb dL_law_1320 rfl (lv_at hl 0 rfl) ?_
      refine lv_iconst (v := 3) hx hb dL_law_1321 (by decide) ?_
      refine lv_iadd hx hb dL_law_1322 ?_
      refine xl_i (y := nI (i + 3)) (nI_add i 3) ?_
      refine va_sld hx hb hX hbl hbA hS (x_si (k := 3) (by decide) hi hL) dL_law_1323 ?_
      refine xl_i (y := xs (i + 3)) (congrArg xs (x_sc (k := 3) (by decide) hi hL)) ?_
      refine xl_i (y := 1) eq3 ?_
      refine lv_aload_n hx hb dL_law_1324 rfl (lv_at hl 3 rfl) ?_
      refine lv_iload_n hx hb dL_law_1325 rfl (lv_at hl 0 rfl) ?_
      refine lv_iconst (v := 4) hx hb dL_law_1326 (by decide) ?_
      refine lv_iadd hx hb dL_law_1327 ?_
      refine xl_i (y := nI (i + 4)) (nI_add i 4) ?_
      refine va_sld hx hb hX hbl hbA hS (x_si (k := 4) (by decide) hi hL) dL_law_1328 ?_
      refine xl_i (y := xs (i + 4)) (congrArg xs (x_sc (k := 4) (by decide) hi hL)) ?_
      refine lv_aload_n hx hb dL_law_1329 rfl (lv_at hl 3 rfl) ?_
      refine lv_iload_n hx hb dL_law_1330 rfl (lv_at hl 0 rfl) ?_
      refine lv_iconst (v := 5) hx hb dL_law_1331 (by decide) ?_
      refine lv_iadd hx hb dL_law_1332 ?_
      refine xl_i (y := nI (i + 5)) (nI_add i 5) ?_
      refine va_sld hx hb hX hbl hbA hS (x_si (k := 5) (by decide) hi hL) dL_law_1333 ?_
      refine xl_i (y := xs (i + 5)) (congrArg xs (x_sc (k := 5) (by decide) hi hL)) ?_
      refine xc_ViT (wr := [(h0, .inr (8, [.ref qh, .ref qk, .ref qd, .int b0, .ref qa, .ref qm, .ref qs, .ref qp, .ref ql, .ref qt, .ref qz, .ref qf])), (qz, .inl (cS, 4, .inr (.inr (.inr (.inr (xSh s0 s1 s2 s3)))))), (s0, .inr (4, [.int bt0, .int (nI (sz0)), .ref sn0])), (s1, .inr (4, [.int bt1, .int (nI (sz1)), .ref sn1])), (s2, .inr (4, [.int bt2, .int (nI (sz2)), .ref sn2])), (s3, .inr (4, [.int bt3, .int (nI (sz3)), .ref sn3])), (sn0, .inl (cJ, 40, .inr (.inl nu0))), (sn1, .inl (cJ, 40, .inr (.inl nv_168))), (sn2, .inl (cJ, 40, .inr (.inl nu2))), (sn3, .inl (cJ, 40, .inr (.inl nu3))), (qf, .inl (cI, 7, .inl f2_169))]) hF (c_X9_copy_31 l D cI cJ cZ cS ta sa sv H.size g0 m_ys m_yk m_yo m_yt b0 m_yfa m_yfe m_mL m_mS m_mM m_yro m_yhe m_ygr m_mF m_mC m_mY m_yta z m_mf m_mt m_mv m_mw m_ywa m_ybi m_ysi m_ynu m_ymo m_bi m_sq m_nb m_mv9 m_mq (xs (i + 2)) (xs (i + 4)) (xs (i + 5)) sz3 sz1 r_z3 hsz3 r_z1 hsz1 m_hsq) kv_L_170 ⟨rfl, rfl, Nat.le_of_ble_eq_true rfl, Nat.le_of_ble_eq_true rfl⟩ ⟨Nat.le_of_ble_eq_true rfl, Nat.le_of_ble_eq_true rfl⟩ hK hN hZ hP hD hS hA [0, 2, 3, 4, 5, 1] [6, 7, 8, 9, 10, 11, 12, 13, 14, 15, 16] rfl rfl (by decide +kernel) (by decide +kernel) (by decide +kernel) 0 rfl rfl rfl rfl hl.1 rfl (Nat.le_of_ble_eq_true rfl) dL_law_1334 (fun r_171 u_r_171 H locs hw_r_171 hP hD hS => ?_)
      obtain ⟨nb2_172, mv2_173, mq2_174⟩ := u_r_171
      try dsimp only at hw_r_171
      obtain ⟨hw_r_171, i_175, i_176⟩ := hw_r_171
      have hP : va_P D vwCl (@HAppend.hAppend va_W va_W va_W _ [(h0, .inr (8, [.ref qh, .ref qk, .ref qd, .int b0, .ref qa, .ref qm, .ref qs, .ref qp, .ref ql, .ref qt, .ref qz, .ref qf])), (qz, .inl (cS, 4, .inr (.inr (.inr (.inr (xSh s0 s1 s2 s3)))))), (s0, .inr (4, [.int bt0, .int (nI (sz0)), .ref sn0])), (s1, .inr (4, [.int bt1, .int (nI (sz1)), .ref sn1])), (s2, .inr (4, [.int bt2, .int (nI (sz2)), .ref sn2])), (s3, .inr (4, [.int bt3, .int (nI (sz3)), .ref sn3])), (sn0, .inl (cJ, 40, .inr (.inl nu0))), (sn1, .inl (cJ, 40, .inr (.inl nv_168))), (sn2, .inl (cJ, 40, .inr (.inl nu2))), (sn3, .inl (cJ, 40, .inr (.inl nu3))), (qf, .inl (cI, 7, .inl f2_169)), (g0, .inr (9, [.ref m_ys, .ref m_yk, .ref m_yo, .ref m_yt, .int b0, .ref m_yfa, .ref m_yfe, .int m_mL, .int m_mS, .int m_mM, .ref m_yro, .ref m_yhe, .ref m_ygr, .int m_mF, .int m_mC, .int m_mY, .ref m_yta, .int (nI (z)), .int (nI (m_mf)), .int (nI (m_mt)), .int m_mv, .int m_mw, .ref m_ywa, .ref m_ybi, .ref m_ysi, .ref m_ynu, .ref m_ymo])), (m_ybi, .inl (cI, 4, .inl m_bi)), (m_ysi, .inl (cI, 4, .inl m_sq)), (m_ynu, .inl (cJ, 160, .inr (.inl nb2_172))), (m_ymo, .inl (cJ, 40, .inr (.inl mv2_173))), (m_yt, .inl (cI, 7, .inl mq2_174))] tl) H := hP
      have hD : va_D A (@HAppend.hAppend va_W va_W va_W _ [(h0, .inr (8, [.ref qh, .ref qk, .ref qd, .int b0, .ref qa, .ref qm, .ref qs, .ref qp, .ref ql, .ref qt, .ref qz, .ref qf])), (qz, .inl (cS, 4, .inr (.inr (.inr (.inr (xSh s0 s1 s2 s3)))))), (s0, .inr (4, [.int bt0, .int (nI (sz0)), .ref sn0])), (s1, .inr (4, [.int bt1, .int (nI (sz1)), .ref sn1])), (s2, .inr (4, [.int bt2, .int (nI (sz2)), .ref sn2])), (s3, .inr (4, [.int bt3, .int (nI (sz3)), .ref sn3])), (sn0, .inl (cJ, 40, .inr (.inl nu0))), (sn1, .inl (cJ, 40, .inr (.inl nv_168))), (sn2, .inl (cJ, 40, .inr (.inl nu2))), (sn3, .inl (cJ, 40, .inr (.inl nu3))), (qf, .inl (cI, 7, .inl f2_169)), (g0, .inr (9, [.ref m_ys, .ref m_yk, .ref m_yo, .ref m_yt, .int b0, .ref m_yfa, .ref m_yfe, .int m_mL, .int m_mS, .int m_mM, .ref m_yro, .ref m_yhe, .ref m_ygr, .int m_mF, .int m_mC, .int m_mY, .ref m_yta, .int (nI (z)), .int (nI (m_mf)), .int (nI (m_mt)), .int m_mv, .int m_mw, .ref m_ywa, .ref m_ybi, .ref m_ysi, .ref m_ynu, .ref m_ymo])), (m_ybi, .inl (cI, 4, .inl m_bi)), (m_ysi, .inl (cI, 4, .inl m_sq)), (m_ynu, .inl (cJ, 160, .inr (.inl nb2_172))), (m_ymo, .inl (cJ, 40, .inr (.inl mv2_173))), (m_yt, .inl (cI, 7, .inl mq2_174))] tl) := hD
      subst hw_r_171
      refine lv_pop hx hb dL_law_1337 rfl ?_
      refine lv_goto (tgt := 1482) hx hb dL_law_1338 (by decide) ?_
      exact kkx _ _ _ nu0 nv_168 nu2 nu3 f2_169 mq2_174 nb2_172 mv2_173 (xt_P hP [0, 1, 2, 3, 4, 5, 6, 7, 8, 9, 10, 11, 16, 12, 13, 14, 15] rfl) (xt_D hD [0, 1, 2, 3, 4, 5, 6, 7, 8, 9, 10, 11, 16, 12, 13, 14, 15] (by decide +kernel) rfl) (fun j hj => (i_176 (0 + j) (by omega)).trans (r_n0 j hj)) (fun j hj => (i_175 j).trans ((sp_cneq r_b3 r_b1 r_n3 (by omega) (r_n1 j hj)).trans (i_170 j).symm)) (fun j hj => (i_176 (80 + j) (by omega)).trans (r_n2 j hj)) (fun j hj => (i_176 (120 + j) (by omega)).trans (r_n3 j hj)) hS hl
    · skip
      refine lv_aload_n hx hb dL_law_1279 rfl (lv_at hl 3 rfl) ?_
      refine lv_iload_n hx hb dL_law_1280 rfl (lv_at hl 0 rfl) ?_
      refine lv_iconst (v := 1) hx hb dL_law_1281 (by decide) ?_
      refine lv_iadd hx hb dL_law_1282 ?_
      refine xl_i (y := nI (i + 1)) (nI_add i 1) ?_
      refine va_sld hx hb hX hbl hbA hS (x_si (k := 1) (by decide) hi hL) dL_law_1283 ?_
      refine xl_i (y := xs (i + 1)) (congrArg xs (x_sc (k := 1) (by decide) hi hL)) ?_
      refine xl_i (y := 3) eq1 ?_
      refine lv_aload_n hx hb dL_law_1284 rfl (lv_at hl 3 rfl) ?_
      refine lv_iload_n hx hb dL_law_1285 rfl (lv_at hl 0 rfl) ?_
      refine lv_iconst (v := 2) hx hb dL_law_1286 (by decide) ?_
      refine lv_iadd hx hb dL_law_1287 ?_
      refine xl_i (y := nI (i + 2)) (nI_add i 2) ?_
      refine va_sld hx hb hX hbl hbA hS (x_si (k := 2) (by decide) hi hL) dL_law_1288 ?_
      refine xl_i (y := xs (i + 2)) (congrArg xs (x_sc (k := 2) (by decide) hi hL)) ?_
      refine lv_aload_n hx hb dL_law_1289 rfl (lv_at hl 3 rfl) ?_
      refine lv_iload_n hx hb dL_law_1290 rfl (lv_at hl 0 rfl) ?_
      refine lv_iconst (v := 3) hx hb dL_law_1291 (by decide) ?_
      refine lv_iadd hx hb dL_law_1292 ?_
      refine xl_i (y := nI (i + 3)) (nI_add i 3) ?_
      refine va_sld hx hb hX hbl hbA hS (x_si (k := 3) (by decide) hi hL) dL_law_1293 ?_
      refine xl_i (y := xs (i + 3)) (congrArg xs (x_sc (k := 3) (by decide) hi hL)) ?_
      refine xl_i (y := 2) eq3 ?_
      refine lv_aload_n hx hb dL_law_1294 rfl (lv_at hl 3 rfl) ?_
      refine lv_iload_n hx hb dL_law_1295 rfl (lv_at hl 0 rfl) ?_
      refine lv_iconst (v := 4) hx hb dL_law_1296 (by decide) ?_
      refine lv_iadd hx hb dL_law_1297 ?_
      refine xl_i (y := nI (i + 4)) (nI_add i 4) ?_
      refine va_sld hx hb hX hbl hbA hS (x_si (k := 4) (by decide) hi hL) dL_law_1298 ?_
      refine xl_i (y := xs (i + 4)) (congrArg xs (x_sc (k := 4) (by decide) hi hL)) ?_
      refine lv_aload_n hx hb dL_law_1299 rfl (lv_at hl 3 rfl) ?_
      refine lv_iload_n hx hb dL_law_1300 rfl (lv_at hl 0 rfl) ?_
      refine lv_iconst (v := 5) hx hb dL_law_1301 (by decide) ?_
      refine lv_iadd hx hb dL_law_1302 ?_
      refine xl_i (y := nI (i + 5)) (nI_add i 5) ?_
      refine va_sld hx hb hX hbl hbA hS (x_si (k := 5) (by decide) hi hL) dL_law_1303 ?_
      refine xl_i (y := xs (i + 5)) (congrArg xs (x_sc (k := 5) (by decide) hi hL)) ?_
      refine xc_ViT (wr := [(g0, .inr (9, [.ref m_ys, .ref m_yk, .ref m_yo, .ref m_yt, .int b0, .ref m_yfa, .ref m_yfe, .int m_mL, .int m_mS, .int m_mM, .ref m_yro, .ref m_yhe, .ref m_ygr, .int m_mF, .int m_mC, .int m_mY, .ref m_yta, .int (nI (z)), .int (nI (m_mf)), .int (nI (m_mt)), .int m_mv, .int m_mw, .ref m_ywa, .ref m_ybi, .ref m_ysi, .ref m_ynu, .ref m_ymo])), (m_yt, .inl (cI, 7, .inl m_mq)), (m_ybi, .inl (cI, 4, .inl m_bi)), (m_ysi, .inl (cI, 4, .inl m_sq)), (m_ynu, .inl (cJ, 160, .inr (.inl m_nb))), (m_ymo, .inl (cJ, 40, .inr (.inl m_mv9)))]) hF (c_X8_copy_32 l D cI cJ cZ cS ta sa sv H.size h0 qh qk qd b0 qa qm qs qp ql qt qz qf s0 s1 s2 s3 bt0 sz0 sn0 bt1 sz1 sn1 bt2 sz2 sn2 bt3 sz3 sn3 nu0 nu1 nu2 nu3 ff (xs (i + 2)) (xs (i + 4)) (xs (i + 5)) hsz0 hsz1 hsz2 hsz3) kv_L_166 ⟨rfl, rfl, Nat.le_of_ble_eq_true rfl, Nat.le_of_ble_eq_true rfl⟩ ⟨Nat.le_of_ble_eq_true rfl, Nat.le_of_ble_eq_true rfl⟩ hK hN hZ hP hD hS hA [0, 1, 2, 3, 4, 5, 6, 7, 8, 9, 10] [11, 12, 13, 14, 15, 16] rfl rfl (by decide +kernel) (by decide +kernel) (by decide +kernel) 0 rfl rfl rfl rfl hl.1 rfl (Nat.le_of_ble_eq_true rfl) dL_law_1304 (fun r_177 u_r_177 H locs hw_r_177 hP hD hS => ?_)
      obtain ⟨nv_178, f2_179⟩ := u_r_177
      try dsimp only at hw_r_177
      obtain ⟨hw_r_177, i_180⟩ := hw_r_177
      have hP : va_P D vwCl (@HAppend.hAppend va_W va_W va_W _ [(g0, .inr (9, [.ref m_ys, .ref m_yk, .ref m_yo, .ref m_yt, .int b0, .ref m_yfa, .ref m_yfe, .int m_mL, .int m_mS, .int m_mM, .ref m_yro, .ref m_yhe, .ref m_ygr, .int m_mF, .int m_mC, .int m_mY, .ref m_yta, .int (nI (z)), .int (nI (m_mf)), .int (nI (m_mt)), .int m_mv, .int m_mw, .ref m_ywa, .ref m_ybi, .ref m_ysi, .ref m_ynu, .ref m_ymo])), (m_yt, .inl (cI, 7, .inl m_mq)), (m_ybi, .inl (cI, 4, .inl m_bi)), (m_ysi, .inl (cI, 4, .inl m_sq)), (m_ynu, .inl (cJ, 160, .inr (.inl m_nb))), (m_ymo, .inl (cJ, 40, .inr (.inl m_mv9))), (h0, .inr (8, [.ref qh, .ref qk, .ref qd, .int b0, .ref qa, .ref qm, .ref qs, .ref qp, .ref ql, .ref qt, .ref qz, .ref qf])), (qz, .inl (cS, 4, .inr (.inr (.inr (.inr (xSh s0 s1 s2 s3)))))), (s0, .inr (4, [.int bt0, .int (nI (sz0)), .ref sn0])), (s1, .inr (4, [.int bt1, .int (nI (sz1)), .ref sn1])), (s2, .inr (4, [.int bt2, .int (nI (sz2)), .ref sn2])), (s3, .inr (4, [.int bt3, .int (nI (sz3)), .ref sn3])), (sn0, .inl (cJ, 40, .inr (.inl nu0))), (sn1, .inl (cJ, 40, .inr (.inl nu1))), (sn2, .inl (cJ, 40, .inr (.inl nv_178))), (sn3, .inl (cJ, 40, .inr (.inl nu3))), (qf, .inl (cI, 7, .inl f2_179))] tl) H := hP
      have hD : va_D A (@HAppend.hAppend va_W va_W va_W _ [(g0, .inr (9, [.ref m_ys, .ref m_yk, .ref m_yo, .ref m_yt, .int b0, .ref m_yfa, .ref m_yfe, .int m_mL, .int m_mS, .int m_mM, .ref m_yro, .ref m_yhe, .ref m_ygr, .int m_mF, .int m_mC, .int m_mY, .ref m_yta, .int (nI (z)), .int (nI (m_mf)), .int (nI (m_mt)), .int m_mv, .int m_mw, .ref m_ywa, .ref m_ybi, .ref m_ysi, .ref m_ynu, .ref m_ymo])), (m_yt, .inl (cI, 7, .inl m_mq)), (m_ybi, .inl (cI, 4, .inl m_bi)), (m_ysi, .inl (cI, 4, .inl m_sq)), (m_ynu, .inl (cJ, 160, .inr (.inl m_nb))), (m_ymo, .inl (cJ, 40, .inr (.inl m_mv9))), (h0, .inr (8, [.ref qh, .ref qk, .ref qd, .int b0, .ref qa, .ref qm, .ref qs, .ref qp, .ref ql, .ref qt, .ref qz, .ref qf])), (qz, .inl (cS, 4, .inr (.inr (.inr (.inr (xSh s0 s1 s2 s3)))))), (s0, .inr (4, [.int bt0, .int (nI (sz0)), .ref sn0])), (s1, .inr (4, [.int bt1, .int (nI (sz1)), .ref sn1])), (s2, .inr (4, [.int bt2, .int (nI (sz2)), .ref sn2])), (s3, .inr (4, [.int bt3, .int (nI (sz3)), .ref sn3])), (sn0, .inl (cJ, 40, .inr (.inl nu0))), (sn1, .inl (cJ, 40, .inr (.inl nu1))), (sn2, .inl (cJ, 40, .inr (.inl nv_178))), (sn3, .inl (cJ, 40, .inr (.inl nu3))), (qf, .inl (cI, 7, .inl f2_179))] tl) := hD
      subst hw_r_177
      refine lv_pop hx hb dL_law_1307 rfl ?_
      refine lv_aload_n hx hb dL_law_1308 rfl (lv_at hl 1 rfl) ?_
      refine lv_aload_n hx hb dL_law_1309 rfl (lv_at hl 3 rfl) ?_
      refine lv_iload_n hx hb dL_law_1310 rfl (lv_at hl 0 rfl) ?_
      refine lv_iconst (v := 1) hx hb dL_law_1311 (by decide) ?_
      refine lv_iadd hx hb dL_law_1312 ?_
      refine xl_i (y := nI (i + 1)) (nI_add i 1) ?_
      refine va_sld hx hb hX hbl hbA hS (x_si (k := 1) (by decide) hi hL) dL_law_1313 ?_
      refine xl_i (y := xs (i + 1)) (congrArg xs (x_sc (k := 1) (by decide) hi hL)) ?_
      refine xl_i (y := 3) eq1 ?_
      refine lv_aload_n hx hb dL_law_1314 rfl (lv_at hl 3 rfl) ?_
      refine lv_iload_n hx hb dL_law_1315 rfl (lv_at hl 0 rfl) ?_
      refine lv_iconst (v := 2) hx hb dL_law_1316 (by decide) ?_
      refine lv_iadd hx hb dL_law_1317 ?_
      refine xl_i (y := nI (i + 2)) (nI_add i 2) ?_
      refine va_sld hx hb hX hbl hbA hS (x_si (k := 2) (by decide) hi hL) dL_law_1318 ?_
      refine xl_i (y := xs (i + 2)) (congrArg xs (x_sc (k := 2) (by decide) hi hL)) ?_
      refine lv_aload_n hx hb dL_law_1319 rfl (lv_at hl 3 rfl) ?_
      refine lv_iload_n hx hb dL_law_1320 rfl (lv_at hl 0 rfl) ?_
      refine lv_iconst (v := 3) hx hb dL_law_1321 (by decide) ?_
      refine lv_iadd hx hb dL_law_1322 ?_
      refine xl_i (y := nI (i + 3)) (nI_add i 3) ?_
      refine va_sld hx hb hX hbl hbA hS (x_si (k := 3) (by decide) hi hL) dL_law_1323 ?_
      refine xl_i (y := xs (i + 3)) (congrArg xs (x_sc (k := 3) (by decide) hi hL)) ?_
      refine xl_i (y := 2) eq3 ?_
      refine lv_aload_n hx hb dL_law_1324 rfl (lv_at hl 3 rfl) ?_
      refine lv_iload_n hx hb dL_law_1325 rfl (lv_at hl 0 rfl) ?_
      refine lv_iconst (v := 4) hx hb dL_law_1326 (by decide) ?_
      refine lv_iadd hx hb dL_law_1327 ?_
      refine xl_i (y := nI (i + 4)) (nI_add i 4) ?_
      refine va_sld hx hb hX hbl hbA hS (x_si (k := 4) (by decide) hi hL) dL_law_1328 ?_
      refine xl_i (y := xs (i + 4)) (congrArg xs (x_sc (k := 4) (by decide) hi hL)) ?_
      refine lv_aload_n hx hb dL_law_1329 rfl (lv_at hl 3 rfl) ?_
      refine lv_iload_n hx hb dL_law_1330 rfl (lv_at hl 0 rfl) ?_
      refine lv_iconst (v := 5) hx hb dL_law_1331 (by decide) ?_
      refine lv_iadd hx hb dL_law_1332 ?_
      refine xl_i (y := nI (i + 5)) (nI_add i 5) ?_
      refine va_sld hx hb hX hbl hbA hS (x_si (k := 5) (by decide) hi hL) dL_law_1333 ?_
      refine xl_i (y := xs (i + 5)) (congrArg xs (x_sc (k := 5) (by decide) hi hL)) ?_
      refine xc_ViT (wr := [(h0, .inr (8, [.ref qh, .ref qk, .ref qd, .int b0, .ref qa, .ref qm, .ref qs, .ref qp, .ref ql, .ref qt, .ref qz, .ref qf])), (qz, .inl (cS, 4, .inr (.inr (.inr (.inr (xSh s0 s1 s2 s3)))))), (s0, .inr (4, [.int bt0, .int (nI (sz0)), .ref sn0])), (s1, .inr (4, [.int bt1, .int (nI (sz1)), .ref sn1])), (s2, .inr (4, [.int bt2, .int (nI (sz2)), .ref sn2])), (s3, .inr (4, [.int bt3, .int (nI (sz3)), .ref sn3])), (sn0, .inl (cJ, 40, .inr (.inl nu0))), (sn1, .inl (cJ, 40, .inr (.inl nu1))), (sn2, .inl (cJ, 40, .inr (.inl nv_178))), (sn3, .inl (cJ, 40, .inr (.inl nu3))), (qf, .inl (cI, 7, .inl f2_179))]) hF (c_X9_copy_32 l D cI cJ cZ cS ta sa sv H.size g0 m_ys m_yk m_yo m_yt b0 m_yfa m_yfe m_mL m_mS m_mM m_yro m_yhe m_ygr m_mF m_mC m_mY m_yta z m_mf m_mt m_mv m_mw m_ywa m_ybi m_ysi m_ynu m_ymo m_bi m_sq m_nb m_mv9 m_mq (xs (i + 2)) (xs (i + 4)) (xs (i + 5)) sz3 sz2 r_z3 hsz3 r_z2 hsz2 m_hsq) kv_L_170 ⟨rfl, rfl, Nat.le_of_ble_eq_true rfl, Nat.le_of_ble_eq_true rfl⟩ ⟨Nat.le_of_ble_eq_true rfl, Nat.le_of_ble_eq_true rfl⟩ hK hN hZ hP hD hS hA [0, 2, 3, 4, 5, 1] [6, 7, 8, 9, 10, 11, 12, 13, 14, 15, 16] rfl rfl (by decide +kernel) (by decide +kernel) (by decide +kernel) 0 rfl rfl rfl rfl hl.1 rfl (Nat.le_of_ble_eq_true rfl) dL_law_1334 (fun r_181 u_r_181 H locs hw_r_181 hP hD hS => ?_)
      obtain ⟨nb2_182, mv2_183, mq2_184⟩ := u_r_181
      try dsimp only at hw_r_181
      obtain ⟨hw_r_181, i_185, i_186⟩ := hw_r_181
      have hP : va_P D vwCl (@HAppend.hAppend va_W va_W va_W _ [(h0, .inr (8, [.ref qh, .ref qk, .ref qd, .int b0, .ref qa, .ref qm, .ref qs, .ref qp, .ref ql, .ref qt, .ref qz, .ref qf])), (qz, .inl (cS, 4, .inr (.inr (.inr (.inr (xSh s0 s1 s2 s3)))))), (s0, .inr (4, [.int bt0, .int (nI (sz0)), .ref sn0])), (s1, .inr (4, [.int bt1, .int (nI (sz1)), .ref sn1])), (s2, .inr (4, [.int bt2, .int (nI (sz2)), .ref sn2])), (s3, .inr (4, [.int bt3, .int (nI (sz3)), .ref sn3])), (sn0, .inl (cJ, 40, .inr (.inl nu0))), (sn1, .inl (cJ, 40, .inr (.inl nu1))), (sn2, .inl (cJ, 40, .inr (.inl nv_178))), (sn3, .inl (cJ, 40, .inr (.inl nu3))), (qf, .inl (cI, 7, .inl f2_179)), (g0, .inr (9, [.ref m_ys, .ref m_yk, .ref m_yo, .ref m_yt, .int b0, .ref m_yfa, .ref m_yfe, .int m_mL, .int m_mS, .int m_mM, .ref m_yro, .ref m_yhe, .ref m_ygr, .int m_mF, .int m_mC, .int m_mY, .ref m_yta, .int (nI (z)), .int (nI (m_mf)), .int (nI (m_mt)), .int m_mv, .int m_mw, .ref m_ywa, .ref m_ybi, .ref m_ysi, .ref m_ynu, .ref m_ymo])), (m_ybi, .inl (cI, 4, .inl m_bi)), (m_ysi, .inl (cI, 4, .inl m_sq)), (m_ynu, .inl (cJ, 160, .inr (.inl nb2_182))), (m_ymo, .inl (cJ, 40, .inr (.inl mv2_183))), (m_yt, .inl (cI, 7, .inl mq2_184))] tl) H := hP
      have hD : va_D A (@HAppend.hAppend va_W va_W va_W _ [(h0, .inr (8, [.ref qh, .ref qk, .ref qd, .int b0, .ref qa, .ref qm, .ref qs, .ref qp, .ref ql, .ref qt, .ref qz, .ref qf])), (qz, .inl (cS, 4, .inr (.inr (.inr (.inr (xSh s0 s1 s2 s3)))))), (s0, .inr (4, [.int bt0, .int (nI (sz0)), .ref sn0])), (s1, .inr (4, [.int bt1, .int (nI (sz1)), .ref sn1])), (s2, .inr (4, [.int bt2, .int (nI (sz2)), .ref sn2])), (s3, .inr (4, [.int bt3, .int (nI (sz3)), .ref sn3])), (sn0, .inl (cJ, 40, .inr (.inl nu0))), (sn1, .inl (cJ, 40, .inr (.inl nu1))), (sn2, .inl (cJ, 40, .inr (.inl nv_178))), (sn3, .inl (cJ, 40, .inr (.inl nu3))), (qf, .inl (cI, 7, .inl f2_179)), (g0, .inr (9, [.ref m_ys, .ref m_yk, .ref m_yo, .ref m_yt, .int b0, .ref m_yfa, .ref m_yfe, .int m_mL, .int m_mS, .int m_mM, .ref m_yro, .ref m_yhe, .ref m_ygr, .int m_mF, .int m_mC, .int m_mY, .ref m_yta, .int (nI (z)), .int (nI (m_mf)), .int (nI (m_mt)), .int m_mv, .int m_mw, .ref m_ywa, .ref m_ybi, .ref m_ysi, .ref m_ynu, .ref m_ymo])), (m_ybi, .inl (cI, 4, .inl m_bi)), (m_ysi, .inl (cI, 4, .inl m_sq)), (m_ynu, .inl (cJ, 160, .inr (.inl nb2_182))), (m_ymo, .inl (cJ, 40, .inr (.inl mv2_183))), (m_yt, .inl (cI, 7, .inl mq2_184))] tl) := hD
      subst hw_r_181
      refine lv_pop hx hb dL_law_1337 rfl ?_
      refine lv_goto (tgt := 1482) hx hb dL_law_1338 (by decide) ?_
      exact kkx _ _ _ nu0 nu1 nv_178 nu3 f2_179 mq2_184 nb2_182 mv2_183 (xt_P hP [0, 1, 2, 3, 4, 5, 6, 7, 8, 9, 10, 11, 16, 12, 13, 14, 15] rfl) (xt_D hD [0, 1, 2, 3, 4, 5, 6, 7, 8, 9, 10, 11, 16, 12, 13, 14, 15] (by decide +kernel) rfl) (fun j hj => (i_186 (0 + j) (by omega)).trans (r_n0 j hj)) (fun j hj => (i_186 (40 + j) (by omega)).trans (r_n1 j hj)) (fun j hj => (i_185 j).trans ((sp_cneq r_b3 r_b2 r_n3 (by omega) (r_n2 j hj)).trans (i_180 j).symm)) (fun j hj => (i_186 (120 + j) (by omega)).trans (r_n3 j hj)) hS hl
    · skip
      refine lv_aload_n hx hb dL_law_1279 rfl (lv_at hl 3 rfl) ?_
      refine lv_iload_n hx hb dL_law_1280 rfl (lv_at hl 0 rfl) ?_
      refine lv_iconst (v := 1) hx hb dL_law_1281 (by decide) ?_
      refine lv_iadd hx hb dL_law_1282 ?_
      refine xl_i (y := nI (i + 1)) (nI_add i 1) ?_
      refine va_sld hx hb hX hbl hbA hS (x_si (k := 1) (by decide) hi hL) dL_law_1283 ?_
      refine xl_i (y := xs (i + 1)) (congrArg xs (x_sc (k := 1) (by decide) hi hL)) ?_
      refine xl_i (y := 3) eq1 ?_
      refine lv_aload_n hx hb dL_law_1284 rfl (lv_at hl 3 rfl) ?_
      refine lv_iload_n hx hb dL_law_1285 rfl (lv_at hl 0 rfl) ?_
      refine lv_iconst (v := 2) hx hb dL_law_1286 (by decide) ?_
      refine lv_iadd hx hb dL_law_1287 ?_
      refine xl_i (y := nI (i + 2)) (nI_add i 2) ?_
      refine va_sld hx hb hX hbl hbA hS (x_si (k := 2) (by decide) hi hL) dL_law_1288 ?_
      refine xl_i (y := xs (i + 2)) (congrArg xs (x_sc (k := 2) (by decide) hi hL)) ?_
      refine lv_aload_n hx hb dL_law_1289 rfl (lv_at hl 3 rfl) ?_
      refine lv_iload_n hx hb dL_law_1290 rfl (lv_at hl 0 rfl) ?_
      refine lv_iconst (v := 3) hx hb dL_law_1291 (by decide) ?_
      refine lv_iadd hx hb dL_law_1292 ?_
      refine xl_i (y := nI (i + 3)) (nI_add i 3) ?_
      refine va_sld hx hb hX hbl hbA hS (x_si (k := 3) (by decide) hi hL) dL_law_1293 ?_
      refine xl_i (y := xs (i + 3)) (congrArg xs (x_sc (k := 3) (by decide) hi hL)) ?_
      refine xl_i (y := 3) eq3 ?_
      refine lv_aload_n hx hb dL_law_1294 rfl (lv_at hl 3 rfl) ?_
      refine lv_iload_n hx hb dL_law_1295 rfl (lv_at hl 0 rfl) ?_
      refine lv_iconst (v := 4) hx hb dL_law_1296 (by decide) ?_
      refine lv_iadd hx hb dL_law_1297 ?_
      refine xl_i (y := nI (i + 4)) (nI_add i 4) ?_
      refine va_sld hx hb hX hbl hbA hS (x_si (k := 4) (by decide) hi hL) dL_law_1298 ?_
      refine xl_i (y := xs (i + 4)) (congrArg xs (x_sc (k := 4) (by decide) hi hL)) ?_
      refine lv_aload_n hx hb dL_law_1299 rfl (lv_at hl 3 rfl) ?_
      refine lv_iload_n hx hb dL_law_1300 rfl (lv_at hl 0 rfl) ?_
      refine lv_iconst (v := 5) hx hb dL_law_1301 (by decide) ?_
      refine lv_iadd hx hb dL_law_1302 ?_
      refine xl_i (y := nI (i + 5)) (nI_add i 5) ?_
      refine va_sld hx hb hX hbl hbA hS (x_si (k := 5) (by decide) hi hL) dL_law_1303 ?_
      refine xl_i (y := xs (i + 5)) (congrArg xs (x_sc (k := 5) (by decide) hi hL)) ?_
      refine xc_ViT (wr := [(g0, .inr (9, [.ref m_ys, .ref m_yk, .ref m_yo, .ref m_yt, .int b0, .ref m_yfa, .ref m_yfe, .int m_mL, .int m_mS, .int m_mM, .ref m_yro, .ref m_yhe, .ref m_ygr, .int m_mF, .int m_mC, .int m_mY, .ref m_yta, .int (nI (z)), .int (nI (m_mf)), .int (nI (m_mt)), .int m_mv, .int m_mw, .ref m_ywa, .ref m_ybi, .ref m_ysi, .ref m_ynu, .ref m_ymo])), (m_yt, .inl (cI, 7, .inl m_mq)), (m_ybi, .inl (cI, 4, .inl m_bi)), (m_ysi, .inl (cI, 4, .inl m_sq)), (m_ynu, .inl (cJ, 160, .inr (.inl m_nb))), (m_ymo, .inl (cJ, 40, .inr (.inl m_mv9)))]) hF (c_X8_copy_33 l D cI cJ cZ cS ta sa sv H.size h0 qh qk qd b0 qa qm qs qp ql qt qz qf s0 s1 s2 s3 bt0 sz0 sn0 bt1 sz1 sn1 bt2 sz2 sn2 bt3 sz3 sn3 nu0 nu1 nu2 nu3 ff (xs (i + 2)) (xs (i + 4)) (xs (i + 5)) hsz0 hsz1 hsz2 hsz3) kv_L_166 ⟨rfl, rfl, Nat.le_of_ble_eq_true rfl, Nat.le_of_ble_eq_true rfl⟩ ⟨Nat.le_of_ble_eq_true rfl, Nat.le_of_ble_eq_true rfl⟩ hK hN hZ hP hD hS hA [0, 1, 2, 3, 4, 5, 6, 7, 8, 9, 10] [11, 12, 13, 14, 15, 16] rfl rfl (by decide +kernel) (by decide +kernel) (by decide +kernel) 0 rfl rfl rfl rfl hl.1 rfl (Nat.le_of_ble_eq_true rfl) dL_law_1304 (fun r_187 u_r_187 H locs hw_r_187 hP hD hS => ?_)
      obtain ⟨nv_188, f2_189⟩ := u_r_187
      try dsimp only at hw_r_187
      obtain ⟨hw_r_187, i_190⟩ := hw_r_187
      have hP : va_P D vwCl (@HAppend.hAppend va_W va_W va_W _ [(g0, .inr (9, [.ref m_ys, .ref m_yk, .ref m_yo, .ref m_yt, .int b0, .ref m_yfa, .ref m_yfe, .int m_mL, .int m_mS, .int m_mM, .ref m_yro, .ref m_yhe, .ref m_ygr, .int m_mF, .int m_mC, .int m_mY, .ref m_yta, .int (nI (z)), .int (nI (m_mf)), .int (nI (m_mt)), .int m_mv, .int m_mw, .ref m_ywa, .ref m_ybi, .ref m_ysi, .ref m_ynu, .ref m_ymo])), (m_yt, .inl (cI, 7, .inl m_mq)), (m_ybi, .inl (cI, 4, .inl m_bi)), (m_ysi, .inl (cI, 4, .inl m_sq)), (m_ynu, .inl (cJ, 160, .inr (.inl m_nb))), (m_ymo, .inl (cJ, 40, .inr (.inl m_mv9))), (h0, .inr (8, [.ref qh, .ref qk, .ref qd, .int b0, .ref qa, .ref qm, .ref qs, .ref qp, .ref ql, .ref qt, .ref qz, .ref qf])), (qz, .inl (cS, 4, .inr (.inr (.inr (.inr (xSh s0 s1 s2 s3)))))), (s0, .inr (4, [.int bt0, .int (nI (sz0)), .ref sn0])), (s1, .inr (4, [.int bt1, .int (nI (sz1)), .ref sn1])), (s2, .inr (4, [.int bt2, .int (nI (sz2)), .ref sn2])), (s3, .inr (4, [.int bt3, .int (nI (sz3)), .ref sn3])), (sn0, .inl (cJ, 40, .inr (.inl nu0))), (sn1, .inl (cJ, 40, .inr (.inl nu1))), (sn2, .inl (cJ, 40, .inr (.inl nu2))), (sn3, .inl (cJ, 40, .inr (.inl nv_188))), (qf, .inl (cI, 7, .inl f2_189))] tl) H := hP
      have hD : va_D A (@HAppend.hAppend va_W va_W va_W _ [(g0, .inr (9, [.ref m_ys, .ref m_yk, .ref m_yo, .ref m_yt, .int b0, .ref m_yfa, .ref m_yfe, .int m_mL, .int m_mS, .int m_mM, .ref m_yro, .ref m_yhe, .ref m_ygr, .int m_mF, .int m_mC, .int m_mY, .ref m_yta, .int (nI (z)), .int (nI (m_mf)), .int (nI (m_mt)), .int m_mv, .int m_mw, .ref m_ywa, .ref m_ybi, .ref m_ysi, .ref m_ynu, .ref m_ymo])), (m_yt, .inl (cI, 7, .inl m_mq)), (m_ybi, .inl (cI, 4, .inl m_bi)), (m_ysi, .inl (cI, 4, .inl m_sq)), (m_ynu, .inl (cJ, 160, .inr (.inl m_nb))), (m_ymo, .inl (cJ, 40, .inr (.inl m_mv9))), (h0, .inr (8, [.ref qh, .ref qk, .ref qd, .int b0, .ref qa, .ref qm, .ref qs, .ref qp, .ref ql, .ref qt, .ref qz, .ref qf])), (qz, .inl (cS, 4, .inr (.inr (.inr (.inr (xSh s0 s1 s2 s3)))))), (s0, .inr (4, [.int bt0, .int (nI (sz0)), .ref sn0])), (s1, .inr (4, [.int bt1, .int (nI (sz1)), .ref sn1])), (s2, .inr (4, [.int bt2, .int (nI (sz2)), .ref sn2])), (s3, .inr (4, [.int bt3, .int (nI (sz3)), .ref sn3])), (sn0, .inl (cJ, 40, .inr (.inl nu0))), (sn1, .inl (cJ, 40, .inr (.inl nu1))), (sn2, .inl (cJ, 40, .inr (.inl nu2))), (sn3, .inl (cJ, 40, .inr (.inl nv_188))), (qf, .inl (cI, 7, .inl f2_189))] tl) := hD
      subst hw_r_187
      refine lv_pop hx hb dL_law_1307 rfl ?_
      refine lv_aload_n hx hb dL_law_1308 rfl (lv_at hl 1 rfl) ?_
      refine lv_aload_n hx hb dL_law_1309 rfl (lv_at hl 3 rfl) ?_
      refine lv_iload_n hx hb dL_law_1310 rfl (lv_at hl 0 rfl) ?_
      refine lv_iconst (v := 1) hx hb dL_law_1311 (by decide) ?_
      refine lv_iadd hx hb dL_law_1312 ?_
      refine xl_i (y := nI (i + 1)) (nI_add i 1) ?_
      refine va_sld hx hb hX hbl hbA hS (x_si (k := 1) (by decide) hi hL) dL_law_1313 ?_
      refine xl_i (y := xs (i + 1)) (congrArg xs (x_sc (k := 1) (by decide) hi hL)) ?_
      refine xl_i (y := 3) eq1 ?_
      refine lv_aload_n hx hb dL_law_1314 rfl (lv_at hl 3 rfl) ?_
      refine lv_iload_n hx hb dL_law_1315 rfl (lv_at hl 0 rfl) ?_
      refine lv_iconst (v := 2) hx hb dL_law_1316 (by decide) ?_
      refine lv_iadd hx hb dL_law_1317 ?_
      refine xl_i (y := nI (i + 2)) (nI_add i 2) ?_
      refine va_sld hx hb hX hbl hbA hS (x_si (k := 2) (by decide) hi hL) dL_law_1318 ?_
      refine xl_i (y := xs (i + 2)) (congrArg xs (x_sc (k := 2) (by decide) hi hL)) ?_
      refine lv_aload_n hx hb dL_law_1319 rfl (lv_at hl 3 rfl) ?_
      refine lv_iload_n hx hb dL_law_1320 rfl (lv_at hl 0 rfl) ?_
      refine lv_iconst (v := 3) hx hb dL_law_1321 (by decide) ?_
      refine lv_iadd hx hb dL_law_1322 ?_
      refine xl_i (y := nI (i + 3)) (nI_add i 3) ?_
      refine va_sld hx hb hX hbl hbA hS (x_si (k := 3) (by decide) hi hL) dL_law_1323 ?_
      refine xl_i (y := xs (i + 3)) (congrArg xs (x_sc (k := 3) (by decide) hi hL)) ?_
      refine xl_i (y := 3) eq3 ?_
      refine lv_aload_n hx hb dL_law_1324 rfl (lv_at hl 3 rfl) ?_
      refine lv_iload_n hx hb dL_law_1325 rfl (lv_at hl 0 rfl) ?_
      refine lv_iconst (v := 4) hx hb dL_law_1326 (by decide) ?_
      refine lv_iadd hx hb dL_law_1327 ?_
      refine xl_i (y := nI (i + 4)) (nI_add i 4) ?_
      refine va_sld hx hb hX hbl hbA hS (x_si (k := 4) (by decide) hi hL) dL_law_1328 ?_
      refine xl_i (y := xs (i + 4)) (congrArg xs (x_sc (k := 4) (by decide) hi hL)) ?_
      refine lv_aload_n hx hb dL_law_1329 rfl (lv_at hl 3 rfl) ?_
      refine lv_iload_n hx hb dL_law_1330 rfl (lv_at hl 0 rfl) ?_
      refine lv_iconst (v := 5) hx hb dL_law_1331 (by decide) ?_
      refine lv_iadd hx hb dL_law_1332 ?_
      refine xl_i (y := nI (i + 5)) (nI_add i 5) ?_
      refine va_sld hx hb hX hbl hbA hS (x_si (k := 5) (by decide) hi hL) dL_law_1333 ?_
      refine xl_i (y := xs (i + 5)) (congrArg xs (x_sc (k := 5) (by decide) hi hL)) ?_
      refine xc_ViT (wr := [(h0, .inr (8, [.ref qh, .ref qk, .ref qd, .int b0, .ref qa, .ref qm, .ref qs, .ref qp, .ref ql, .ref qt, .ref qz, .ref qf])), (qz, .inl (cS, 4, .inr (.inr (.inr (.inr (xSh s0 s1 s2 s3)))))), (s0, .inr (4, [.int bt0, .int (nI (sz0)), .ref sn0])), (s1, .inr (4, [.int bt1, .int (nI (sz1)), .ref sn1])), (s2, .inr (4, [.int bt2, .int (nI (sz2)), .ref sn2])), (s3, .inr (4, [.int bt3, .int (nI (sz3)), .ref sn3])), (sn0, .inl (cJ, 40, .inr (.inl nu0))), (sn1, .inl (cJ, 40, .inr (.inl nu1))), (sn2, .inl (cJ, 40, .inr (.inl nu2))), (sn3, .inl (cJ, 40, .inr (.inl nv_188))), (qf, .inl (cI, 7, .inl f2_189))]) hF (c_X9_copy_33 l D cI cJ cZ cS ta sa sv H.size g0 m_ys m_yk m_yo m_yt b0 m_yfa m_yfe m_mL m_mS m_mM m_yro m_yhe m_ygr m_mF m_mC m_mY m_yta z m_mf m_mt m_mv m_mw m_ywa m_ybi m_ysi m_ynu m_ymo m_bi m_sq m_nb m_mv9 m_mq (xs (i + 2)) (xs (i + 4)) (xs (i + 5)) sz3 sz3 r_z3 hsz3 r_z3 hsz3 m_hsq) kv_L_170 ⟨rfl, rfl, Nat.le_of_ble_eq_true rfl, Nat.le_of_ble_eq_true rfl⟩ ⟨Nat.le_of_ble_eq_true rfl, Nat.le_of_ble_eq_true rfl⟩ hK hN hZ hP hD hS hA [0, 2, 3, 4, 5, 1] [6, 7, 8, 9, 10, 11, 12, 13, 14, 15, 16] rfl rfl (by decide +kernel) (by decide +kernel) (by decide +kernel) 0 rfl rfl rfl rfl hl.1 rfl (Nat.le_of_ble_eq_true rfl) dL_law_1334 (fun r_191 u_r_191 H locs hw_r_191 hP hD hS => ?_)
      obtain ⟨nb2_192, mv2_193, mq2_194⟩ := u_r_191
      try dsimp only at hw_r_191
      obtain ⟨hw_r_191, i_195, i_196⟩ := hw_r_191
      have hP : va_P D vwCl (@HAppend.hAppend va_W va_W va_W _ [(h0, .inr (8, [.ref qh, .ref qk, .ref qd, .int b0, .ref qa, .ref qm, .ref qs, .ref qp, .ref ql, .ref qt, .ref qz, .ref qf])), (qz, .inl (cS, 4, .inr (.inr (.inr (.inr (xSh s0 s1 s2 s3)))))), (s0, .inr (4, [.int bt0, .int (nI (sz0)), .ref sn0])), (s1, .inr (4, [.int bt1, .int (nI (sz1)), .ref sn1])), (s2, .inr (4, [.int bt2, .int (nI (sz2)), .ref sn2])), (s3, .inr (4, [.int bt3, .int (nI (sz3)), .ref sn3])), (sn0, .inl (cJ, 40, .inr (.inl nu0))), (sn1, .inl (cJ, 40, .inr (.inl nu1))), (sn2, .inl (cJ, 40, .inr (.inl nu2))), (sn3, .inl (cJ, 40, .inr (.inl nv_188))), (qf, .inl (cI, 7, .inl f2_189)), (g0, .inr (9, [.ref m_ys, .ref m_yk, .ref m_yo, .ref m_yt, .int b0, .ref m_yfa, .ref m_yfe, .int m_mL, .int m_mS, .int m_mM, .ref m_yro, .ref m_yhe, .ref m_ygr, .int m_mF, .int m_mC, .int m_mY, .ref m_yta, .int (nI (z)), .int (nI (m_mf)), .int (nI (m_mt)), .int m_mv, .int m_mw, .ref m_ywa, .ref m_ybi, .ref m_ysi, .ref m_ynu, .ref m_ymo])), (m_ybi, .inl (cI, 4, .inl m_bi)), (m_ysi, .inl (cI, 4, .inl m_sq)), (m_ynu, .inl (cJ, 160, .inr (.inl nb2_192))), (m_ymo, .inl (cJ, 40, .inr (.inl mv2_193))), (m_yt, .inl (cI, 7, .inl mq2_194))] tl) H := hP
      have hD : va_D A (@HAppend.hAppend va_W va_W va_W _ [(h0, .inr (8, [.ref qh, .ref qk, .ref qd, .int b0, .ref qa, .ref qm, .ref qs, .ref qp, .ref ql, .ref qt, .ref qz, .ref qf])), (qz, .inl (cS, 4, .inr (.inr (.inr (.inr (xSh s0 s1 s2 s3)))))), (s0, .inr (4, [.int bt0, .int (nI (sz0)), .ref sn0])), (s1, .inr (4, [.int bt1, .int (nI (sz1)), .ref sn1])), (s2, .inr (4, [.int bt2, .int (nI (sz2)), .ref sn2])), (s3, .inr (4, [.int bt3, .int (nI (sz3)), .ref sn3])), (sn0, .inl (cJ, 40, .inr (.inl nu0))), (sn1, .inl (cJ, 40, .inr (.inl nu1))), (sn2, .inl (cJ, 40, .inr (.inl nu2))), (sn3, .inl (cJ, 40, .inr (.inl nv_188))), (qf, .inl (cI, 7, .inl f2_189)), (g0, .inr (9, [.ref m_ys, .ref m_yk, .ref m_yo, .ref m_yt, .int b0, .ref m_yfa, .ref m_yfe, .int m_mL, .int m_mS, .int m_mM, .ref m_yro, .ref m_yhe, .ref m_ygr, .int m_mF, .int m_mC, .int m_mY, .ref m_yta, .int (nI (z)), .int (nI (m_mf)), .int (nI (m_mt)), .int m_mv, .int m_mw, .ref m_ywa, .ref m_ybi, .ref m_ysi, .ref m_ynu, .ref m_ymo])), (m_ybi, .inl (cI, 4, .inl m_bi)), (m_ysi, .inl (cI, 4, .inl m_sq)), (m_ynu, .inl (cJ, 160, .inr (.inl nb2_192))), (m_ymo, .inl (cJ, 40, .inr (.inl mv2_193))), (m_yt, .inl (cI, 7, .inl mq2_194))] tl) := hD
      subst hw_r_191
      refine lv_pop hx hb dL_law_1337 rfl ?_
      refine lv_goto (tgt := 1482) hx hb dL_law_1338 (by decide) ?_
      exact kkx _ _ _ nu0 nu1 nu2 nv_188 f2_189 mq2_194 nb2_192 mv2_193 (xt_P hP [0, 1, 2, 3, 4, 5, 6, 7, 8, 9, 10, 11, 16, 12, 13, 14, 15] rfl) (xt_D hD [0, 1, 2, 3, 4, 5, 6, 7, 8, 9, 10, 11, 16, 12, 13, 14, 15] (by decide +kernel) rfl) (fun j hj => (i_196 (0 + j) (by omega)).trans (r_n0 j hj)) (fun j hj => (i_196 (40 + j) (by omega)).trans (r_n1 j hj)) (fun j hj => (i_196 (80 + j) (by omega)).trans (r_n2 j hj)) (fun j hj => (i_195 j).trans ((sp_cneq r_b3 r_b3 r_n3 (by omega) (r_n3 j hj)).trans (i_190 j).symm)) hS hl
