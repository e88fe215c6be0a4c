set_option maxHeartbeats 4000000 in
set_option maxRecDepth 100000 in
theorem law_35 {p : Program} {e : Env} {s : State} {m : MethodId} {below : List Frame} {meth : Method} {c : Code} (l : Launch) (D : va_G) (cI cJ cZ cS : ClassId) (ta : Nat) (sa sv : Nat → Nat) {b L : Nat} {xs : Nat → Int32} {A : Nat → Prop} (hL : L ≤ 3072) (hF : CallFix p m c cL_law 4 s #[Value.ref b] (Cond.initialized RX8 :: wsU) RL) (hr : meth.sig.returnType = ret) (hlk : meth.locks = false) (hK : va_K D vwCl (xT cI cJ cZ cS) s) (hN : XN sa s) (hX : va_X b L xs s s.heap) (hbl : b < s.heap.size) (hA : ∀ q : Nat, s.heap.size ≤ q → A q) (hbA : ¬ A b) (hAs : ∀ q, A q → s.heap.size ≤ q) (hZ : ST ta sa sv A s s.heap) (h0 g0 i : Nat) (hi : i + 6 ≤ L) (qh : Nat) (qk : Nat) (qd : Nat) (b0 : Int32) (qa : Nat) (qm : Nat) (qs : Nat) (qp : Nat) (ql : Nat) (qt : Nat) (qz : Nat) (qf : Nat) (s0 : Nat) (s1 : Nat) (s2 : Nat) (s3 : Nat) (bt0 : Int32) (sz0 : Nat) (sn0 : Nat) (bt1 : Int32) (sz1 : Nat) (sn1 : Nat) (bt2 : Int32) (sz2 : Nat) (sn2 : Nat) (bt3 : Int32) (sz3 : Nat) (sn3 : Nat) (nu0 : Nat → Int64) (nu1 : Nat → Int64) (nu2 : Nat → Int64) (nu3 : Nat → Int64) (ff : Nat → Int32) (m_ys : Nat) (m_yk : Nat) (m_yo : Nat) (m_yt : Nat) (m_yfa : Nat) (m_yfe : Nat) (m_mL : Int32) (m_mS : Int32) (m_mM : Int32) (m_yro : Nat) (m_yhe : Nat) (m_ygr : Nat) (m_mF : Int32) (m_mC : Int32) (m_mY : Int32) (m_yta : Nat) (z : Nat) (m_mf : Nat) (m_mt : Nat) (m_mv : Int32) (m_mw : Int32) (m_ywa : Nat) (m_ybi : Nat) (m_ysi : Nat) (m_ynu : Nat) (m_ymo : Nat) (m_mq : Nat → Int32) (m_bi : Nat → Int32) (m_sq : Nat → Int32) (m_nb : Nat → Int64) {tl : va_W} {H : Heap} {locs : List Loc} {ls : Array Slot} (hP : va_P D vwCl ([(h0, .inr (8, [.ref qh, .ref qk, .ref qd, .int b0, .ref qa, .ref qm, .ref qs, .ref qp, .ref ql, .ref qt, .ref qz, .ref qf])), (qz, .inl (cS, 4, .inr (.inr (.inr (.inr (xSh s0 s1 s2 s3)))))), (s0, .inr (4, [.int bt0, .int (nI (sz0)), .ref sn0])), (s1, .inr (4, [.int bt1, .int (nI (sz1)), .ref sn1])), (s2, .inr (4, [.int bt2, .int (nI (sz2)), .ref sn2])), (s3, .inr (4, [.int bt3, .int (nI (sz3)), .ref sn3])), (sn0, .inl (cJ, 40, .inr (.inl nu0))), (sn1, .inl (cJ, 40, .inr (.inl nu1))), (sn2, .inl (cJ, 40, .inr (.inl nu2))), (sn3, .inl (cJ, 40, .inr (.inl nu3))), (qf, .inl (cI, 7, .inl ff)), (g0, .inr (9, [.ref m_ys, .ref m_yk, .ref m_yo, .ref m_yt, .int b0, .ref m_yfa, .ref m_yfe, .int m_mL, .int m_mS, .int m_mM, .ref m_yro, .ref m_yhe, .ref m_ygr, .int m_mF, .int m_mC, .int m_mY, .ref m_yta, .int (nI (z)), .int (nI (m_mf)), .int (nI (m_mt)), .int m_mv, .int m_mw, .ref m_ywa, .ref m_ybi, .ref m_ysi, .ref m_ynu, .ref m_ymo])), (m_yt, .inl (cI, 7, .inl m_mq)), (m_ybi, .inl (cI, 4, .inl m_bi)), (m_ysi, .inl (cI, 4, .inl m_sq)), (m_ynu, .inl (cJ, 160, .inr (.inl m_nb)))] ++ tl) H) (hD : va_D A ([(h0, .inr (8, [.ref qh, .ref qk, .ref qd, .int b0, .ref qa, .ref qm, .ref qs, .ref qp, .ref ql, .ref qt, .ref qz, .ref qf])), (qz, .inl (cS, 4, .inr (.inr (.inr (.inr (xSh s0 s1 s2 s3)))))), (s0, .inr (4, [.int bt0, .int (nI (sz0)), .ref sn0])), (s1, .inr (4, [.int bt1, .int (nI (sz1)), .ref sn1])), (s2, .inr (4, [.int bt2, .int (nI (sz2)), .ref sn2])), (s3, .inr (4, [.int bt3, .int (nI (sz3)), .ref sn3])), (sn0, .inl (cJ, 40, .inr (.inl nu0))), (sn1, .inl (cJ, 40, .inr (.inl nu1))), (sn2, .inl (cJ, 40, .inr (.inl nu2))), (sn3, .inl (cJ, 40, .inr (.inl nu3))), (qf, .inl (cI, 7, .inl ff)), (g0, .inr (9, [.ref m_ys, .ref m_yk, .ref m_yo, .ref m_yt, .int b0, .ref m_yfa, .ref m_yfe, .int m_mL, .int m_mS, .int m_mM, .ref m_yro, .ref m_yhe, .ref m_ygr, .int m_mF, .int m_mC, .int m_mY, .ref m_yta, .int (nI (z)), .int (nI (m_mf)), .int (nI (m_mt)), .int m_mv, .int m_mw, .ref m_ywa, .ref m_ybi, .ref m_ysi, .ref m_ynu, .ref m_ymo])), (m_yt, .inl (cI, 7, .inl m_mq)), (m_ybi, .inl (cI, 4, .inl m_bi)), (m_ysi, .inl (cI, 4, .inl m_sq)), (m_ynu, .inl (cJ, 160, .inr (.inl m_nb)))] ++ tl)) (hz : z ≤ 120) (hsz0 : sz0 ≤ 40) (hsz1 : sz1 ≤ 40) (hsz2 : sz2 ≤ 40) (hsz3 : sz3 ≤ 40) (m_hsq : BA 4 41 m_sq) (hS : va_S A s.heap H locs) (hl : lv_has ls 4 [(3, .int (nI i)), (2, .ref g0), (1, .ref h0), (0, .ref b)]) (kkx : ∀ (H : Heap) (locs : List Loc) (ls : Array Slot) (bt0_n : Int32) (sz0_n : Nat) (bt1_n : Int32) (sz1_n : Nat) (bt2_n : Int32) (sz2_n : Nat) (bt3_n : Int32) (sz3_n : Nat) (nu0_n : Nat → Int64) (nu1_n : Nat → Int64) (nu2_n : Nat → Int64) (nu3_n : Nat → Int64) (ff_n : Nat → Int32) (m_mq_n : Nat → Int32) (m_nb_n : Nat → Int64), va_P D vwCl ([(h0, .inr (8, [.ref qh, .ref qk, .ref qd, .int b0, .ref qa, .ref qm, .ref qs, .ref qp, .ref ql, .ref qt, .ref qz, .ref qf])), (qz, .inl (cS, 4, .inr (.inr (.inr (.inr (xSh s0 s1 s2 s3)))))), (s0, .inr (4, [.int bt0_n, .int (nI (sz0_n)), .ref sn0])), (s1, .inr (4, [.int bt1_n, .int (nI (sz1_n)), .ref sn1])), (s2, .inr (4, [.int bt2_n, .int (nI (sz2_n)), .ref sn2])), (s3, .inr (4, [.int bt3_n, .int (nI (sz3_n)), .ref sn3])), (sn0, .inl (cJ, 40, .inr (.inl nu0_n))), (sn1, .inl (cJ, 40, .inr (.inl nu1_n))), (sn2, .inl (cJ, 40, .inr (.inl nu2_n))), (sn3, .inl (cJ, 40, .inr (.inl nu3_n))), (qf, .inl (cI, 7, .inl ff_n)), (g0, .inr (9, [.ref m_ys, .ref m_yk, .ref m_yo, .ref m_yt, .int b0, .ref m_yfa, .ref m_yfe, .int m_mL, .int m_mS, .int m_mM, .ref m_yro, .ref m_yhe, .ref m_ygr, .int m_mF, .int m_mC, .int m_mY, .ref m_yta, .int (nI (z)), .int (nI (m_mf)), .int (nI (m_mt)), .int m_mv, .int m_mw, .ref m_ywa, .ref m_ybi, .ref m_ysi, .ref m_ynu, .ref m_ymo])), (m_yt, .inl (cI, 7, .inl m_mq_n)), (m_ybi, .inl (cI, 4, .inl m_bi)), (m_ysi, .inl (cI, 4, .inl m_sq)), (m_ynu, .inl (cJ, 160, .inr (.inl m_nb_n)))] ++ tl) H → va_D A ([(h0, .inr (8, [.ref qh, .ref qk, .ref qd, .int b0, .ref qa, .ref qm, .ref qs, .ref qp, .ref ql, .ref qt, .ref qz, .ref qf])), (qz, .inl (cS, 4, .inr (.inr (.inr (.inr (xSh s0 s1 s2 s3)))))), (s0, .inr (4, [.int bt0_n, .int (nI (sz0_n)), .ref sn0])), (s1, .inr (4, [.int bt1_n, .int (nI (sz1_n)), .ref sn1])), (s2, .inr (4, [.int bt2_n, .int (nI (sz2_n)), .ref sn2])), (s3, .inr (4, [.int bt3_n, .int (nI (sz3_n)), .ref sn3])), (sn0, .inl (cJ, 40, .inr (.inl nu0_n))), (sn1, .inl (cJ, 40, .inr (.inl nu1_n))), (sn2, .inl (cJ, 40, .inr (.inl nu2_n))), (sn3, .inl (cJ, 40, .inr (.inl nu3_n))), (qf, .inl (cI, 7, .inl ff_n)), (g0, .inr (9, [.ref m_ys, .ref m_yk, .ref m_yo, .ref m_yt, .int b0, .ref m_yfa, .ref m_yfe, .int m_mL, .int m_mS, .int m_mM, .ref m_yro, .ref m_yhe, .ref m_ygr, .int m_mF, .int m_mC, .int m_mY, .ref m_yta, .int (nI (z)), .int (nI (m_mf)), .int (nI (m_mt)), .int m_mv, .int m_mw, .ref m_ywa, .ref m_ybi, .ref m_ysi, .ref m_ynu, .ref m_ymo])), (m_yt, .inl (cI, 7, .inl m_mq_n)), (m_ybi, .inl (cI, 4, .inl m_bi)), (m_ysi, .inl (cI, 4, .inl m_sq)), (m_ynu, .inl (cJ, 160, .inr (.inl m_nb_n)))] ++ tl) → (sz0_n ≤ 40) → (sz1_n ≤ 40) → (sz2_n ≤ 40) → (sz3_n ≤ 40) → va_S A s.heap H locs → lv_has ls 4 [(3, .int (nI i)), (2, .ref g0), (1, .ref h0), (0, .ref b)] → W p l e room_1 s m #[Value.ref b] below meth c H locs 82 4273 (lw_Z below #[Value.ref b] s) (F0 m 1482 ls [])) : W p l e room_1 s m #[Value.ref b] below meth c H locs 82 4273 (lw_Z below #[Value.ref b] s) (F0 m 1205 ls []) := by
  have hx := hF.1
  have hb := hF.2.1
  have hml := hF.2.2.1
  have hown := hF.2.2.2.1
  have hu : ∀ w ∈ wsU, w.before _ s = true := fun w h => hF.2.2.2.2 w (List.mem_cons_of_mem _ h)
  refine lv_aload_n hx hb dL_law_1205 rfl (lv_at hl 2 rfl) ?_
  refine lv_aload_n hx hb dL_law_1206 rfl (lv_at hl 3 rfl) ?_
  refine lv_iload_n hx hb dL_law_1207 rfl (lv_at hl 0 rfl) ?_
  refine lv_iconst (v := 1) hx hb dL_law_1208 (by decide) ?_
  refine lv_iadd hx hb dL_law_1209 ?_
  refine xl_i (y := nI (i + 1)) (nI_add i 1) ?_
  refine va_sld hx hb hX hbl hbA hS (x_si (k := 1) (by decide) hi hL) dL_law_1210 ?_
  refine xl_i (y := xs (i + 1)) (congrArg xs (x_sc (k := 1) (by decide) hi hL)) ?_
  refine lv_aload_n hx hb dL_law_1211 rfl (lv_at hl 3 rfl) ?_
  refine lv_iload_n hx hb dL_law_1212 rfl (lv_at hl 0 rfl) ?_
  refine lv_iconst (v := 2) hx hb dL_law_1213 (by decide) ?_
  refine lv_iadd hx hb dL_law_1214 ?_
  refine xl_i (y := nI (i + 2)) (nI_add i 2) ?_
  refine va_sld hx hb hX hbl hbA hS (x_si (k := 2) (by decide) hi hL) dL_law_1215 ?_
  refine xl_i (y := xs (i + 2)) (congrArg xs (x_sc (k := 2) (by decide) hi hL)) ?_
  refine lv_aload_n hx hb dL_law_1216 rfl (lv_at hl 3 rfl) ?_
  refine lv_iload_n hx hb dL_law_1217 rfl (lv_at hl 0 rfl) ?_
  refine lv_iconst (v := 3) hx hb dL_law_1218 (by decide) ?_
  refine lv_iadd hx hb dL_law_1219 ?_
  refine xl_i (y := nI (i + 3)) (nI_add i 3) ?_
  refine va_sld hx hb hX hbl hbA hS (x_si (k := 3) (by decide) hi hL) dL_law_1220 ?_
  refine xl_i (y := xs (i + 3)) (congrArg xs (x_sc (k := 3) (by decide) hi hL)) ?_
  refine lv_i2l (v := (xs (i + 3)).toInt64) hx hb dL_law_1221 rfl ?_
  refine lv_bipush (v := 32) hx hb dL_law_1222 (by decide) ?_
  refine lv_lshl hx hb dL_law_1224 rfl ?_
  refine lv_topl (fun x_1 ex_1 => ?_)
  refine lv_aload_n hx hb dL_law_1225 rfl (lv_at hl 3 rfl) ?_
  refine lv_iload_n hx hb dL_law_1226 rfl (lv_at hl 0 rfl) ?_
  refine lv_iconst (v := 4) hx hb dL_law_1227 (by decide) ?_
  refine lv_iadd hx hb dL_law_1228 ?_
  refine xl_i (y := nI (i + 4)) (nI_add i 4) ?_
  refine va_sld hx hb hX hbl hbA hS (x_si (k := 4) (by decide) hi hL) dL_law_1229 ?_
  refine xl_i (y := xs (i + 4)) (congrArg xs (x_sc (k := 4) (by decide) hi hL)) ?_
  refine lv_i2l (v := (xs (i + 4)).toInt64) hx hb dL_law_1230 rfl ?_
  refine lv_ldc2 (v := 4294967295) hx hb hown (hu _ uw1261) dL_law_1231 ?_
  refine lv_land hx hb dL_law_1234 ?_
  refine lv_topl (fun x_2 ex_2 => ?_)
  refine lv_lor hx hb dL_law_1235 ?_
  refine lv_topl (fun x_3 ex_3 => ?_)
  refine xc_VlT (wr := [(g0, .inr (9, [.ref m_ys, .ref m_yk, .ref m_yo, .ref m_yt, .int b0, .ref m_yfa, .ref m_yfe, .int m_mL, .int m_mS, .int m_mM, .ref m_yro, .ref m_yhe, .ref m_ygr, .int m_mF, .int m_mC, .int m_mY, .ref m_yta, .int (nI (z)), .int (nI (m_mf)), .int (nI (m_mt)), .int m_mv, .int m_mw, .ref m_ywa, .ref m_ybi, .ref m_ysi, .ref m_ynu, .ref m_ymo])), (m_yt, .inl (cI, 7, .inl m_mq)), (m_ybi, .inl (cI, 4, .inl m_bi)), (m_ysi, .inl (cI, 4, .inl m_sq)), (m_ynu, .inl (cJ, 160, .inr (.inl m_nb)))]) hF (c_X8_write l D cI cJ cZ cS ta sa sv H.size h0 qh qk qd b0 qa qm qs qp ql qt qz qf s0 s1 s2 s3 bt0 sz0 sn0 bt1 sz1 sn1 bt2 sz2 sn2 bt3 sz3 sn3 nu0 nu1 nu2 nu3 ff (xs (i + 1)) (xs (i + 2)) x_3 hsz0 hsz1 hsz2 hsz3) kv_L_161 ⟨rfl, rfl, Nat.le_of_ble_eq_true rfl, Nat.le_of_ble_eq_true rfl⟩ ⟨Nat.le_of_ble_eq_true rfl, Nat.le_of_ble_eq_true rfl⟩ hK hN hZ hP hD hS hA [0, 1, 2, 3, 4, 5, 6, 7, 8, 9, 10] [11, 12, 13, 14, 15] rfl rfl (by decide +kernel) (by decide +kernel) (by decide +kernel) 0 rfl rfl rfl rfl hl.1 rfl (Nat.le_of_ble_eq_true rfl) dL_law_1236 (fun r_4 u_r_4 H locs hw_r_4 hP hD hS => ?_)
  obtain ⟨bu0_5, sy0_6, bu1_7, sy1_8, bu2_9, sy2_10, bu3_11, sy3_12, nv0_13, nv1_14, nv2_15, nv3_16, f2_17⟩ := u_r_4
  try dsimp only at hw_r_4
  obtain ⟨hw_r_4, i_18, i_19, i_20, i_21⟩ := hw_r_4
  have hP : va_P D vwCl ([(g0, .inr (9, [.ref m_ys, .ref m_yk, .ref m_yo, .ref m_yt, .int b0, .ref m_yfa, .ref m_yfe, .int m_mL, .int m_mS, .int m_mM, .ref m_yro, .ref m_yhe, .ref m_ygr, .int m_mF, .int m_mC, .int m_mY, .ref m_yta, .int (nI (z)), .int (nI (m_mf)), .int (nI (m_mt)), .int m_mv, .int m_mw, .ref m_ywa, .ref m_ybi, .ref m_ysi, .ref m_ynu, .ref m_ymo])), (m_yt, .inl (cI, 7, .inl m_mq)), (m_ybi, .inl (cI, 4, .inl m_bi)), (m_ysi, .inl (cI, 4, .inl m_sq)), (m_ynu, .inl (cJ, 160, .inr (.inl m_nb))), (h0, .inr (8, [.ref qh, .ref qk, .ref qd, .int b0, .ref qa, .ref qm, .ref qs, .ref qp, .ref ql, .ref qt, .ref qz, .ref qf])), (qz, .inl (cS, 4, .inr (.inr (.inr (.inr (xSh s0 s1 s2 s3)))))), (s0, .inr (4, [.int bu0_5, .int (nI (sy0_6)), .ref sn0])), (s1, .inr (4, [.int bu1_7, .int (nI (sy1_8)), .ref sn1])), (s2, .inr (4, [.int bu2_9, .int (nI (sy2_10)), .ref sn2])), (s3, .inr (4, [.int bu3_11, .int (nI (sy3_12)), .ref sn3])), (sn0, .inl (cJ, 40, .inr (.inl nv0_13))), (sn1, .inl (cJ, 40, .inr (.inl nv1_14))), (sn2, .inl (cJ, 40, .inr (.inl nv2_15))), (sn3, .inl (cJ, 40, .inr (.inl nv3_16))), (qf, .inl (cI, 7, .inl f2_17))] ++ tl) H := hP
  have hD : va_D A ([(g0, .inr (9, [.ref m_ys, .ref m_yk, .ref m_yo, .ref m_yt, .int b0, .ref m_yfa, .ref m_yfe, .int m_mL, .int m_mS, .int m_mM, .ref m_yro, .ref m_yhe, .ref m_ygr, .int m_mF, .int m_mC, .int m_mY, .ref m_yta, .int (nI (z)), .int (nI (m_mf)), .int (nI (m_mt)), .int m_mv, .int m_mw, .ref m_ywa, .ref m_ybi, .ref m_ysi, .ref m_ynu, .ref m_ymo])), (m_yt, .inl (cI, 7, .inl m_mq)), (m_ybi, .inl (cI, 4, .inl m_bi)), (m_ysi, .inl (cI, 4, .inl m_sq)), (m_ynu, .inl (cJ, 160, .inr (.inl m_nb))), (h0, .inr (8, [.ref qh, .ref qk, .ref qd, .int b0, .ref qa, .ref qm, .ref qs, .ref qp, .ref ql, .ref qt, .ref qz, .ref qf])), (qz, .inl (cS, 4, .inr (.inr (.inr (.inr (xSh s0 s1 s2 s3)))))), (s0, .inr (4, [.int bu0_5, .int (nI (sy0_6)), .ref sn0])), (s1, .inr (4, [.int bu1_7, .int (nI (sy1_8)), .ref sn1])), (s2, .inr (4, [.int bu2_9, .int (nI (sy2_10)), .ref sn2])), (s3, .inr (4, [.int bu3_11, .int (nI (sy3_12)), .ref sn3])), (sn0, .inl (cJ, 40, .inr (.inl nv0_13))), (sn1, .inl (cJ, 40, .inr (.inl nv1_14))), (sn2, .inl (cJ, 40, .inr (.inl nv2_15))), (sn3, .inl (cJ, 40, .inr (.inl nv3_16))), (qf, .inl (cI, 7, .inl f2_17))] ++ tl) := hD
  refine lv_pop2_2 hx hb dL_law_1239 rfl ?_
  refine lv_aload_n hx hb dL_law_1240 rfl (lv_at hl 1 rfl) ?_
  refine lv_aload_n hx hb dL_law_1241 rfl (lv_at hl 3 rfl) ?_
  refine lv_iload_n hx hb dL_law_1242 rfl (lv_at hl 0 rfl) ?_
  refine lv_iconst (v := 1) hx hb dL_law_1243 (by decide) ?_
  refine lv_iadd hx hb dL_law_1244 ?_
  refine xl_i (y := nI (i + 1)) (nI_add i 1) ?_
  refine va_sld hx hb hX hbl hbA hS (x_si (k := 1) (by decide) hi hL) dL_law_1245 ?_
  refine xl_i (y := xs (i + 1)) (congrArg xs (x_sc (k := 1) (by decide) hi hL)) ?_
  refine lv_aload_n hx hb dL_law_1246 rfl (lv_at hl 3 rfl) ?_
  refine lv_iload_n hx hb dL_law_1247 rfl (lv_at hl 0 rfl) ?_
  refine lv_iconst (v := 2) hx hb dL_law_1248 (by decide) ?_
  refine lv_iadd hx hb dL_law_1249 ?_
  refine xl_i (y := nI (i + 2)) (nI_add i 2) ?_
  refine va_sld hx hb hX hbl hbA hS (x_si (k := 2) (by decide) hi hL) dL_law_1250 ?_
  refine xl_i (y := xs (i + 2)) (congrArg xs (x_sc (k := 2) (by decide) hi hL)) ?_
  refine lv_aload_n hx hb dL_law_1251 rfl (lv_at hl 3 rfl) ?_
  refine lv_iload_n hx hb dL_law_1252 rfl (lv_at hl 0 rfl) ?_
  refine lv_iconst (v := 3) hx hb dL_law_1253 (by decide) ?_
  refine lv_iadd hx hb dL_law_1254 ?_
  refine xl_i (y := nI (i + 3)) (nI_add i 3) ?_
  refine va_sld hx hb hX hbl hbA hS (x_si (k := 3) (by decide) hi hL) dL_law_1255 ?_
  refine xl_i (y := xs (i + 3)) (congrArg xs (x_sc (k := 3) (by decide) hi hL)) ?_
  refine lv_i2l (v := (xs (i + 3)).toInt64) hx hb dL_law_1256 rfl ?_
  refine lv_bipush (v := 32) hx hb dL_law_1257 (by decide) ?_
  refine lv_lshl hx hb dL_law_1259 rfl ?_
  refine lv_topl (fun x_22 ex_22 => ?_)
  refine lv_aload_n hx hb dL_law_1260 rfl (lv_at hl 3 rfl) ?_
  refine lv_iload_n hx hb dL_law_1261 rfl (lv_at hl 0 rfl) ?_
  refine lv_iconst (v := 4) hx hb dL_law_1262 (by decide) ?_
  refine lv_iadd hx hb dL_law_1263 ?_
  refine xl_i (y := nI (i + 4)) (nI_add i 4) ?_
  refine va_sld hx hb hX hbl hbA hS (x_si (k := 4) (by decide) hi hL) dL_law_1264 ?_
  refine xl_i (y := xs (i + 4)) (congrArg xs (x_sc (k := 4) (by decide) hi hL)) ?_
  refine lv_i2l (v := (xs (i + 4)).toInt64) hx hb dL_law_1265 rfl ?_
  refine lv_ldc2 (v := 4294967295) hx hb hown (hu _ uw1261) dL_law_1266 ?_
  refine lv_land hx hb dL_law_1269 ?_
  refine lv_topl (fun x_23 ex_23 => ?_)
  refine lv_lor hx hb dL_law_1270 ?_
  refine lv_topl (fun x_24 ex_24 => ?_)
  refine xc_VlT (wr := [(h0, .inr (8, [.ref qh, .ref qk, .ref qd, .int b0, .ref qa, .ref qm, .ref qs, .ref qp, .ref ql, .ref qt, .ref qz, .ref qf])), (qz, .inl (cS, 4, .inr (.inr (.inr (.inr (xSh s0 s1 s2 s3)))))), (s0, .inr (4, [.int bu0_5, .int (nI (sy0_6)), .ref sn0])), (s1, .inr (4, [.int bu1_7, .int (nI (sy1_8)), .ref sn1])), (s2, .inr (4, [.int bu2_9, .int (nI (sy2_10)), .ref sn2])), (s3, .inr (4, [.int bu3_11, .int (nI (sy3_12)), .ref sn3])), (sn0, .inl (cJ, 40, .inr (.inl nv0_13))), (sn1, .inl (cJ, 40, .inr (.inl nv1_14))), (sn2, .inl (cJ, 40, .inr (.inl nv2_15))), (sn3, .inl (cJ, 40, .inr (.inl nv3_16))), (qf, .inl (cI, 7, .inl f2_17))]) hF (c_X9_write l D cI cJ cZ cS ta sa sv H.size g0 m_ys m_yk m_yo m_yt b0 m_yfa m_yfe m_mL m_mS m_mM m_yro m_yhe m_ygr m_mF m_mC m_mY m_yta z m_mf m_mt m_mv m_mw m_ywa m_ybi m_ysi m_ynu m_ymo m_bi m_sq m_nb m_mq (xs (i + 1)) (xs (i + 2)) x_24 m_hsq) kv_L_165 ⟨rfl, rfl, Nat.le_of_ble_eq_true rfl, Nat.le_of_ble_eq_true rfl⟩ ⟨Nat.le_of_ble_eq_true rfl, Nat.le_of_ble_eq_true rfl⟩ hK hN hZ hP hD hS hA [0, 2, 3, 4, 1] [5, 6, 7, 8, 9, 10, 11, 12, 13, 14, 15] rfl rfl (by decide +kernel) (by decide +kernel) (by decide +kernel) 0 rfl rfl rfl rfl hl.1 rfl (Nat.le_of_ble_eq_true rfl) dL_law_1271 (fun r_25 u_r_25 H locs hw_r_25 hP hD hS => ?_)
  obtain ⟨nb2_26, mq2_27⟩ := u_r_25
  try dsimp only at hw_r_25
  have hP : va_P D vwCl ([(h0, .inr (8, [.ref qh, .ref qk, .ref qd, .int b0, .ref qa, .ref qm, .ref qs, .ref qp, .ref ql, .ref qt, .ref qz, .ref qf])), (qz, .inl (cS, 4, .inr (.inr (.inr (.inr (xSh s0 s1 s2 s3)))))), (s0, .inr (4, [.int bu0_5, .int (nI (sy0_6)), .ref sn0])), (s1, .inr (4, [.int bu1_7, .int (nI (sy1_8)), .ref sn1])), (s2, .inr (4, [.int bu2_9, .int (nI (sy2_10)), .ref sn2])), (s3, .inr (4, [.int bu3_11, .int (nI (sy3_12)), .ref sn3])), (sn0, .inl (cJ, 40, .inr (.inl nv0_13))), (sn1, .inl (cJ, 40, .inr (.inl nv1_14))), (sn2, .inl (cJ, 40, .inr (.inl nv2_15))), (sn3, .inl (cJ, 40, .inr (.inl nv3_16))), (qf, .inl (cI, 7, .inl f2_17)), (g0, .inr (9, [.ref m_ys, .ref m_yk, .ref m_yo, .ref m_yt, .int b0, .ref m_yfa, .ref m_yfe, .int m_mL, .int m_mS, .int m_mM, .ref m_yro, .ref m_yhe, .ref m_ygr, .int m_mF, .int m_mC, .int m_mY, .ref m_yta, .int (nI (z)), .int (nI (m_mf)), .int (nI (m_mt)), .int m_mv, .int m_mw, .ref m_ywa, .ref m_ybi, .ref m_ysi, .ref m_ynu, .ref m_ymo])), (m_ybi, .inl (cI, 4, .inl m_bi)), (m_ysi, .inl (cI, 4, .inl m_sq)), (m_ynu, .inl (cJ, 160, .inr (.inl nb2_26))), (m_yt, .inl (cI, 7, .inl mq2_27))] ++ tl) H := hP
  have hD : va_D A ([(h0, .inr (8, [.ref qh, .ref qk, .ref qd, .int b0, .ref qa, .ref qm, .ref qs, .ref qp, .ref ql, .ref qt, .ref qz, .ref qf])), (qz, .inl (cS, 4, .inr (.inr (.inr (.inr (xSh s0 s1 s2 s3)))))), (s0, .inr (4, [.int bu0_5, .int (nI (sy0_6)), .ref sn0])), (s1, .inr (4, [.int bu1_7, .int (nI (sy1_8)), .ref sn1])), (s2, .inr (4, [.int bu2_9, .int (nI (sy2_10)), .ref sn2])), (s3, .inr (4, [.int bu3_11, .int (nI (sy3_12)), .ref sn3])), (sn0, .inl (cJ, 40, .inr (.inl nv0_13))), (sn1, .inl (cJ, 40, .inr (.inl nv1_14))), (sn2, .inl (cJ, 40, .inr (.inl nv2_15))), (sn3, .inl (cJ, 40, .inr (.inl nv3_16))), (qf, .inl (cI, 7, .inl f2_17)), (g0, .inr (9, [.ref m_ys, .ref m_yk, .ref m_yo, .ref m_yt, .int b0, .ref m_yfa, .ref m_yfe, .int m_mL, .int m_mS, .int m_mM, .ref m_yro, .ref m_yhe, .ref m_ygr, .int m_mF, .int m_mC, .int m_mY, .ref m_yta, .int (nI (z)), .int (nI (m_mf)), .int (nI (m_mt)), .int m_mv, .int m_mw, .ref m_ywa, .ref m_ybi, .ref m_ysi, .ref m_ynu, .ref m_ymo])), (m_ybi, .inl (cI, 4, .inl m_bi)), (m_ysi, .inl (cI, 4, .inl m_sq)), (m_ynu, .inl (cJ, 160, .inr (.inl nb2_26))), (m_yt, .inl (cI, 7, .inl mq2_27))] ++ tl) := hD
  refine lv_pop2_2 hx hb dL_law_1274 rfl ?_
  refine lv_goto (tgt := 1482) hx hb dL_law_1275 (by decide) ?_
  exact kkx _ _ _ bu0_5 sy0_6 bu1_7 sy1_8 bu2_9 sy2_10 bu3_11 sy3_12 nv0_13 nv1_14 nv2_15 nv3_16 f2_17 mq2_27 nb2_26 (xt_P hP [0, 1, 2, 3, 4, 5, 6, 7, 8, 9, 10, 11, 15, 12, 13, 14] rfl) (xt_D hD [0, 1, 2, 3, 4, 5, 6, 7, 8, 9, 10, 11, 15, 12, 13, 14] (by decide +kernel) rfl) i_18 i_19 i_20 i_21 hS hl
