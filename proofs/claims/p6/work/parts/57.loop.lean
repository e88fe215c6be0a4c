theorem x_sub6 {i L : Nat} (hi : i < 2 ^ 31) (hL : L < 6) : nI L - 6 < nI i := by
  have e6 : (6 : Int32) = nI 6 := rfl
  rw [Int32.lt_iff_toInt_lt, e6, pk_sub_toInt (by omega) (by omega), nI_toInt hi]
  omega
set_option maxHeartbeats 4000000 in
set_option maxRecDepth 100000 in
theorem law_loop {p : Program} {e : Env} {s : State} {m : MethodId} {below : List Frame} {meth : Method} {c : Code} (l : Launch) (D : va_G) (cI cJ cZ cS : ClassId) (ta : Nat) (sa sv : Nat → Nat) {b L : Nat} {xs : Nat → Int32} {A : Nat → Prop} (hL : L ≤ 3072) (hF : CallFix p m c cL_law 4 s #[Value.ref b] (Cond.initialized RX8 :: wsU) RL) (hr : meth.sig.returnType = ret) (hlk : meth.locks = false) (hK : va_K D vwCl (xT cI cJ cZ cS) s) (hN : XN sa s) (hX : va_X b L xs s s.heap) (hbl : b < s.heap.size) (hA : ∀ q : Nat, s.heap.size ≤ q → A q) (hbA : ¬ A b) (hAs : ∀ q, A q → s.heap.size ≤ q) (hZ : ST ta sa sv A s s.heap) (h0 g0 : Nat) : ∀ (n i : Nat) (H : Heap) (locs : List Loc) (ls : Array Slot), L + 6 - i < n → i ≤ L + 6 → LI D cI cJ cZ cS A h0 g0 H → va_S A s.heap H locs → lv_has ls 4 [(3, .int (nI i)), (2, .ref g0), (1, .ref h0), (0, .ref b)] → W p l e room_1 s m #[Value.ref b] below meth c H locs 82 4273 (lw_Z below #[Value.ref b] s) (F0 m 18 ls []) := by
  intro n
  induction n with
  | zero =>
    intro i H locs ls hm
    exact absurd hm (Nat.not_lt_zero _)
  | succ n ih =>
    intro i H locs ls hm hi0 hI hS hl
    have hx := hF.1
    have hb := hF.2.1
    have hml := hF.2.2.1
    have hown := hF.2.2.2.1
    have hu : ∀ w ∈ wsU, w.before _ s = true := fun w h => hF.2.2.2.2 w (List.mem_cons_of_mem _ h)
    have kend : ∀ (H : Heap) (locs : List Loc) (ls : Array Slot), i + 6 ≤ L → LI D cI cJ cZ cS A h0 g0 H → va_S A s.heap H locs → lv_has ls 4 [(3, .int (nI i)), (2, .ref g0), (1, .ref h0), (0, .ref b)] → W p l e room_1 s m #[Value.ref b] below meth c H locs 82 4273 (lw_Z below #[Value.ref b] s) (F0 m 1482 ls []) := by
      intro H locs ls hi hI hS hl
      refine lv_iinc (v := nI (i + 6)) (lv' := [(3, .int (nI (i + 6))), (2, .ref g0), (1, .ref h0), (0, .ref b)]) hx hb dL_law_1482 hl (k := 0) rfl (nI_add i 6) (by decide) rfl (fun ls hl => ?_)
      refine lv_goto (tgt := 18) hx hb dL_law_1485 (by decide) ?_
      exact ih (i + 6) H locs ls (by omega) (by omega) hI hS hl
    refine lv_iload_n hx hb dL_law_18 rfl (lv_at hl 0 rfl) ?_
    refine lv_aload_n hx hb dL_law_19 rfl (lv_at hl 3 rfl) ?_
    refine va_slen hx hb hX hbl hbA hS dL_law_20 ?_
    refine lv_bipush (v := 6) hx hb dL_law_21 (by decide) ?_
    refine lv_isub hx hb dL_law_23 ?_
    rcases Nat.lt_or_ge L 6 with hL6 | hL6
    · refine lv_icmp_gt (tgt := 1488) hx hb dL_law_24 (by decide) (fun c_1 => ?_) (fun c_1 => absurd (x_sub6 (by omega) hL6) c_1)
      refine lv_iconst (v := 1) hx hb dL_law_1488 (by decide) ?_
      refine va_forget (fun q hq => hAs _ (hS.2.2 q hq)) ?_
      refine W.widen (k := 600000) (n := 7302249) (Nat.le_of_ble_eq_true rfl) (Nat.le_of_ble_eq_true rfl) ?_
      exact lw_ret hx hb hr hlk dL_law_1489
    refine xl_i (y := nI (L - 6)) (pk_sub (a := L) (b := 6) (by omega)) ?_
    refine lv_icmp_gt (tgt := 1488) hx hb dL_law_24 (by decide) (fun c_1 => ?_) (fun c_1 => ?_)
    · refine lv_iconst (v := 1) hx hb dL_law_1488 (by decide) ?_
      refine va_forget (fun q hq => hAs _ (hS.2.2 q hq)) ?_
      refine W.widen (k := 600000) (n := 7302249) (Nat.le_of_ble_eq_true rfl) (Nat.le_of_ble_eq_true rfl) ?_
      exact lw_ret hx hb hr hlk dL_law_1489
    have hi : i + 6 ≤ L := by
      have := xn_nlt (a := L - 6) (b := i) (by omega) (by omega) c_1
      omega
    refine lv_aload_n hx hb dL_law_27 rfl (lv_at hl 3 rfl) ?_
    refine lv_iload_n hx hb dL_law_28 rfl (lv_at hl 0 rfl) ?_
    refine va_sld hx hb hX hbl hbA hS (vp_in_nI (show i < L by omega) (by omega)) dL_law_29 ?_
    refine lv_bipush (v := 63) hx hb dL_law_30 (by decide) ?_
    refine lv_iand hx hb dL_law_32 ?_
    obtain ⟨j, hj, ej⟩ := pk_andE (xs (nI i).toNatClampNeg) (m := 63) 6 (by decide)
    refine xl_i (y := nI j) ej ?_
    rcases Nat.lt_or_ge j 44 with hc | hc
    · rcases Nat.lt_or_ge j 11 with hc0 | hc0
      · exact law_go0 l D cI cJ cZ cS ta sa sv hL hF hr hlk hK hN hX hbl hA hbA hAs hZ h0 g0 i j hi (Nat.zero_le _) hc0 hI hS hl (fun H locs ls => kend H locs ls hi)
      · rcases Nat.lt_or_ge j 22 with hc1 | hc1
        · exact law_go1 l D cI cJ cZ cS ta sa sv hL hF hr hlk hK hN hX hbl hA hbA hAs hZ h0 g0 i j hi hc0 hc1 hI hS hl (fun H locs ls => kend H locs ls hi)
        · rcases Nat.lt_or_ge j 33 with hc2 | hc2
          · exact law_go2 l D cI cJ cZ cS ta sa sv hL hF hr hlk hK hN hX hbl hA hbA hAs hZ h0 g0 i j hi hc1 hc2 hI hS hl (fun H locs ls => kend H locs ls hi)
          · exact law_go3 l D cI cJ cZ cS ta sa sv hL hF hr hlk hK hN hX hbl hA hbA hAs hZ h0 g0 i j hi hc2 hc hI hS hl (fun H locs ls => kend H locs ls hi)
    · refine lv_tableOut (tgt := 1482) hx hb dL_law_33 (Or.inr (by rw [nI_toInt (by omega)]; omega)) (by decide) ?_
      exact kend H locs ls hi hI hS hl
