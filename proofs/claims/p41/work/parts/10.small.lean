set_option maxHeartbeats 4000000 in
set_option maxRecDepth 100000 in
theorem c_X8_isWithin (l : Launch) (D : va_G) (cI cJ cZ cS : ClassId) (ta : Nat) (sa sv : Nat → Nat) (sz : Nat) (p0 : Int32) (p1 : Int32) (p2 : Int32) : Met l yX8_isWithin (Cond.code yX8_isWithin cX8_isWithin 3 (some .boolean) :: wsU) ({ frames := 0, cells := 0, slots := 0, locals := 0 }) (va_Pc [.int p0, .int p1, .int p2] (XW D (xT cI cJ cZ cS) ta sa sv [] sz)) (vp_Si (fun r : Int32 => (r = 1 ∧ (¬ p0 < p1) ∧ (¬ p2 < p0)) ∨ (r = 0 ∧ (p0 < p1 ∨ p2 < p0)))) 0 0 (fun _ => False) := by
  refine xh (QA := fun _ => vp_Si (fun r : Int32 => (r = 1 ∧ (¬ p0 < p1) ∧ (¬ p2 < p0)) ∨ (r = 0 ∧ (p0 < p1 ∨ p2 < p0)))) (fr := fun _ _ => False) (by decide) (Nat.le_of_ble_eq_true rfl) ?_
  intro p e s m below meth c ls A hF hr hlk hin hsz hP hK hD hN hZ hA hS hl
  have hF : CallFix p m c cX8_isWithin 3 s _ _ RX8 := hF
  have hx := hF.1
  have hb := hF.2.1
  have hml := hF.2.2.1
  have hown := hF.2.2.2.1
  have hu : ∀ w ∈ wsU, w.before _ s = true := fun w h => hF.2.2.2.2 w (List.mem_cons_of_mem _ h)
  have hl : lv_has ls 3 [(0, .int p0), (1, .int p1), (2, .int p2)] := hl
  refine lv_iload_n hx hb dX8_isWithin_0 rfl (lv_at hl 0 rfl) ?_
  refine lv_iload_n hx hb dX8_isWithin_1 rfl (lv_at hl 1 rfl) ?_
  refine lv_icmp_lt (tgt := 14) hx hb dX8_isWithin_2 (by decide) (fun c_1 => ?_) (fun c_1 => ?_)
  · skip
    refine lv_iconst (v := 0) hx hb dX8_isWithin_14 (by decide) ?_
    exact W.zret (v := 0) hx hb hr rfl (fun t ht hW => ⟨0, rfl, (by first | exact Or.inr (⟨rfl, (by first | assumption | omega | exact Or.inl (by first | assumption | omega) | exact Or.inr (by first | assumption | omega))⟩)), ht⟩) (fun q h => by cases h) dX8_isWithin_15 hlk
  · skip
    refine lv_iload_n hx hb dX8_isWithin_5 rfl (lv_at hl 0 rfl) ?_
    refine lv_iload_n hx hb dX8_isWithin_6 rfl (lv_at hl 2 rfl) ?_
    refine lv_icmp_gt (tgt := 14) hx hb dX8_isWithin_7 (by decide) (fun c_2 => ?_) (fun c_2 => ?_)
    · skip
      refine lv_iconst (v := 0) hx hb dX8_isWithin_14 (by decide) ?_
      exact W.zret (v := 0) hx hb hr rfl (fun t ht hW => ⟨0, rfl, (by first | exact Or.inr (⟨rfl, (by first | assumption | omega | exact Or.inl (by first | assumption | omega) | exact Or.inr (by first | assumption | omega))⟩)), ht⟩) (fun q h => by cases h) dX8_isWithin_15 hlk
    · skip
      refine lv_iconst (v := 1) hx hb dX8_isWithin_10 (by decide) ?_
      refine lv_goto (tgt := 15) hx hb dX8_isWithin_11 (by decide) ?_
      exact W.zret (v := 1) hx hb hr rfl (fun t ht hW => ⟨1, rfl, (by first | exact Or.inl ⟨rfl, (by first | assumption | omega | exact Or.inl (by first | assumption | omega) | exact Or.inr (by first | assumption | omega)), (by first | assumption | omega | exact Or.inl (by first | assumption | omega) | exact Or.inr (by first | assumption | omega))⟩), ht⟩) (fun q h => by cases h) dX8_isWithin_15 hlk
set_option maxHeartbeats 4000000 in
set_option maxRecDepth 100000 in
theorem c_X8_isKind (l : Launch) (D : va_G) (cI cJ cZ cS : ClassId) (ta : Nat) (sa sv : Nat → Nat) (sz : Nat) (p0 : Int32) : Met l yX8_isKind (Cond.code yX8_isKind cX8_isKind 1 (some .boolean) :: wsU) ({ frames := 1, cells := 0, slots := 0, locals := 22 }) (va_Pc [.int p0] (XW D (xT cI cJ cZ cS) ta sa sv [] sz)) (vp_Si (fun r : Int32 => (r = 1 ∧ (¬ p0 < 0) ∧ (¬ 6 < p0)) ∨ (r = 0 ∧ (p0 < 0 ∨ 6 < p0)))) 0 0 (fun _ => False) := by
  refine xh (QA := fun _ => vp_Si (fun r : Int32 => (r = 1 ∧ (¬ p0 < 0) ∧ (¬ 6 < p0)) ∨ (r = 0 ∧ (p0 < 0 ∨ 6 < p0)))) (fr := fun _ _ => False) (by decide) (Nat.le_of_ble_eq_true rfl) ?_
  intro p e s m below meth c ls A hF hr hlk hin hsz hP hK hD hN hZ hA hS hl
  have hF : CallFix p m c cX8_isKind 1 s _ _ RX8 := hF
  have hx := hF.1
  have hb := hF.2.1
  have hml := hF.2.2.1
  have hown := hF.2.2.2.1
  have hu : ∀ w ∈ wsU, w.before _ s = true := fun w h => hF.2.2.2.2 w (List.mem_cons_of_mem _ h)
  have hl : lv_has ls 1 [(0, .int p0)] := hl
  refine lv_iload_n hx hb dX8_isKind_0 rfl (lv_at hl 0 rfl) ?_
  refine lv_iconst (v := 0) hx hb dX8_isKind_1 (by decide) ?_
  refine lv_bipush (v := 6) hx hb dX8_isKind_2 (by decide) ?_
  refine xc_Sr hF (c_X8_isWithin l D cI cJ cZ cS ta sa sv s.heap.size p0 0 6 ) ks_X8_91 ⟨rfl, rfl, Nat.le_of_ble_eq_true rfl, Nat.le_of_ble_eq_true rfl⟩ ⟨Nat.le_of_ble_eq_true rfl, Nat.le_of_ble_eq_true rfl⟩ hK hN hZ hP hD hS hA [] rfl rfl rfl hl.1 rfl (Nat.le_of_ble_eq_true rfl) dX8_isKind_4 (fun r_1 hw_r_1 => ?_)
  rcases hw_r_1 with ⟨rfl, h_2, h_3⟩ | ⟨rfl, h_4⟩
  · skip
    exact W.zret (v := 1) hx hb hr rfl (fun t ht hW => ⟨1, rfl, (by first | exact Or.inl ⟨rfl, (by first | assumption | omega | exact Or.inl (by first | assumption | omega) | exact Or.inr (by first | assumption | omega)), (by first | assumption | omega | exact Or.inl (by first | assumption | omega) | exact Or.inr (by first | assumption | omega))⟩), ht⟩) (fun q h => by cases h) dX8_isKind_7 hlk
  · skip
    exact W.zret (v := 0) hx hb hr rfl (fun t ht hW => ⟨0, rfl, (by first | exact Or.inr (⟨rfl, (by first | assumption | omega | exact Or.inl (by first | assumption | omega) | exact Or.inr (by first | assumption | omega))⟩)), ht⟩) (fun q h => by cases h) dX8_isKind_7 hlk
set_option maxHeartbeats 4000000 in
set_option maxRecDepth 100000 in
theorem c_X8_isSheet (l : Launch) (D : va_G) (cI cJ cZ cS : ClassId) (ta : Nat) (sa sv : Nat → Nat) (sz : Nat) (p0 : Int32) : Met l yX8_isSheet (Cond.code yX8_isSheet cX8_isSheet 1 (some .boolean) :: wsU) ({ frames := 1, cells := 0, slots := 0, locals := 22 }) (va_Pc [.int p0] (XW D (xT cI cJ cZ cS) ta sa sv [] sz)) (vp_Si (fun r : Int32 => (r = 1 ∧ (¬ p0 < 0) ∧ (¬ 3 < p0)) ∨ (r = 0 ∧ (p0 < 0 ∨ 3 < p0)))) 0 0 (fun _ => False) := by
  refine xh (QA := fun _ => vp_Si (fun r : Int32 => (r = 1 ∧ (¬ p0 < 0) ∧ (¬ 3 < p0)) ∨ (r = 0 ∧ (p0 < 0 ∨ 3 < p0)))) (fr := fun _ _ => False) (by decide) (Nat.le_of_ble_eq_true rfl) ?_
  intro p e s m below meth c ls A hF hr hlk hin hsz hP hK hD hN hZ hA hS hl
  have hF : CallFix p m c cX8_isSheet 1 s _ _ RX8 := hF
  have hx := hF.1
  have hb := hF.2.1
  have hml := hF.2.2.1
  have hown := hF.2.2.2.1
  have hu : ∀ w ∈ wsU, w.before _ s = true := fun w h => hF.2.2.2.2 w (List.mem_cons_of_mem _ h)
  have hl : lv_has ls 1 [(0, .int p0)] := hl
  refine lv_iload_n hx hb dX8_isSheet_0 rfl (lv_at hl 0 rfl) ?_
  refine lv_iconst (v := 0) hx hb dX8_isSheet_1 (by decide) ?_
  refine lv_iconst (v := 3) hx hb dX8_isSheet_2 (by decide) ?_
  refine xc_Sr hF (c_X8_isWithin l D cI cJ cZ cS ta sa sv s.heap.size p0 0 3 ) ks_X8_91 ⟨rfl, rfl, Nat.le_of_ble_eq_true rfl, Nat.le_of_ble_eq_true rfl⟩ ⟨Nat.le_of_ble_eq_true rfl, Nat.le_of_ble_eq_true rfl⟩ hK hN hZ hP hD hS hA [] rfl rfl rfl hl.1 rfl (Nat.le_of_ble_eq_true rfl) dX8_isSheet_3 (fun r_1 hw_r_1 => ?_)
  rcases hw_r_1 with ⟨rfl, h_2, h_3⟩ | ⟨rfl, h_4⟩
  · skip
    exact W.zret (v := 1) hx hb hr rfl (fun t ht hW => ⟨1, rfl, (by first | exact Or.inl ⟨rfl, (by first | assumption | omega | exact Or.inl (by first | assumption | omega) | exact Or.inr (by first | assumption | omega)), (by first | assumption | omega | exact Or.inl (by first | assumption | omega) | exact Or.inr (by first | assumption | omega))⟩), ht⟩) (fun q h => by cases h) dX8_isSheet_6 hlk
  · skip
    exact W.zret (v := 0) hx hb hr rfl (fun t ht hW => ⟨0, rfl, (by first | exact Or.inr (⟨rfl, (by first | assumption | omega | exact Or.inl (by first | assumption | omega) | exact Or.inr (by first | assumption | omega))⟩)), ht⟩) (fun q h => by cases h) dX8_isSheet_6 hlk
set_option maxHeartbeats 4000000 in
set_option maxRecDepth 100000 in
theorem c_X8_areEnds (l : Launch) (D : va_G) (cI cJ cZ cS : ClassId) (ta : Nat) (sa sv : Nat → Nat) (sz : Nat) (p0 : Int32) (p1 : Int32) : Met l yX8_areEnds (Cond.code yX8_areEnds cX8_areEnds 2 (some .boolean) :: wsU) ({ frames := 0, cells := 0, slots := 0, locals := 0 }) (va_Pc [.int p0, .int p1] (XW D (xT cI cJ cZ cS) ta sa sv [] sz)) (vp_Si (fun r : Int32 => (r = 1) ∨ (r = 0))) 0 0 (fun _ => False) := by
  refine xh (QA := fun _ => vp_Si (fun r : Int32 => (r = 1) ∨ (r = 0))) (fr := fun _ _ => False) (by decide) (Nat.le_of_ble_eq_true rfl) ?_
  intro p e s m below meth c ls A hF hr hlk hin hsz hP hK hD hN hZ hA hS hl
  have hF : CallFix p m c cX8_areEnds 2 s _ _ RX8 := hF
  have hx := hF.1
  have hb := hF.2.1
  have hml := hF.2.2.1
  have hown := hF.2.2.2.1
  have hu : ∀ w ∈ wsU, w.before _ s = true := fun w h => hF.2.2.2.2 w (List.mem_cons_of_mem _ h)
  have hl : lv_has ls 2 [(0, .int p0), (1, .int p1)] := hl
  refine lv_iload_n hx hb dX8_areEnds_0 rfl (lv_at hl 0 rfl) ?_
  refine lv_bipush (v := (-99)) hx hb dX8_areEnds_1 (by decide) ?_
  refine lv_icmp_lt (tgt := 22) hx hb dX8_areEnds_3 (by decide) (fun c_1 => ?_) (fun c_1 => ?_)
  · skip
    refine lv_iconst (v := 0) hx hb dX8_areEnds_22 (by decide) ?_
    exact W.zret (v := 0) hx hb hr rfl (fun t ht hW => ⟨0, rfl, (by first | exact Or.inr (rfl)), ht⟩) (fun q h => by cases h) dX8_areEnds_23 hlk
  · skip
    refine lv_iload_n hx hb dX8_areEnds_6 rfl (lv_at hl 0 rfl) ?_
    refine lv_iload_n hx hb dX8_areEnds_7 rfl (lv_at hl 1 rfl) ?_
    refine lv_icmp_gt (tgt := 22) hx hb dX8_areEnds_8 (by decide) (fun c_2 => ?_) (fun c_2 => ?_)
    · skip
      refine lv_iconst (v := 0) hx hb dX8_areEnds_22 (by decide) ?_
      exact W.zret (v := 0) hx hb hr rfl (fun t ht hW => ⟨0, rfl, (by first | exact Or.inr (rfl)), ht⟩) (fun q h => by cases h) dX8_areEnds_23 hlk
    · skip
      refine lv_iload_n hx hb dX8_areEnds_11 rfl (lv_at hl 1 rfl) ?_
      refine lv_sipush (v := 999) hx hb dX8_areEnds_12 (by decide) ?_
      refine lv_icmp_gt (tgt := 22) hx hb dX8_areEnds_15 (by decide) (fun c_3 => ?_) (fun c_3 => ?_)
      · skip
        refine lv_iconst (v := 0) hx hb dX8_areEnds_22 (by decide) ?_
        exact W.zret (v := 0) hx hb hr rfl (fun t ht hW => ⟨0, rfl, (by first | exact Or.inr (rfl)), ht⟩) (fun q h => by cases h) dX8_areEnds_23 hlk
      · skip
        refine lv_iconst (v := 1) hx hb dX8_areEnds_18 (by decide) ?_
        refine lv_goto (tgt := 23) hx hb dX8_areEnds_19 (by decide) ?_
        exact W.zret (v := 1) hx hb hr rfl (fun t ht hW => ⟨1, rfl, (by first | exact Or.inl rfl), ht⟩) (fun q h => by cases h) dX8_areEnds_23 hlk
set_option maxHeartbeats 4000000 in
set_option maxRecDepth 100000 in
theorem c_X8_together (l : Launch) (D : va_G) (cI cJ cZ cS : ClassId) (ta : Nat) (sa sv : Nat → Nat) (sz : Nat) (p0 : Int32) (p1 : Int32) : Met l yX8_together (Cond.code yX8_together cX8_together 2 (some .int) :: wsU) ({ frames := 0, cells := 0, slots := 0, locals := 0 }) (va_Pc [.int p0, .int p1] (XW D (xT cI cJ cZ cS) ta sa sv [] sz)) (vp_Si (fun r : Int32 => True)) 0 0 (fun _ => False) := by
  refine xh (QA := fun _ => vp_Si (fun r : Int32 => True)) (fr := fun _ _ => False) (by decide) (Nat.le_of_ble_eq_true rfl) ?_
  intro p e s m below meth c ls A hF hr hlk hin hsz hP hK hD hN hZ hA hS hl
  have hF : CallFix p m c cX8_together 2 s _ _ RX8 := hF
  have hx := hF.1
  have hb := hF.2.1
  have hml := hF.2.2.1
  have hown := hF.2.2.2.1
  have hu : ∀ w ∈ wsU, w.before _ s = true := fun w h => hF.2.2.2.2 w (List.mem_cons_of_mem _ h)
  have hl : lv_has ls 2 [(0, .int p0), (1, .int p1)] := hl
  refine lv_iload_n hx hb dX8_together_0 rfl (lv_at hl 0 rfl) ?_
  refine lv_ldc (v := 1000000000) hx hb hown (hu _ uw4) dX8_together_1 ?_
  refine lv_icmp_eq (tgt := 12) hx hb dX8_together_3 (by decide) (fun c_1 => ?_) (fun c_1 => ?_)
  · skip
    refine lv_ldc (v := 1000000000) hx hb hown (hu _ uw4) dX8_together_12 ?_
    refine lv_goto (tgt := 20) hx hb dX8_together_14 (by decide) ?_
    exact W.iret (v := 1000000000) hx hb hr (fun t ht hW => ⟨1000000000, rfl, trivial, ht⟩) (fun q h => by cases h) dX8_together_20 hlk
  · skip
    refine lv_iload_n hx hb dX8_together_6 rfl (lv_at hl 1 rfl) ?_
    refine lv_ldc (v := 1000000000) hx hb hown (hu _ uw4) dX8_together_7 ?_
    refine lv_icmp_ne (tgt := 17) hx hb dX8_together_9 (by decide) (fun c_2 => ?_) (fun c_2 => ?_)
    · skip
      refine lv_iload_n hx hb dX8_together_17 rfl (lv_at hl 0 rfl) ?_
      refine lv_iload_n hx hb dX8_together_18 rfl (lv_at hl 1 rfl) ?_
      refine lv_iadd hx hb dX8_together_19 ?_
      refine lv_topi (fun x_3 ex_3 => ?_)
      exact W.iret (v := x_3) hx hb hr (fun t ht hW => ⟨x_3, rfl, trivial, ht⟩) (fun q h => by cases h) dX8_together_20 hlk
    · skip
      refine lv_ldc (v := 1000000000) hx hb hown (hu _ uw4) dX8_together_12 ?_
      refine lv_goto (tgt := 20) hx hb dX8_together_14 (by decide) ?_
      exact W.iret (v := 1000000000) hx hb hr (fun t ht hW => ⟨1000000000, rfl, trivial, ht⟩) (fun q h => by cases h) dX8_together_20 hlk
set_option maxHeartbeats 4000000 in
set_option maxRecDepth 100000 in
theorem c_J9_floorDiv_7cf53 (l : Launch) (D : va_G) (cI cJ cZ cS : ClassId) (ta : Nat) (sa sv : Nat → Nat) (sz : Nat) (p0 : Int32) : Met l yJ9_floorDiv_7cf53 (Cond.code yJ9_floorDiv_7cf53 cJ9_floorDiv_7cf53 3 (some .int) :: wsU) ({ frames := 0, cells := 0, slots := 0, locals := 0 }) (va_Pc [.int p0, .int 100] (XW D (xT cI cJ cZ cS) ta sa sv [] sz)) (vp_Si (fun r : Int32 => True)) 0 0 (fun _ => False) := by
  refine xh (QA := fun _ => vp_Si (fun r : Int32 => True)) (fr := fun _ _ => False) (by decide +kernel) (Nat.le_of_ble_eq_true rfl) ?_
  intro p e s m below meth c ls A hF hr hlk hin hsz hP hK hD hN hZ hA hS hl
  have hF : CallFix p m c cJ9_floorDiv_7cf53 3 s _ _ RJ9 := hF
  have hx := hF.1
  have hb := hF.2.1
  have hml := hF.2.2.1
  have hown := hF.2.2.2.1
  have hu : ∀ w ∈ wsU, w.before _ s = true := fun w h => hF.2.2.2.2 w (List.mem_cons_of_mem _ h)
  have hl : lv_has ls 3 [(0, .int p0), (1, .int 100)] := hl
  refine lv_iload_n hx hb dJ9_floorDiv_7cf53_0 rfl (lv_at hl 0 rfl) ?_
  refine lv_iload_n hx hb dJ9_floorDiv_7cf53_1 rfl (lv_at hl 1 rfl) ?_
  refine lv_idiv hx hb dJ9_floorDiv_7cf53_2 (by decide) ?_
  refine lv_topi (fun x_1 ex_1 => ?_)
  refine lv_istore_n (lv' := [(2, .int x_1), (0, .int p0), (1, .int 100)]) hx hb dJ9_floorDiv_7cf53_3 rfl hl (by decide) rfl (fun ls hl => ?_)
  refine lv_iload_n hx hb dJ9_floorDiv_7cf53_4 rfl (lv_at hl 1 rfl) ?_
  refine lv_iload_n hx hb dJ9_floorDiv_7cf53_5 rfl (lv_at hl 2 rfl) ?_
  refine lv_ixor hx hb dJ9_floorDiv_7cf53_6 ?_
  refine lv_topi (fun x_2 ex_2 => ?_)
  refine lv_if_ge (tgt := 21) hx hb dJ9_floorDiv_7cf53_7 (by decide) (fun c_3 => ?_) (fun c_3 => ?_)
  · skip
    refine lv_iload_n hx hb dJ9_floorDiv_7cf53_21 rfl (lv_at hl 0 rfl) ?_
    exact W.iret (v := x_1) hx hb hr (fun t ht hW => ⟨x_1, rfl, trivial, ht⟩) (fun q h => by cases h) dJ9_floorDiv_7cf53_22 hlk
  · skip
    refine lv_iload_n hx hb dJ9_floorDiv_7cf53_10 rfl (lv_at hl 0 rfl) ?_
    refine lv_iload_n hx hb dJ9_floorDiv_7cf53_11 rfl (lv_at hl 2 rfl) ?_
    refine lv_imul hx hb dJ9_floorDiv_7cf53_12 ?_
    refine lv_topi (fun x_4 ex_4 => ?_)
    refine lv_iload_n hx hb dJ9_floorDiv_7cf53_13 rfl (lv_at hl 1 rfl) ?_
    refine lv_icmp_eq (tgt := 21) hx hb dJ9_floorDiv_7cf53_14 (by decide) (fun c_5 => ?_) (fun c_5 => ?_)
    · skip
      refine lv_iload_n hx hb dJ9_floorDiv_7cf53_21 rfl (lv_at hl 0 rfl) ?_
      exact W.iret (v := x_1) hx hb hr (fun t ht hW => ⟨x_1, rfl, trivial, ht⟩) (fun q h => by cases h) dJ9_floorDiv_7cf53_22 hlk
    · skip
      refine lv_iload_n hx hb dJ9_floorDiv_7cf53_17 rfl (lv_at hl 0 rfl) ?_
      refine lv_iconst (v := 1) hx hb dJ9_floorDiv_7cf53_18 (by decide) ?_
      refine lv_isub hx hb dJ9_floorDiv_7cf53_19 ?_
      refine lv_topi (fun x_6 ex_6 => ?_)
      exact W.iret (v := x_6) hx hb hr (fun t ht hW => ⟨x_6, rfl, trivial, ht⟩) (fun q h => by cases h) dJ9_floorDiv_7cf53_20 hlk
set_option maxHeartbeats 4000000 in
set_option maxRecDepth 100000 in
theorem c_J9_floorMod_7cf53 (l : Launch) (D : va_G) (cI cJ cZ cS : ClassId) (ta : Nat) (sa sv : Nat → Nat) (sz : Nat) (p0 : Int32) : Met l yJ9_floorMod_7cf53 (Cond.code yJ9_floorMod_7cf53 cJ9_floorMod_7cf53 3 (some .int) :: wsU) ({ frames := 0, cells := 0, slots := 0, locals := 0 }) (va_Pc [.int p0, .int 100] (XW D (xT cI cJ cZ cS) ta sa sv [] sz)) (vp_Si (fun r : Int32 => True)) 0 0 (fun _ => False) := by
  refine xh (QA := fun _ => vp_Si (fun r : Int32 => True)) (fr := fun _ _ => False) (by decide +kernel) (Nat.le_of_ble_eq_true rfl) ?_
  intro p e s m below meth c ls A hF hr hlk hin hsz hP hK hD hN hZ hA hS hl
  have hF : CallFix p m c cJ9_floorMod_7cf53 3 s _ _ RJ9 := hF
  have hx := hF.1
  have hb := hF.2.1
  have hml := hF.2.2.1
  have hown := hF.2.2.2.1
  have hu : ∀ w ∈ wsU, w.before _ s = true := fun w h => hF.2.2.2.2 w (List.mem_cons_of_mem _ h)
  have hl : lv_has ls 3 [(0, .int p0), (1, .int 100)] := hl
  refine lv_iload_n hx hb dJ9_floorMod_7cf53_0 rfl (lv_at hl 0 rfl) ?_
  refine lv_iload_n hx hb dJ9_floorMod_7cf53_1 rfl (lv_at hl 1 rfl) ?_
  refine lv_irem hx hb dJ9_floorMod_7cf53_2 (by decide) ?_
  refine lv_topi (fun x_1 ex_1 => ?_)
  refine lv_istore_n (lv' := [(2, .int x_1), (0, .int p0), (1, .int 100)]) hx hb dJ9_floorMod_7cf53_3 rfl hl (by decide) rfl (fun ls hl => ?_)
  refine lv_iload_n hx hb dJ9_floorMod_7cf53_4 rfl (lv_at hl 1 rfl) ?_
  refine lv_iload_n hx hb dJ9_floorMod_7cf53_5 rfl (lv_at hl 2 rfl) ?_
  refine lv_ixor hx hb dJ9_floorMod_7cf53_6 ?_
  refine lv_topi (fun x_2 ex_2 => ?_)
  refine lv_if_ge (tgt := 18) hx hb dJ9_floorMod_7cf53_7 (by decide) (fun c_3 => ?_) (fun c_3 => ?_)
  · skip
    refine lv_iload_n hx hb dJ9_floorMod_7cf53_18 rfl (lv_at hl 0 rfl) ?_
    exact W.iret (v := x_1) hx hb hr (fun t ht hW => ⟨x_1, rfl, trivial, ht⟩) (fun q h => by cases h) dJ9_floorMod_7cf53_19 hlk
  · skip
    refine lv_iload_n hx hb dJ9_floorMod_7cf53_10 rfl (lv_at hl 0 rfl) ?_
    refine lv_if_eq (tgt := 18) hx hb dJ9_floorMod_7cf53_11 (by decide) (fun c_4 => ?_) (fun c_4 => ?_)
    · skip
      refine lv_iload_n hx hb dJ9_floorMod_7cf53_18 rfl (lv_at hl 0 rfl) ?_
      exact W.iret (v := x_1) hx hb hr (fun t ht hW => ⟨x_1, rfl, trivial, ht⟩) (fun q h => by cases h) dJ9_floorMod_7cf53_19 hlk
    · skip
      refine lv_iload_n hx hb dJ9_floorMod_7cf53_14 rfl (lv_at hl 0 rfl) ?_
      refine lv_iload_n hx hb dJ9_floorMod_7cf53_15 rfl (lv_at hl 2 rfl) ?_
      refine lv_iadd hx hb dJ9_floorMod_7cf53_16 ?_
      refine lv_topi (fun x_5 ex_5 => ?_)
      exact W.iret (v := x_5) hx hb hr (fun t ht hW => ⟨x_5, rfl, trivial, ht⟩) (fun q h => by cases h) dJ9_floorMod_7cf53_17 hlk
set_option maxHeartbeats 4000000 in
set_option maxRecDepth 100000 in
theorem c_X1_isPlace (l : Launch) (D : va_G) (cI cJ cZ cS : ClassId) (ta : Nat) (sa sv : Nat → Nat) (sz : Nat) (h0 : Nat) (ae : Nat) (al : Nat) (au : Nat) (ao : Nat) (ar : Nat) (ak : Nat) (aw : Nat) (att : Nat) (ass : Nat) (P : Nat) (p0 : Int32) (hP0 : P ≤ 10) : Met l yX1_isPlace (Cond.code yX1_isPlace cX1_isPlace 3 (some .boolean) :: wsU) ({ frames := 0, cells := 0, slots := 0, locals := 0 }) (va_Pc [.ref h0, .long p0.toInt64] (XW D (xT cI cJ cZ cS) ta sa sv [(h0, .inr (1, [.int (nI (P)), .ref ae, .ref al, .ref au, .ref ao, .ref ar, .ref ak, .ref aw, .ref att, .ref ass]))] sz)) (vp_Si (fun r : Int32 => (∃ (k : Nat), r = 1 ∧ (p0 = nI k) ∧ (k < P)) ∨ (r = 0))) 0 0 (fun _ => False) := by
  refine xh (QA := fun _ => vp_Si (fun r : Int32 => (∃ (k : Nat), r = 1 ∧ (p0 = nI k) ∧ (k < P)) ∨ (r = 0))) (fr := fun _ _ => False) (by decide) (Nat.le_of_ble_eq_true rfl) ?_
  intro p e s m below meth c ls A hF hr hlk hin hsz hP hK hD hN hZ hA hS hl
  have hF : CallFix p m c cX1_isPlace 3 s _ _ RX1 := hF
  have hx := hF.1
  have hb := hF.2.1
  have hml := hF.2.2.1
  have hown := hF.2.2.2.1
  have hu : ∀ w ∈ wsU, w.before _ s = true := fun w h => hF.2.2.2.2 w (List.mem_cons_of_mem _ h)
  have hl : lv_has ls 3 [(0, .ref h0), (1, .long p0.toInt64)] := hl
  refine lv_lload_n hx hb dX1_isPlace_0 rfl (lv_at hl 1 rfl) ?_
  refine lv_lconst (v := 0) hx hb dX1_isPlace_1 (by decide) ?_
  refine W.lcmp hx hb dX1_isPlace_2 ?_
  refine lv_if_lt (tgt := 20) hx hb dX1_isPlace_3 (by decide) (fun c_1 => ?_) (fun c_1 => ?_)
  · skip
    refine lv_iconst (v := 0) hx hb dX1_isPlace_20 (by decide) ?_
    exact W.zret (v := 0) hx hb hr rfl (fun t ht hW => ⟨0, rfl, Or.inr rfl, ht⟩) (fun q h => by cases h) dX1_isPlace_21 hlk
  · skip
    refine lv_lload_n hx hb dX1_isPlace_6 rfl (lv_at hl 1 rfl) ?_
    refine lv_aload_n hx hb dX1_isPlace_7 rfl (lv_at hl 0 rfl) ?_
    refine xg hF kf_X1_9 hK hP 0 rfl rfl dX1_isPlace_8 ?_
    refine lv_i2l (v := (nI (P)).toInt64) hx hb dX1_isPlace_11 rfl ?_
    refine W.lcmp hx hb dX1_isPlace_12 ?_
    refine lv_if_ge (tgt := 20) hx hb dX1_isPlace_13 (by decide) (fun c_2 => ?_) (fun c_2 => ?_)
    · skip
      refine lv_iconst (v := 0) hx hb dX1_isPlace_20 (by decide) ?_
      exact W.zret (v := 0) hx hb hr rfl (fun t ht hW => ⟨0, rfl, Or.inr rfl, ht⟩) (fun q h => by cases h) dX1_isPlace_21 hlk
    · skip
      refine lv_iconst (v := 1) hx hb dX1_isPlace_16 (by decide) ?_
      refine lv_goto (tgt := 21) hx hb dX1_isPlace_17 (by decide) ?_
      exact W.zret (v := 1) hx hb hr rfl (fun t ht hW => ⟨1, rfl, Or.inl (x_place (by omega) c_1 c_2), ht⟩) (fun q h => by cases h) dX1_isPlace_21 hlk
set_option maxHeartbeats 4000000 in
set_option maxRecDepth 100000 in
theorem c_X1_areTwo (l : Launch) (D : va_G) (cI cJ cZ cS : ClassId) (ta : Nat) (sa sv : Nat → Nat) (sz : Nat) (h0 : Nat) (ae : Nat) (al : Nat) (au : Nat) (ao : Nat) (ar : Nat) (ak : Nat) (aw : Nat) (att : Nat) (ass : Nat) (P : Nat) (p0 : Int32) (p1 : Int32) (hP0 : P ≤ 10) : Met l yX1_areTwo (Cond.code yX1_areTwo cX1_areTwo 3 (some .boolean) :: wsU) ({ frames := 1, cells := 0, slots := 0, locals := 22 }) (va_Pc [.ref h0, .int p0, .int p1] (XW D (xT cI cJ cZ cS) ta sa sv [(h0, .inr (1, [.int (nI (P)), .ref ae, .ref al, .ref au, .ref ao, .ref ar, .ref ak, .ref aw, .ref att, .ref ass]))] sz)) (vp_Si (fun r : Int32 => (∃ (j : Nat) (k : Nat), r = 1 ∧ (p0 = nI j) ∧ (p1 = nI k) ∧ (j < P) ∧ (k < P) ∧ (j ≠ k)) ∨ (r = 0))) 0 0 (fun _ => False) := by
  refine xh (QA := fun _ => vp_Si (fun r : Int32 => (∃ (j : Nat) (k : Nat), r = 1 ∧ (p0 = nI j) ∧ (p1 = nI k) ∧ (j < P) ∧ (k < P) ∧ (j ≠ k)) ∨ (r = 0))) (fr := fun _ _ => False) (by decide) (Nat.le_of_ble_eq_true rfl) ?_
  intro p e s m below meth c ls A hF hr hlk hin hsz hP hK hD hN hZ hA hS hl
  have hF : CallFix p m c cX1_areTwo 3 s _ _ RX1 := hF
  have hx := hF.1
  have hb := hF.2.1
  have hml := hF.2.2.1
  have hown := hF.2.2.2.1
  have hu : ∀ w ∈ wsU, w.before _ s = true := fun w h => hF.2.2.2.2 w (List.mem_cons_of_mem _ h)
  have hl : lv_has ls 3 [(0, .ref h0), (1, .int p0), (2, .int p1)] := hl
  refine lv_aload_n hx hb dX1_areTwo_0 rfl (lv_at hl 0 rfl) ?_
  refine lv_iload_n hx hb dX1_areTwo_1 rfl (lv_at hl 1 rfl) ?_
  refine lv_i2l (v := p0.toInt64) hx hb dX1_areTwo_2 rfl ?_
  refine xc_Vr hF (c_X1_isPlace l D cI cJ cZ cS ta sa sv s.heap.size h0 ae al au ao ar ak aw att ass P p0 (by omega)) kv_X1_57 ⟨rfl, rfl, Nat.le_of_ble_eq_true rfl, Nat.le_of_ble_eq_true rfl⟩ ⟨Nat.le_of_ble_eq_true rfl, Nat.le_of_ble_eq_true rfl⟩ hK hN hZ hP hD hS hA [0] rfl rfl 0 rfl rfl rfl rfl hl.1 rfl (Nat.le_of_ble_eq_true rfl) dX1_areTwo_3 (fun r_1 hw_r_1 => ?_)
  rcases hw_r_1 with ⟨k_2, rfl, rfl, h_4⟩ | rfl
  · skip
    refine lv_if_eq (tgt := 27) hx hb dX1_areTwo_6 (by decide) (fun c_5 => absurd c_5 (by decide)) (fun c_5 => ?_)
    refine lv_aload_n hx hb dX1_areTwo_9 rfl (lv_at hl 0 rfl) ?_
    refine lv_iload_n hx hb dX1_areTwo_10 rfl (lv_at hl 2 rfl) ?_
    refine lv_i2l (v := p1.toInt64) hx hb dX1_areTwo_11 rfl ?_
    refine xc_Vr hF (c_X1_isPlace l D cI cJ cZ cS ta sa sv s.heap.size h0 ae al au ao ar ak aw att ass P p1 (by omega)) kv_X1_57 ⟨rfl, rfl, Nat.le_of_ble_eq_true rfl, Nat.le_of_ble_eq_true rfl⟩ ⟨Nat.le_of_ble_eq_true rfl, Nat.le_of_ble_eq_true rfl⟩ hK hN hZ hP hD hS hA [0] rfl rfl 0 rfl rfl rfl rfl hl.1 rfl (Nat.le_of_ble_eq_true rfl) dX1_areTwo_12 (fun r_6 hw_r_6 => ?_)
    rcases hw_r_6 with ⟨k_7, rfl, rfl, h_9⟩ | rfl
    · skip
      refine lv_if_eq (tgt := 27) hx hb dX1_areTwo_15 (by decide) (fun c_10 => absurd c_10 (by decide)) (fun c_10 => ?_)
      refine lv_iload_n hx hb dX1_areTwo_18 rfl (lv_at hl 1 rfl) ?_
      refine lv_iload_n hx hb dX1_areTwo_19 rfl (lv_at hl 2 rfl) ?_
      refine lv_icmp_eq (tgt := 27) hx hb dX1_areTwo_20 (by decide) (fun c_11 => ?_) (fun c_11 => ?_)
      · skip
        have nc_11 : k_2 = k_7 := xn_eq (a := k_2) (b := k_7) (by omega) (by omega) c_11
        refine lv_iconst (v := 0) hx hb dX1_areTwo_27 (by decide) ?_
        exact W.zret (v := 0) hx hb hr rfl (fun t ht hW => ⟨0, rfl, Or.inr rfl, ht⟩) (fun q h => by cases h) dX1_areTwo_28 hlk
      · skip
        have nc_11 : k_2 ≠ k_7 := xn_ne (a := k_2) (b := k_7) (by omega) (by omega) c_11
        refine lv_iconst (v := 1) hx hb dX1_areTwo_23 (by decide) ?_
        refine lv_goto (tgt := 28) hx hb dX1_areTwo_24 (by decide) ?_
        exact W.zret (v := 1) hx hb hr rfl (fun t ht hW => ⟨1, rfl, Or.inl ⟨k_2, k_7, rfl, rfl, rfl, by omega, by omega, by omega⟩, ht⟩) (fun q h => by cases h) dX1_areTwo_28 hlk
    · skip
      refine lv_if_eq (tgt := 27) hx hb dX1_areTwo_15 (by decide) (fun c_12 => ?_) (fun c_12 => absurd (by decide) c_12)
      refine lv_iconst (v := 0) hx hb dX1_areTwo_27 (by decide) ?_
      exact W.zret (v := 0) hx hb hr rfl (fun t ht hW => ⟨0, rfl, Or.inr rfl, ht⟩) (fun q h => by cases h) dX1_areTwo_28 hlk
  · skip
    refine lv_if_eq (tgt := 27) hx hb dX1_areTwo_6 (by decide) (fun c_13 => ?_) (fun c_13 => absurd (by decide) c_13)
    refine lv_iconst (v := 0) hx hb dX1_areTwo_27 (by decide) ?_
    exact W.zret (v := 0) hx hb hr rfl (fun t ht hW => ⟨0, rfl, Or.inr rfl, ht⟩) (fun q h => by cases h) dX1_areTwo_28 hlk
set_option maxHeartbeats 4000000 in
set_option maxRecDepth 100000 in
theorem c_X1_wayAt (l : Launch) (D : va_G) (cI cJ cZ cS : ClassId) (ta : Nat) (sa sv : Nat → Nat) (sz : Nat) (j : Nat) (k : Nat) : Met l yX1_wayAt (Cond.code yX1_wayAt cX1_wayAt 2 (some .int) :: wsU) ({ frames := 0, cells := 0, slots := 0, locals := 0 }) (va_Pc [.int (nI (j)), .int (nI (k))] (XW D (xT cI cJ cZ cS) ta sa sv [] sz)) (vp_Si (fun r : Int32 => (r = nI (10 * j + k)))) 0 0 (fun _ => False) := by
  refine xh (QA := fun _ => vp_Si (fun r : Int32 => (r = nI (10 * j + k)))) (fr := fun _ _ => False) (by decide) (Nat.le_of_ble_eq_true rfl) ?_
  intro p e s m below meth c ls A hF hr hlk hin hsz hP hK hD hN hZ hA hS hl
  have hF : CallFix p m c cX1_wayAt 2 s _ _ RX1 := hF
  have hx := hF.1
  have hb := hF.2.1
  have hml := hF.2.2.1
  have hown := hF.2.2.2.1
  have hu : ∀ w ∈ wsU, w.before _ s = true := fun w h => hF.2.2.2.2 w (List.mem_cons_of_mem _ h)
  have hl : lv_has ls 2 [(0, .int (nI (j))), (1, .int (nI (k)))] := hl
  refine lv_bipush (v := 10) hx hb dX1_wayAt_0 (by decide) ?_
  refine lv_iload_n hx hb dX1_wayAt_2 rfl (lv_at hl 0 rfl) ?_
  refine lv_imul hx hb dX1_wayAt_3 ?_
  refine xl_i (y := nI (10 * j)) (pk_mul 10 j) ?_
  refine lv_iload_n hx hb dX1_wayAt_4 rfl (lv_at hl 1 rfl) ?_
  refine lv_iadd hx hb dX1_wayAt_5 ?_
  refine xl_i (y := nI (10 * j + k)) (nI_add (10 * j) k) ?_
  exact W.iret (v := nI (10 * j + k)) hx hb hr (fun t ht hW => ⟨nI (10 * j + k), rfl, (by first | exact rfl), ht⟩) (fun q h => by cases h) dX1_wayAt_6 hlk
set_option maxHeartbeats 4000000 in
set_option maxRecDepth 100000 in
theorem c_X1_isThere (l : Launch) (D : va_G) (cI cJ cZ cS : ClassId) (ta : Nat) (sa sv : Nat → Nat) (sz : Nat) (h0 : Nat) (ae : Nat) (al : Nat) (au : Nat) (ao : Nat) (ar : Nat) (ak : Nat) (aw : Nat) (att : Nat) (ass : Nat) (P : Nat) (j : Nat) (k : Nat) (d : Nat → Int32) (hj : j < 10) (hk : k < 10) : Met l yX1_isThere (Cond.code yX1_isThere cX1_isThere 3 (some .boolean) :: wsU) ({ frames := 1, cells := 0, slots := 0, locals := 21 }) (va_Pc [.ref h0, .int (nI (j)), .int (nI (k))] (XW D (xT cI cJ cZ cS) ta sa sv [(h0, .inr (1, [.int (nI (P)), .ref ae, .ref al, .ref au, .ref ao, .ref ar, .ref ak, .ref aw, .ref att, .ref ass])), (ao, .inl (cI, 100, .inl d))] sz)) (vp_Si (fun r : Int32 => (r = 1 ∧ (¬ d (10 * j + k) = 0)) ∨ (r = 0 ∧ (d (10 * j + k) = 0)))) 0 0 (fun _ => False) := by
  refine xh (QA := fun _ => vp_Si (fun r : Int32 => (r = 1 ∧ (¬ d (10 * j + k) = 0)) ∨ (r = 0 ∧ (d (10 * j + k) = 0)))) (fr := fun _ _ => False) (by decide) (Nat.le_of_ble_eq_true rfl) ?_
  intro p e s m below meth c ls A hF hr hlk hin hsz hP hK hD hN hZ hA hS hl
  have hF : CallFix p m c cX1_isThere 3 s _ _ RX1 := hF
  have hx := hF.1
  have hb := hF.2.1
  have hml := hF.2.2.1
  have hown := hF.2.2.2.1
  have hu : ∀ w ∈ wsU, w.before _ s = true := fun w h => hF.2.2.2.2 w (List.mem_cons_of_mem _ h)
  have hl : lv_has ls 3 [(0, .ref h0), (1, .int (nI (j))), (2, .int (nI (k)))] := hl
  refine lv_aload_n hx hb dX1_isThere_0 rfl (lv_at hl 0 rfl) ?_
  refine xg hF kf_X1_25 hK hP 0 rfl rfl dX1_isThere_1 ?_
  refine lv_iload_n hx hb dX1_isThere_4 rfl (lv_at hl 1 rfl) ?_
  refine lv_iload_n hx hb dX1_isThere_5 rfl (lv_at hl 2 rfl) ?_
  refine xc_Sr hF (c_X1_wayAt l D cI cJ cZ cS ta sa sv s.heap.size j k ) ks_X1_61 ⟨rfl, rfl, Nat.le_of_ble_eq_true rfl, Nat.le_of_ble_eq_true rfl⟩ ⟨Nat.le_of_ble_eq_true rfl, Nat.le_of_ble_eq_true rfl⟩ hK hN hZ hP hD hS hA [] rfl rfl rfl hl.1 rfl (Nat.le_of_ble_eq_true rfl) dX1_isThere_6 (fun r_1 hw_r_1 => ?_)
  subst hw_r_1
  refine va_iald hx hb hK hP 1 0 rfl rfl (vp_in_nI (show 10 * j + k < 100 by omega) (by decide)) dX1_isThere_9 ?_
  refine xl_i (y := d (10 * j + k)) (congrArg d (nI_clamp (show 10 * j + k < 2 ^ 31 by omega))) ?_
  refine lv_if_eq (tgt := 17) hx hb dX1_isThere_10 (by decide) (fun c_2 => ?_) (fun c_2 => ?_)
  · skip
    refine lv_iconst (v := 0) hx hb dX1_isThere_17 (by decide) ?_
    exact W.zret (v := 0) hx hb hr rfl (fun t ht hW => ⟨0, rfl, (by first | exact Or.inr (⟨rfl, (by first | assumption | omega | exact Or.inl (by first | assumption | omega) | exact Or.inr (by first | assumption | omega))⟩)), ht⟩) (fun q h => by cases h) dX1_isThere_18 hlk
  · skip
    refine lv_iconst (v := 1) hx hb dX1_isThere_13 (by decide) ?_
    refine lv_goto (tgt := 18) hx hb dX1_isThere_14 (by decide) ?_
    exact W.zret (v := 1) hx hb hr rfl (fun t ht hW => ⟨1, rfl, (by first | exact Or.inl ⟨rfl, (by first | assumption | omega | exact Or.inl (by first | assumption | omega) | exact Or.inr (by first | assumption | omega))⟩), ht⟩) (fun q h => by cases h) dX1_isThere_18 hlk
set_option maxHeartbeats 4000000 in
set_option maxRecDepth 100000 in
theorem c_X1_isOpen (l : Launch) (D : va_G) (cI cJ cZ cS : ClassId) (ta : Nat) (sa sv : Nat → Nat) (sz : Nat) (h0 : Nat) (ae : Nat) (al : Nat) (au : Nat) (ao : Nat) (ar : Nat) (ak : Nat) (aw : Nat) (att : Nat) (ass : Nat) (P : Nat) (j : Nat) (k : Nat) (d : Nat → Int32) (hj : j < 10) (hk : k < 10) : Met l yX1_isOpen (Cond.code yX1_isOpen cX1_isOpen 3 (some .boolean) :: wsU) ({ frames := 1, cells := 0, slots := 0, locals := 21 }) (va_Pc [.ref h0, .int (nI (j)), .int (nI (k))] (XW D (xT cI cJ cZ cS) ta sa sv [(h0, .inr (1, [.int (nI (P)), .ref ae, .ref al, .ref au, .ref ao, .ref ar, .ref ak, .ref aw, .ref att, .ref ass])), (ao, .inl (cI, 100, .inl d))] sz)) (vp_Si (fun r : Int32 => (r = 1 ∧ (d (10 * j + k) = 1)) ∨ (r = 0 ∧ (¬ d (10 * j + k) = 1)))) 0 0 (fun _ => False) := by
  refine xh (QA := fun _ => vp_Si (fun r : Int32 => (r = 1 ∧ (d (10 * j + k) = 1)) ∨ (r = 0 ∧ (¬ d (10 * j + k) = 1)))) (fr := fun _ _ => False) (by decide) (Nat.le_of_ble_eq_true rfl) ?_
  intro p e s m below meth c ls A hF hr hlk hin hsz hP hK hD hN hZ hA hS hl
  have hF : CallFix p m c cX1_isOpen 3 s _ _ RX1 := hF
  have hx := hF.1
  have hb := hF.2.1
  have hml := hF.2.2.1
  have hown := hF.2.2.2.1
  have hu : ∀ w ∈ wsU, w.before _ s = true := fun w h => hF.2.2.2.2 w (List.mem_cons_of_mem _ h)
  have hl : lv_has ls 3 [(0, .ref h0), (1, .int (nI (j))), (2, .int (nI (k)))] := hl
  refine lv_aload_n hx hb dX1_isOpen_0 rfl (lv_at hl 0 rfl) ?_
  refine xg hF kf_X1_25 hK hP 0 rfl rfl dX1_isOpen_1 ?_
  refine lv_iload_n hx hb dX1_isOpen_4 rfl (lv_at hl 1 rfl) ?_
  refine lv_iload_n hx hb dX1_isOpen_5 rfl (lv_at hl 2 rfl) ?_
  refine xc_Sr hF (c_X1_wayAt l D cI cJ cZ cS ta sa sv s.heap.size j k ) ks_X1_61 ⟨rfl, rfl, Nat.le_of_ble_eq_true rfl, Nat.le_of_ble_eq_true rfl⟩ ⟨Nat.le_of_ble_eq_true rfl, Nat.le_of_ble_eq_true rfl⟩ hK hN hZ hP hD hS hA [] rfl rfl rfl hl.1 rfl (Nat.le_of_ble_eq_true rfl) dX1_isOpen_6 (fun r_1 hw_r_1 => ?_)
  subst hw_r_1
  refine va_iald hx hb hK hP 1 0 rfl rfl (vp_in_nI (show 10 * j + k < 100 by omega) (by decide)) dX1_isOpen_9 ?_
  refine xl_i (y := d (10 * j + k)) (congrArg d (nI_clamp (show 10 * j + k < 2 ^ 31 by omega))) ?_
  refine lv_iconst (v := 1) hx hb dX1_isOpen_10 (by decide) ?_
  refine lv_icmp_ne (tgt := 18) hx hb dX1_isOpen_11 (by decide) (fun c_2 => ?_) (fun c_2 => ?_)
  · skip
    refine lv_iconst (v := 0) hx hb dX1_isOpen_18 (by decide) ?_
    exact W.zret (v := 0) hx hb hr rfl (fun t ht hW => ⟨0, rfl, (by first | exact Or.inr (⟨rfl, (by first | assumption | omega | exact Or.inl (by first | assumption | omega) | exact Or.inr (by first | assumption | omega))⟩)), ht⟩) (fun q h => by cases h) dX1_isOpen_19 hlk
  · skip
    refine lv_iconst (v := 1) hx hb dX1_isOpen_14 (by decide) ?_
    refine lv_goto (tgt := 19) hx hb dX1_isOpen_15 (by decide) ?_
    exact W.zret (v := 1) hx hb hr rfl (fun t ht hW => ⟨1, rfl, (by first | exact Or.inl ⟨rfl, (by first | assumption | omega | exact Or.inl (by first | assumption | omega) | exact Or.inr (by first | assumption | omega))⟩), ht⟩) (fun q h => by cases h) dX1_isOpen_19 hlk
set_option maxHeartbeats 4000000 in
set_option maxRecDepth 100000 in
theorem c_X1_lowOf (l : Launch) (D : va_G) (cI cJ cZ cS : ClassId) (ta : Nat) (sa sv : Nat → Nat) (sz : Nat) (h0 : Nat) (ae : Nat) (al : Nat) (au : Nat) (ao : Nat) (ar : Nat) (ak : Nat) (aw : Nat) (att : Nat) (ass : Nat) (P : Nat) (j : Nat) (k : Nat) (d : Nat → Int32) (hj : j < 10) (hk : k < 10) : Met l yX1_lowOf (Cond.code yX1_lowOf cX1_lowOf 3 (some .int) :: wsU) ({ frames := 1, cells := 0, slots := 0, locals := 21 }) (va_Pc [.ref h0, .int (nI (j)), .int (nI (k))] (XW D (xT cI cJ cZ cS) ta sa sv [(h0, .inr (1, [.int (nI (P)), .ref ae, .ref al, .ref au, .ref ao, .ref ar, .ref ak, .ref aw, .ref att, .ref ass])), (al, .inl (cI, 100, .inl d))] sz)) (vp_Si (fun r : Int32 => (r = d (10 * j + k)))) 0 0 (fun _ => False) := by
  refine xh (QA := fun _ => vp_Si (fun r : Int32 => (r = d (10 * j + k)))) (fr := fun _ _ => False) (by decide) (Nat.le_of_ble_eq_true rfl) ?_
  intro p e s m below meth c ls A hF hr hlk hin hsz hP hK hD hN hZ hA hS hl
  have hF : CallFix p m c cX1_lowOf 3 s _ _ RX1 := hF
  have hx := hF.1
  have hb := hF.2.1
  have hml := hF.2.2.1
  have hown := hF.2.2.2.1
  have hu : ∀ w ∈ wsU, w.before _ s = true := fun w h => hF.2.2.2.2 w (List.mem_cons_of_mem _ h)
  have hl : lv_has ls 3 [(0, .ref h0), (1, .int (nI (j))), (2, .int (nI (k)))] := hl
  refine lv_aload_n hx hb dX1_lowOf_0 rfl (lv_at hl 0 rfl) ?_
  refine xg hF kf_X1_19 hK hP 0 rfl rfl dX1_lowOf_1 ?_
  refine lv_iload_n hx hb dX1_lowOf_4 rfl (lv_at hl 1 rfl) ?_
  refine lv_iload_n hx hb dX1_lowOf_5 rfl (lv_at hl 2 rfl) ?_
  refine xc_Sr hF (c_X1_wayAt l D cI cJ cZ cS ta sa sv s.heap.size j k ) ks_X1_61 ⟨rfl, rfl, Nat.le_of_ble_eq_true rfl, Nat.le_of_ble_eq_true rfl⟩ ⟨Nat.le_of_ble_eq_true rfl, Nat.le_of_ble_eq_true rfl⟩ hK hN hZ hP hD hS hA [] rfl rfl rfl hl.1 rfl (Nat.le_of_ble_eq_true rfl) dX1_lowOf_6 (fun r_1 hw_r_1 => ?_)
  subst hw_r_1
  refine va_iald hx hb hK hP 1 0 rfl rfl (vp_in_nI (show 10 * j + k < 100 by omega) (by decide)) dX1_lowOf_9 ?_
  refine xl_i (y := d (10 * j + k)) (congrArg d (nI_clamp (show 10 * j + k < 2 ^ 31 by omega))) ?_
  exact W.iret (v := d (10 * j + k)) hx hb hr (fun t ht hW => ⟨d (10 * j + k), rfl, (by first | exact rfl), ht⟩) (fun q h => by cases h) dX1_lowOf_10 hlk
set_option maxHeartbeats 4000000 in
set_option maxRecDepth 100000 in
theorem c_X1_highOf (l : Launch) (D : va_G) (cI cJ cZ cS : ClassId) (ta : Nat) (sa sv : Nat → Nat) (sz : Nat) (h0 : Nat) (ae : Nat) (al : Nat) (au : Nat) (ao : Nat) (ar : Nat) (ak : Nat) (aw : Nat) (att : Nat) (ass : Nat) (P : Nat) (j : Nat) (k : Nat) (d : Nat → Int32) (hj : j < 10) (hk : k < 10) : Met l yX1_highOf (Cond.code yX1_highOf cX1_highOf 3 (some .int) :: wsU) ({ frames := 1, cells := 0, slots := 0, locals := 21 }) (va_Pc [.ref h0, .int (nI (j)), .int (nI (k))] (XW D (xT cI cJ cZ cS) ta sa sv [(h0, .inr (1, [.int (nI (P)), .ref ae, .ref al, .ref au, .ref ao, .ref ar, .ref ak, .ref aw, .ref att, .ref ass])), (au, .inl (cI, 100, .inl d))] sz)) (vp_Si (fun r : Int32 => (r = d (10 * j + k)))) 0 0 (fun _ => False) := by
  refine xh (QA := fun _ => vp_Si (fun r : Int32 => (r = d (10 * j + k)))) (fr := fun _ _ => False) (by decide) (Nat.le_of_ble_eq_true rfl) ?_
  intro p e s m below meth c ls A hF hr hlk hin hsz hP hK hD hN hZ hA hS hl
  have hF : CallFix p m c cX1_highOf 3 s _ _ RX1 := hF
  have hx := hF.1
  have hb := hF.2.1
  have hml := hF.2.2.1
  have hown := hF.2.2.2.1
  have hu : ∀ w ∈ wsU, w.before _ s = true := fun w h => hF.2.2.2.2 w (List.mem_cons_of_mem _ h)
  have hl : lv_has ls 3 [(0, .ref h0), (1, .int (nI (j))), (2, .int (nI (k)))] := hl
  refine lv_aload_n hx hb dX1_highOf_0 rfl (lv_at hl 0 rfl) ?_
  refine xg hF kf_X1_22 hK hP 0 rfl rfl dX1_highOf_1 ?_
  refine lv_iload_n hx hb dX1_highOf_4 rfl (lv_at hl 1 rfl) ?_
  refine lv_iload_n hx hb dX1_highOf_5 rfl (lv_at hl 2 rfl) ?_
  refine xc_Sr hF (c_X1_wayAt l D cI cJ cZ cS ta sa sv s.heap.size j k ) ks_X1_61 ⟨rfl, rfl, Nat.le_of_ble_eq_true rfl, Nat.le_of_ble_eq_true rfl⟩ ⟨Nat.le_of_ble_eq_true rfl, Nat.le_of_ble_eq_true rfl⟩ hK hN hZ hP hD hS hA [] rfl rfl rfl hl.1 rfl (Nat.le_of_ble_eq_true rfl) dX1_highOf_6 (fun r_1 hw_r_1 => ?_)
  subst hw_r_1
  refine va_iald hx hb hK hP 1 0 rfl rfl (vp_in_nI (show 10 * j + k < 100 by omega) (by decide)) dX1_highOf_9 ?_
  refine xl_i (y := d (10 * j + k)) (congrArg d (nI_clamp (show 10 * j + k < 2 ^ 31 by omega))) ?_
  exact W.iret (v := d (10 * j + k)) hx hb hr (fun t ht hW => ⟨d (10 * j + k), rfl, (by first | exact rfl), ht⟩) (fun q h => by cases h) dX1_highOf_10 hlk
set_option maxHeartbeats 4000000 in
set_option maxRecDepth 100000 in
theorem c_X1_areBothWays (l : Launch) (D : va_G) (cI cJ cZ cS : ClassId) (ta : Nat) (sa sv : Nat → Nat) (sz : Nat) (h0 : Nat) (ae : Nat) (al : Nat) (au : Nat) (ao : Nat) (ar : Nat) (ak : Nat) (aw : Nat) (att : Nat) (ass : Nat) (P : Nat) (j : Nat) (k : Nat) (d : Nat → Int32) (hj : j < 10) (hk : k < 10) : Met l yX1_areBothWays (Cond.code yX1_areBothWays cX1_areBothWays 3 (some .boolean) :: wsU) ({ frames := 2, cells := 0, slots := 0, locals := 43 }) (va_Pc [.ref h0, .int (nI (j)), .int (nI (k))] (XW D (xT cI cJ cZ cS) ta sa sv [(h0, .inr (1, [.int (nI (P)), .ref ae, .ref al, .ref au, .ref ao, .ref ar, .ref ak, .ref aw, .ref att, .ref ass])), (ao, .inl (cI, 100, .inl d))] sz)) (vp_Si (fun r : Int32 => (r = 1) ∨ (r = 0))) 0 0 (fun _ => False) := by
  refine xh (QA := fun _ => vp_Si (fun r : Int32 => (r = 1) ∨ (r = 0))) (fr := fun _ _ => False) (by decide) (Nat.le_of_ble_eq_true rfl) ?_
  intro p e s m below meth c ls A hF hr hlk hin hsz hP hK hD hN hZ hA hS hl
  have hF : CallFix p m c cX1_areBothWays 3 s _ _ RX1 := hF
  have hx := hF.1
  have hb := hF.2.1
  have hml := hF.2.2.1
  have hown := hF.2.2.2.1
  have hu : ∀ w ∈ wsU, w.before _ s = true := fun w h => hF.2.2.2.2 w (List.mem_cons_of_mem _ h)
  have hl : lv_has ls 3 [(0, .ref h0), (1, .int (nI (j))), (2, .int (nI (k)))] := hl
  refine lv_aload_n hx hb dX1_areBothWays_0 rfl (lv_at hl 0 rfl) ?_
  refine lv_iload_n hx hb dX1_areBothWays_1 rfl (lv_at hl 1 rfl) ?_
  refine lv_iload_n hx hb dX1_areBothWays_2 rfl (lv_at hl 2 rfl) ?_
  refine xc_Vr hF (c_X1_isOpen l D cI cJ cZ cS ta sa sv s.heap.size h0 ae al au ao ar ak aw att ass P j k d (by omega) (by omega)) kv_X1_65 ⟨rfl, rfl, Nat.le_of_ble_eq_true rfl, Nat.le_of_ble_eq_true rfl⟩ ⟨Nat.le_of_ble_eq_true rfl, Nat.le_of_ble_eq_true rfl⟩ hK hN hZ hP hD hS hA [0, 1] rfl rfl 0 rfl rfl rfl rfl hl.1 rfl (Nat.le_of_ble_eq_true rfl) dX1_areBothWays_3 (fun r_1 hw_r_1 => ?_)
  rcases hw_r_1 with ⟨rfl, h_2⟩ | ⟨rfl, h_3⟩
  · skip
    refine lv_if_eq (tgt := 22) hx hb dX1_areBothWays_6 (by decide) (fun c_4 => absurd c_4 (by decide)) (fun c_4 => ?_)
    refine lv_aload_n hx hb dX1_areBothWays_9 rfl (lv_at hl 0 rfl) ?_
    refine lv_iload_n hx hb dX1_areBothWays_10 rfl (lv_at hl 2 rfl) ?_
    refine lv_iload_n hx hb dX1_areBothWays_11 rfl (lv_at hl 1 rfl) ?_
    refine xc_Vr hF (c_X1_isOpen l D cI cJ cZ cS ta sa sv s.heap.size h0 ae al au ao ar ak aw att ass P k j d (by omega) (by omega)) kv_X1_65 ⟨rfl, rfl, Nat.le_of_ble_eq_true rfl, Nat.le_of_ble_eq_true rfl⟩ ⟨Nat.le_of_ble_eq_true rfl, Nat.le_of_ble_eq_true rfl⟩ hK hN hZ hP hD hS hA [0, 1] rfl rfl 0 rfl rfl rfl rfl hl.1 rfl (Nat.le_of_ble_eq_true rfl) dX1_areBothWays_12 (fun r_5 hw_r_5 => ?_)
    rcases hw_r_5 with ⟨rfl, h_6⟩ | ⟨rfl, h_7⟩
    · skip
      refine lv_if_eq (tgt := 22) hx hb dX1_areBothWays_15 (by decide) (fun c_8 => absurd c_8 (by decide)) (fun c_8 => ?_)
      refine lv_iconst (v := 1) hx hb dX1_areBothWays_18 (by decide) ?_
      refine lv_goto (tgt := 23) hx hb dX1_areBothWays_19 (by decide) ?_
      exact W.zret (v := 1) hx hb hr rfl (fun t ht hW => ⟨1, rfl, (by first | exact Or.inl rfl), ht⟩) (fun q h => by cases h) dX1_areBothWays_23 hlk
    · skip
      refine lv_if_eq (tgt := 22) hx hb dX1_areBothWays_15 (by decide) (fun c_9 => ?_) (fun c_9 => absurd (by decide) c_9)
      refine lv_iconst (v := 0) hx hb dX1_areBothWays_22 (by decide) ?_
      exact W.zret (v := 0) hx hb hr rfl (fun t ht hW => ⟨0, rfl, (by first | exact Or.inr (rfl)), ht⟩) (fun q h => by cases h) dX1_areBothWays_23 hlk
  · skip
    refine lv_if_eq (tgt := 22) hx hb dX1_areBothWays_6 (by decide) (fun c_10 => ?_) (fun c_10 => absurd (by decide) c_10)
    refine lv_iconst (v := 0) hx hb dX1_areBothWays_22 (by decide) ?_
    exact W.zret (v := 0) hx hb hr rfl (fun t ht hW => ⟨0, rfl, (by first | exact Or.inr (rfl)), ht⟩) (fun q h => by cases h) dX1_areBothWays_23 hlk
set_option maxHeartbeats 4000000 in
set_option maxRecDepth 100000 in
theorem c_X1_addPlace (l : Launch) (D : va_G) (cI cJ cZ cS : ClassId) (ta : Nat) (sa sv : Nat → Nat) (sz : Nat) (h0 : Nat) (ae : Nat) (al : Nat) (au : Nat) (ao : Nat) (ar : Nat) (ak : Nat) (aw : Nat) (att : Nat) (ass : Nat) (P : Nat) (er : Nat → Int32) (p0 : Int32) (hP0 : P < 10) : Met l yX1_addPlace (Cond.code yX1_addPlace cX1_addPlace 3 (some .int) :: wsU) ({ frames := 0, cells := 0, slots := 0, locals := 0 }) (va_Pc [.ref h0, .int p0] (XW D (xT cI cJ cZ cS) ta sa sv [(h0, .inr (1, [.int (nI (P)), .ref ae, .ref al, .ref au, .ref ao, .ref ar, .ref ak, .ref aw, .ref att, .ref ass])), (ae, .inl (cI, 10, .inl er))] sz)) (XQi (fun (r : Int32) (e2 : (Nat → Int32)) => ((r = nI (P))) ∧ (e2 = upd er P p0)) D (fun (e2 : Nat → Int32) => [(h0, .inr (1, [.int (nI (P + 1)), .ref ae, .ref al, .ref au, .ref ao, .ref ar, .ref ak, .ref aw, .ref att, .ref ass])), (ae, .inl (cI, 10, .inl e2))]) (va_A [(h0, .inr (1, [.int (nI (P)), .ref ae, .ref al, .ref au, .ref ao, .ref ar, .ref ak, .ref aw, .ref att, .ref ass])), (ae, .inl (cI, 10, .inl er))] sz)) 0 0 (va_A [(h0, .inr (1, [.int (nI (P)), .ref ae, .ref al, .ref au, .ref ao, .ref ar, .ref ak, .ref aw, .ref att, .ref ass])), (ae, .inl (cI, 10, .inl er))] sz) := by
  refine xh (QA := fun A => XQi (fun (r : Int32) (e2 : (Nat → Int32)) => ((r = nI (P))) ∧ (e2 = upd er P p0)) D (fun (e2 : Nat → Int32) => [(h0, .inr (1, [.int (nI (P + 1)), .ref ae, .ref al, .ref au, .ref ao, .ref ar, .ref ak, .ref aw, .ref att, .ref ass])), (ae, .inl (cI, 10, .inl e2))]) A) (fr := fun A => A) (by decide) (Nat.le_of_ble_eq_true rfl) ?_
  intro p e s m below meth c ls A hF hr hlk hin hsz hP hK hD hN hZ hA hS hl
  have hF : CallFix p m c cX1_addPlace 3 s _ _ RX1 := hF
  have hx := hF.1
  have hb := hF.2.1
  have hml := hF.2.2.1
  have hown := hF.2.2.2.1
  have hu : ∀ w ∈ wsU, w.before _ s = true := fun w h => hF.2.2.2.2 w (List.mem_cons_of_mem _ h)
  have hl : lv_has ls 3 [(0, .ref h0), (1, .int p0)] := hl
  refine lv_aload_n hx hb dX1_addPlace_0 rfl (lv_at hl 0 rfl) ?_
  refine xg hF kf_X1_9 hK hP 0 rfl rfl dX1_addPlace_1 ?_
  refine lv_istore_n (lv' := [(2, .int (nI (P))), (0, .ref h0), (1, .int p0)]) hx hb dX1_addPlace_4 rfl hl (by decide) rfl (fun ls hl => ?_)
  refine lv_aload_n hx hb dX1_addPlace_5 rfl (lv_at hl 1 rfl) ?_
  refine lv_dup hx hb dX1_addPlace_6 rfl ?_
  refine xg hF kf_X1_9 hK hP 0 rfl rfl dX1_addPlace_7 ?_
  refine lv_iconst (v := 1) hx hb dX1_addPlace_10 (by decide) ?_
  refine lv_iadd hx hb dX1_addPlace_11 ?_
  refine xl_i (y := nI (P + 1)) (nI_add P 1) ?_
  refine xp hF kf_X1_9 tyX1_ok nmX1 hK hP hD hS 0 rfl rfl rfl rfl (Nat.le_of_ble_eq_true rfl) dX1_addPlace_12 (fun H locs hP hD hS => ?_)
  have hP : va_P D vwCl [(h0, .inr (1, [.int (nI (P + 1)), .ref ae, .ref al, .ref au, .ref ao, .ref ar, .ref ak, .ref aw, .ref att, .ref ass])), (ae, .inl (cI, 10, .inl er))] H := hP
  have hD : va_D A [(h0, .inr (1, [.int (nI (P + 1)), .ref ae, .ref al, .ref au, .ref ao, .ref ar, .ref ak, .ref aw, .ref att, .ref ass])), (ae, .inl (cI, 10, .inl er))] := hD
  refine lv_aload_n hx hb dX1_addPlace_15 rfl (lv_at hl 1 rfl) ?_
  refine xg hF kf_X1_15 hK hP 0 rfl rfl dX1_addPlace_16 ?_
  refine lv_iload_n hx hb dX1_addPlace_19 rfl (lv_at hl 0 rfl) ?_
  refine lv_iload_n hx hb dX1_addPlace_20 rfl (lv_at hl 2 rfl) ?_
  refine va_iast hx hb hK hP hD hS 1 0 rfl rfl (vp_in_nI (show P < 10 by omega) (by decide)) dX1_addPlace_21 (fun H locs hP hD hS => ?_)
  rw [nI_clamp (show P < 2 ^ 31 by omega)] at hP hD
  obtain ⟨f_1, ef_1⟩ : ∃ g, g = upd er P p0 := ⟨_, rfl⟩
  rw [← ef_1] at hP hD
  have hP : va_P D vwCl [(h0, .inr (1, [.int (nI (P + 1)), .ref ae, .ref al, .ref au, .ref ao, .ref ar, .ref ak, .ref aw, .ref att, .ref ass])), (ae, .inl (cI, 10, .inl f_1))] H := hP
  have hD : va_D A [(h0, .inr (1, [.int (nI (P + 1)), .ref ae, .ref al, .ref au, .ref ao, .ref ar, .ref ak, .ref aw, .ref att, .ref ass])), (ae, .inl (cI, 10, .inl f_1))] := hD
  refine lv_iload_n hx hb dX1_addPlace_22 rfl (lv_at hl 0 rfl) ?_
  exact W.iret (v := nI (P)) hx hb hr (fun t ht hW => ⟨⟨nI (P), f_1, rfl, ⟨(by first | exact rfl), (by first | assumption | omega)⟩, by rw [ht]; exact hP.sub [0, 1] rfl, hD.sub [0, 1] (by decide) rfl⟩, hS.F ht⟩) hS.2.2 dX1_addPlace_23 hlk
set_option maxHeartbeats 4000000 in
set_option maxRecDepth 100000 in
theorem c_X1_setWay (l : Launch) (D : va_G) (cI cJ cZ cS : ClassId) (ta : Nat) (sa sv : Nat → Nat) (sz : Nat) (h0 : Nat) (ae : Nat) (al : Nat) (au : Nat) (ao : Nat) (ar : Nat) (ak : Nat) (aw : Nat) (att : Nat) (ass : Nat) (P : Nat) (j : Nat) (k : Nat) (p0 : Int32) (p1 : Int32) (lo : Nat → Int32) (hi : Nat → Int32) (d : Nat → Int32) (hj : j < 10) (hk : k < 10) : Met l yX1_setWay (Cond.code yX1_setWay cX1_setWay 6 none :: wsU) ({ frames := 1, cells := 0, slots := 0, locals := 21 }) (va_Pc [.ref h0, .int (nI (j)), .int (nI (k)), .int p0, .int p1] (XW D (xT cI cJ cZ cS) ta sa sv [(h0, .inr (1, [.int (nI (P)), .ref ae, .ref al, .ref au, .ref ao, .ref ar, .ref ak, .ref aw, .ref att, .ref ass])), (al, .inl (cI, 100, .inl lo)), (au, .inl (cI, 100, .inl hi)), (ao, .inl (cI, 100, .inl d))] sz)) (XQv (fun (u : (Nat → Int32) × (Nat → Int32) × (Nat → Int32)) => match u with | (l2, u2, d2) => (l2 = upd lo (10 * j + k) p0) ∧ (u2 = upd hi (10 * j + k) p1) ∧ (d2 = upd d (10 * j + k) 1)) D (fun (u : (Nat → Int32) × (Nat → Int32) × (Nat → Int32)) => match u with | (l2, u2, d2) => [(h0, .inr (1, [.int (nI (P)), .ref ae, .ref al, .ref au, .ref ao, .ref ar, .ref ak, .ref aw, .ref att, .ref ass])), (al, .inl (cI, 100, .inl l2)), (au, .inl (cI, 100, .inl u2)), (ao, .inl (cI, 100, .inl d2))]) (va_A [(h0, .inr (1, [.int (nI (P)), .ref ae, .ref al, .ref au, .ref ao, .ref ar, .ref ak, .ref aw, .ref att, .ref ass])), (al, .inl (cI, 100, .inl lo)), (au, .inl (cI, 100, .inl hi)), (ao, .inl (cI, 100, .inl d))] sz)) 0 0 (va_A [(h0, .inr (1, [.int (nI (P)), .ref ae, .ref al, .ref au, .ref ao, .ref ar, .ref ak, .ref aw, .ref att, .ref ass])), (al, .inl (cI, 100, .inl lo)), (au, .inl (cI, 100, .inl hi)), (ao, .inl (cI, 100, .inl d))] sz) := by
  refine xh (QA := fun A => XQv (fun (u : (Nat → Int32) × (Nat → Int32) × (Nat → Int32)) => match u with | (l2, u2, d2) => (l2 = upd lo (10 * j + k) p0) ∧ (u2 = upd hi (10 * j + k) p1) ∧ (d2 = upd d (10 * j + k) 1)) D (fun (u : (Nat → Int32) × (Nat → Int32) × (Nat → Int32)) => match u with | (l2, u2, d2) => [(h0, .inr (1, [.int (nI (P)), .ref ae, .ref al, .ref au, .ref ao, .ref ar, .ref ak, .ref aw, .ref att, .ref ass])), (al, .inl (cI, 100, .inl l2)), (au, .inl (cI, 100, .inl u2)), (ao, .inl (cI, 100, .inl d2))]) A) (fr := fun A => A) (by decide) (Nat.le_of_ble_eq_true rfl) ?_
  intro p e s m below meth c ls A hF hr hlk hin hsz hP hK hD hN hZ hA hS hl
  have hF : CallFix p m c cX1_setWay 6 s _ _ RX1 := hF
  have hx := hF.1
  have hb := hF.2.1
  have hml := hF.2.2.1
  have hown := hF.2.2.2.1
  have hu : ∀ w ∈ wsU, w.before _ s = true := fun w h => hF.2.2.2.2 w (List.mem_cons_of_mem _ h)
  have hl : lv_has ls 6 [(0, .ref h0), (1, .int (nI (j))), (2, .int (nI (k))), (3, .int p0), (4, .int p1)] := hl
  refine lv_iload_n hx hb dX1_setWay_0 rfl (lv_at hl 1 rfl) ?_
  refine lv_iload_n hx hb dX1_setWay_1 rfl (lv_at hl 2 rfl) ?_
  refine xc_Sr hF (c_X1_wayAt l D cI cJ cZ cS ta sa sv s.heap.size j k ) ks_X1_61 ⟨rfl, rfl, Nat.le_of_ble_eq_true rfl, Nat.le_of_ble_eq_true rfl⟩ ⟨Nat.le_of_ble_eq_true rfl, Nat.le_of_ble_eq_true rfl⟩ hK hN hZ hP hD hS hA [] rfl rfl rfl hl.1 rfl (Nat.le_of_ble_eq_true rfl) dX1_setWay_2 (fun r_1 hw_r_1 => ?_)
  subst hw_r_1
  refine lv_istore (lv' := [(5, .int (nI (10 * j + k))), (0, .ref h0), (1, .int (nI (j))), (2, .int (nI (k))), (3, .int p0), (4, .int p1)]) hx hb dX1_setWay_5 hl (by decide) rfl (fun ls hl => ?_)
  refine lv_aload_n hx hb dX1_setWay_7 rfl (lv_at hl 1 rfl) ?_
  refine xg hF kf_X1_19 hK hP 0 rfl rfl dX1_setWay_8 ?_
  refine lv_iload hx hb dX1_setWay_11 (lv_at hl 0 rfl) ?_
  refine lv_iload_n hx hb dX1_setWay_13 rfl (lv_at hl 4 rfl) ?_
  refine va_iast hx hb hK hP hD hS 1 0 rfl rfl (vp_in_nI (show 10 * j + k < 100 by omega) (by decide)) dX1_setWay_14 (fun H locs hP hD hS => ?_)
  rw [nI_clamp (show 10 * j + k < 2 ^ 31 by omega)] at hP hD
  obtain ⟨f_2, ef_2⟩ : ∃ g, g = upd lo (10 * j + k) p0 := ⟨_, rfl⟩
  rw [← ef_2] at hP hD
  have hP : va_P D vwCl [(h0, .inr (1, [.int (nI (P)), .ref ae, .ref al, .ref au, .ref ao, .ref ar, .ref ak, .ref aw, .ref att, .ref ass])), (al, .inl (cI, 100, .inl f_2)), (au, .inl (cI, 100, .inl hi)), (ao, .inl (cI, 100, .inl d))] H := hP
  have hD : va_D A [(h0, .inr (1, [.int (nI (P)), .ref ae, .ref al, .ref au, .ref ao, .ref ar, .ref ak, .ref aw, .ref att, .ref ass])), (al, .inl (cI, 100, .inl f_2)), (au, .inl (cI, 100, .inl hi)), (ao, .inl (cI, 100, .inl d))] := hD
  refine lv_aload_n hx hb dX1_setWay_15 rfl (lv_at hl 1 rfl) ?_
  refine xg hF kf_X1_22 hK hP 0 rfl rfl dX1_setWay_16 ?_
  refine lv_iload hx hb dX1_setWay_19 (lv_at hl 0 rfl) ?_
  refine lv_iload hx hb dX1_setWay_21 (lv_at hl 5 rfl) ?_
  refine va_iast hx hb hK hP hD hS 2 0 rfl rfl (vp_in_nI (show 10 * j + k < 100 by omega) (by decide)) dX1_setWay_23 (fun H locs hP hD hS => ?_)
  rw [nI_clamp (show 10 * j + k < 2 ^ 31 by omega)] at hP hD
  obtain ⟨f_3, ef_3⟩ : ∃ g, g = upd hi (10 * j + k) p1 := ⟨_, rfl⟩
  rw [← ef_3] at hP hD
  have hP : va_P D vwCl [(h0, .inr (1, [.int (nI (P)), .ref ae, .ref al, .ref au, .ref ao, .ref ar, .ref ak, .ref aw, .ref att, .ref ass])), (al, .inl (cI, 100, .inl f_2)), (au, .inl (cI, 100, .inl f_3)), (ao, .inl (cI, 100, .inl d))] H := hP
  have hD : va_D A [(h0, .inr (1, [.int (nI (P)), .ref ae, .ref al, .ref au, .ref ao, .ref ar, .ref ak, .ref aw, .ref att, .ref ass])), (al, .inl (cI, 100, .inl f_2)), (au, .inl (cI, 100, .inl f_3)), (ao, .inl (cI, 100, .inl d))] := hD
  refine lv_aload_n hx hb dX1_setWay_24 rfl (lv_at hl 1 rfl) ?_
  refine xg hF kf_X1_25 hK hP 0 rfl rfl dX1_setWay_25 ?_
  refine lv_iload hx hb dX1_setWay_28 (lv_at hl 0 rfl) ?_
  refine lv_iconst (v := 1) hx hb dX1_setWay_30 (by decide) ?_
  refine va_iast hx hb hK hP hD hS 3 0 rfl rfl (vp_in_nI (show 10 * j + k < 100 by omega) (by decide)) dX1_setWay_31 (fun H locs hP hD hS => ?_)
  rw [nI_clamp (show 10 * j + k < 2 ^ 31 by omega)] at hP hD
  obtain ⟨f_4, ef_4⟩ : ∃ g, g = upd d (10 * j + k) 1 := ⟨_, rfl⟩
  rw [← ef_4] at hP hD
  have hP : va_P D vwCl [(h0, .inr (1, [.int (nI (P)), .ref ae, .ref al, .ref au, .ref ao, .ref ar, .ref ak, .ref aw, .ref att, .ref ass])), (al, .inl (cI, 100, .inl f_2)), (au, .inl (cI, 100, .inl f_3)), (ao, .inl (cI, 100, .inl f_4))] H := hP
  have hD : va_D A [(h0, .inr (1, [.int (nI (P)), .ref ae, .ref al, .ref au, .ref ao, .ref ar, .ref ak, .ref aw, .ref att, .ref ass])), (al, .inl (cI, 100, .inl f_2)), (au, .inl (cI, 100, .inl f_3)), (ao, .inl (cI, 100, .inl f_4))] := hD
  exact W.vret hx hb hr (fun t ht hW => ⟨⟨(f_2, f_3, f_4), rfl, ⟨(by first | assumption | omega), (by first | assumption | omega), (by first | assumption | omega)⟩, by rw [ht]; exact hP.sub [0, 1, 2, 3] rfl, hD.sub [0, 1, 2, 3] (by decide) rfl⟩, hS.F ht⟩) hS.2.2 dX1_setWay_32 hlk
set_option maxHeartbeats 4000000 in
set_option maxRecDepth 100000 in
theorem c_X1_setShut (l : Launch) (D : va_G) (cI cJ cZ cS : ClassId) (ta : Nat) (sa sv : Nat → Nat) (sz : Nat) (h0 : Nat) (ae : Nat) (al : Nat) (au : Nat) (ao : Nat) (ar : Nat) (ak : Nat) (aw : Nat) (att : Nat) (ass : Nat) (P : Nat) (j : Nat) (k : Nat) (p0 : Int32) (d : Nat → Int32) (hj : j < 10) (hk : k < 10) : Met l yX1_setShut (Cond.code yX1_setShut cX1_setShut 4 none :: wsU) ({ frames := 1, cells := 0, slots := 0, locals := 21 }) (va_Pc [.ref h0, .int (nI (j)), .int (nI (k)), .int p0] (XW D (xT cI cJ cZ cS) ta sa sv [(h0, .inr (1, [.int (nI (P)), .ref ae, .ref al, .ref au, .ref ao, .ref ar, .ref ak, .ref aw, .ref att, .ref ass])), (ao, .inl (cI, 100, .inl d))] sz)) (XQv (fun (d2 : (Nat → Int32)) => (d2 = upd d (10 * j + k) (if p0 = 0 then 1 else 2))) D (fun (d2 : Nat → Int32) => [(h0, .inr (1, [.int (nI (P)), .ref ae, .ref al, .ref au, .ref ao, .ref ar, .ref ak, .ref aw, .ref att, .ref ass])), (ao, .inl (cI, 100, .inl d2))]) (va_A [(h0, .inr (1, [.int (nI (P)), .ref ae, .ref al, .ref au, .ref ao, .ref ar, .ref ak, .ref aw, .ref att, .ref ass])), (ao, .inl (cI, 100, .inl d))] sz)) 0 0 (va_A [(h0, .inr (1, [.int (nI (P)), .ref ae, .ref al, .ref au, .ref ao, .ref ar, .ref ak, .ref aw, .ref att, .ref ass])), (ao, .inl (cI, 100, .inl d))] sz) := by
  refine xh (QA := fun A => XQv (fun (d2 : (Nat → Int32)) => (d2 = upd d (10 * j + k) (if p0 = 0 then 1 else 2))) D (fun (d2 : Nat → Int32) => [(h0, .inr (1, [.int (nI (P)), .ref ae, .ref al, .ref au, .ref ao, .ref ar, .ref ak, .ref aw, .ref att, .ref ass])), (ao, .inl (cI, 100, .inl d2))]) A) (fr := fun A => A) (by decide) (Nat.le_of_ble_eq_true rfl) ?_
  intro p e s m below meth c ls A hF hr hlk hin hsz hP hK hD hN hZ hA hS hl
  have hF : CallFix p m c cX1_setShut 4 s _ _ RX1 := hF
  have hx := hF.1
  have hb := hF.2.1
  have hml := hF.2.2.1
  have hown := hF.2.2.2.1
  have hu : ∀ w ∈ wsU, w.before _ s = true := fun w h => hF.2.2.2.2 w (List.mem_cons_of_mem _ h)
  have hl : lv_has ls 4 [(0, .ref h0), (1, .int (nI (j))), (2, .int (nI (k))), (3, .int p0)] := hl
  refine lv_aload_n hx hb dX1_setShut_0 rfl (lv_at hl 0 rfl) ?_
  refine xg hF kf_X1_25 hK hP 0 rfl rfl dX1_setShut_1 ?_
  refine lv_iload_n hx hb dX1_setShut_4 rfl (lv_at hl 1 rfl) ?_
  refine lv_iload_n hx hb dX1_setShut_5 rfl (lv_at hl 2 rfl) ?_
  refine xc_Sr hF (c_X1_wayAt l D cI cJ cZ cS ta sa sv s.heap.size j k ) ks_X1_61 ⟨rfl, rfl, Nat.le_of_ble_eq_true rfl, Nat.le_of_ble_eq_true rfl⟩ ⟨Nat.le_of_ble_eq_true rfl, Nat.le_of_ble_eq_true rfl⟩ hK hN hZ hP hD hS hA [] rfl rfl rfl hl.1 rfl (Nat.le_of_ble_eq_true rfl) dX1_setShut_6 (fun r_1 hw_r_1 => ?_)
  subst hw_r_1
  refine lv_iload_n hx hb dX1_setShut_9 rfl (lv_at hl 3 rfl) ?_
  refine lv_if_eq (tgt := 17) hx hb dX1_setShut_10 (by decide) (fun c_2 => ?_) (fun c_2 => ?_)
  · skip
    refine lv_iconst (v := 1) hx hb dX1_setShut_17 (by decide) ?_
    refine va_iast hx hb hK hP hD hS 1 0 rfl rfl (vp_in_nI (show 10 * j + k < 100 by omega) (by decide)) dX1_setShut_18 (fun H locs hP hD hS => ?_)
    rw [nI_clamp (show 10 * j + k < 2 ^ 31 by omega)] at hP hD
    obtain ⟨f_3, ef_3⟩ : ∃ g, g = upd d (10 * j + k) 1 := ⟨_, rfl⟩
    rw [← ef_3] at hP hD
    have hP : va_P D vwCl [(h0, .inr (1, [.int (nI (P)), .ref ae, .ref al, .ref au, .ref ao, .ref ar, .ref ak, .ref aw, .ref att, .ref ass])), (ao, .inl (cI, 100, .inl f_3))] H := hP
    have hD : va_D A [(h0, .inr (1, [.int (nI (P)), .ref ae, .ref al, .ref au, .ref ao, .ref ar, .ref ak, .ref aw, .ref att, .ref ass])), (ao, .inl (cI, 100, .inl f_3))] := hD
    exact W.vret hx hb hr (fun t ht hW => ⟨⟨f_3, rfl, (by rw [ef_3]; congr 1; first | rw [if_pos (by assumption)] | rw [if_neg (by assumption)]), by rw [ht]; exact hP.sub [0, 1] rfl, hD.sub [0, 1] (by decide) rfl⟩, hS.F ht⟩) hS.2.2 dX1_setShut_19 hlk
  · skip
    refine lv_iconst (v := 2) hx hb dX1_setShut_13 (by decide) ?_
    refine lv_goto (tgt := 18) hx hb dX1_setShut_14 (by decide) ?_
    refine va_iast hx hb hK hP hD hS 1 0 rfl rfl (vp_in_nI (show 10 * j + k < 100 by omega) (by decide)) dX1_setShut_18 (fun H locs hP hD hS => ?_)
    rw [nI_clamp (show 10 * j + k < 2 ^ 31 by omega)] at hP hD
    obtain ⟨f_4, ef_4⟩ : ∃ g, g = upd d (10 * j + k) 2 := ⟨_, rfl⟩
    rw [← ef_4] at hP hD
    have hP : va_P D vwCl [(h0, .inr (1, [.int (nI (P)), .ref ae, .ref al, .ref au, .ref ao, .ref ar, .ref ak, .ref aw, .ref att, .ref ass])), (ao, .inl (cI, 100, .inl f_4))] H := hP
    have hD : va_D A [(h0, .inr (1, [.int (nI (P)), .ref ae, .ref al, .ref au, .ref ao, .ref ar, .ref ak, .ref aw, .ref att, .ref ass])), (ao, .inl (cI, 100, .inl f_4))] := hD
    exact W.vret hx hb hr (fun t ht hW => ⟨⟨f_4, rfl, (by rw [ef_4]; congr 1; first | rw [if_pos (by assumption)] | rw [if_neg (by assumption)]), by rw [ht]; exact hP.sub [0, 1] rfl, hD.sub [0, 1] (by decide) rfl⟩, hS.F ht⟩) hS.2.2 dX1_setShut_19 hlk
