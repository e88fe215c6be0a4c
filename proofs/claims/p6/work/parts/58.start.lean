theorem x_arr {args : Array Value} {s : State} {ty : FieldType} (h : (Cond.arrayClass ty).before args s = true) : ∃ cA : ClassId, ArrOfT s cA ty ∧ s.vm.findClass ("[" ++ ty.toString) = some cA := by
  obtain ⟨cA, kA, comp, h1, h2, h3⟩ := Cond.arrayClass_spec h
  exact ⟨cA, fun n z => ⟨fun k h => (by cases h), kA, h2, comp, h3⟩, h1⟩
theorem x_arq {args : Array Value} {s : State} {C : String} (h : (Cond.arrayOver (.object C)).before args s = true) : ∃ cA : ClassId, ArrOfT s cA (.object C) ∧ va_RA s cA (.object C) := by
  obtain ⟨comp, cA, kA, h1, -, h2, h3, h4⟩ := Cond.arrayOver_spec h
  exact ⟨cA, fun n z => ⟨fun k h => (by cases h), kA, h2, comp, h3⟩, kA, comp, h2, h3, h1, h4⟩
def x_ix : List Nat := [41, 50, 55, 65, 82, 88, 118, 123]
def x_tm (i : Nat) : Term := .string RX7 (x_ix.getD i 0)
theorem x_sx {args : Array Value} {s : State} (hgv : (Jvm.Cond.and given_1 narrow_1).before args s = true) : ∀ i : Nat, i < 8 → (Cond.exactly (x_tm i) "java/lang/String").before args s = true := by
  intro i hi
  match i, hi with
  | 0, _ => exact flat_of_before _ hgv (.exactly (.string "LongerBack$Text" 41) "java/lang/String") (by decide +kernel)
  | 1, _ => exact flat_of_before _ hgv (.exactly (.string "LongerBack$Text" 50) "java/lang/String") (by decide +kernel)
  | 2, _ => exact flat_of_before _ hgv (.exactly (.string "LongerBack$Text" 55) "java/lang/String") (by decide +kernel)
  | 3, _ => exact flat_of_before _ hgv (.exactly (.string "LongerBack$Text" 65) "java/lang/String") (by decide +kernel)
  | 4, _ => exact flat_of_before _ hgv (.exactly (.string "LongerBack$Text" 82) "java/lang/String") (by decide +kernel)
  | 5, _ => exact flat_of_before _ hgv (.exactly (.string "LongerBack$Text" 88) "java/lang/String") (by decide +kernel)
  | 6, _ => exact flat_of_before _ hgv (.exactly (.string "LongerBack$Text" 118) "java/lang/String") (by decide +kernel)
  | 7, _ => exact flat_of_before _ hgv (.exactly (.string "LongerBack$Text" 123) "java/lang/String") (by decide +kernel)
theorem x_sco {args : Array Value} {s : State} (hgv : (Jvm.Cond.and given_1 narrow_1).before args s = true) : ∀ i : Nat, i < 8 → (Cond.eq (.field (x_tm i) "java/lang/String" "coder" "B") (.int 0)).before args s = true := by
  intro i hi
  match i, hi with
  | 0, _ => exact flat_of_before _ hgv (.eq (.field (.string "LongerBack$Text" 41) "java/lang/String" "coder" "B") (.int 0)) (by decide +kernel)
  | 1, _ => exact flat_of_before _ hgv (.eq (.field (.string "LongerBack$Text" 50) "java/lang/String" "coder" "B") (.int 0)) (by decide +kernel)
  | 2, _ => exact flat_of_before _ hgv (.eq (.field (.string "LongerBack$Text" 55) "java/lang/String" "coder" "B") (.int 0)) (by decide +kernel)
  | 3, _ => exact flat_of_before _ hgv (.eq (.field (.string "LongerBack$Text" 65) "java/lang/String" "coder" "B") (.int 0)) (by decide +kernel)
  | 4, _ => exact flat_of_before _ hgv (.eq (.field (.string "LongerBack$Text" 82) "java/lang/String" "coder" "B") (.int 0)) (by decide +kernel)
  | 5, _ => exact flat_of_before _ hgv (.eq (.field (.string "LongerBack$Text" 88) "java/lang/String" "coder" "B") (.int 0)) (by decide +kernel)
  | 6, _ => exact flat_of_before _ hgv (.eq (.field (.string "LongerBack$Text" 118) "java/lang/String" "coder" "B") (.int 0)) (by decide +kernel)
  | 7, _ => exact flat_of_before _ hgv (.eq (.field (.string "LongerBack$Text" 123) "java/lang/String" "coder" "B") (.int 0)) (by decide +kernel)
theorem x_sa {args : Array Value} {s : State} (hgv : (Jvm.Cond.and given_1 narrow_1).before args s = true) : ∀ i : Nat, i < 8 → (Cond.arrayOf (.field (x_tm i) "java/lang/String" "value" "[B") .byte).before args s = true := by
  intro i hi
  match i, hi with
  | 0, _ => exact flat_of_before _ hgv (.arrayOf (.field (.string "LongerBack$Text" 41) "java/lang/String" "value" "[B") .byte) (by decide +kernel)
  | 1, _ => exact flat_of_before _ hgv (.arrayOf (.field (.string "LongerBack$Text" 50) "java/lang/String" "value" "[B") .byte) (by decide +kernel)
  | 2, _ => exact flat_of_before _ hgv (.arrayOf (.field (.string "LongerBack$Text" 55) "java/lang/String" "value" "[B") .byte) (by decide +kernel)
  | 3, _ => exact flat_of_before _ hgv (.arrayOf (.field (.string "LongerBack$Text" 65) "java/lang/String" "value" "[B") .byte) (by decide +kernel)
  | 4, _ => exact flat_of_before _ hgv (.arrayOf (.field (.string "LongerBack$Text" 82) "java/lang/String" "value" "[B") .byte) (by decide +kernel)
  | 5, _ => exact flat_of_before _ hgv (.arrayOf (.field (.string "LongerBack$Text" 88) "java/lang/String" "value" "[B") .byte) (by decide +kernel)
  | 6, _ => exact flat_of_before _ hgv (.arrayOf (.field (.string "LongerBack$Text" 118) "java/lang/String" "value" "[B") .byte) (by decide +kernel)
  | 7, _ => exact flat_of_before _ hgv (.arrayOf (.field (.string "LongerBack$Text" 123) "java/lang/String" "value" "[B") .byte) (by decide +kernel)
theorem x_sl {args : Array Value} {s : State} (hgv : (Jvm.Cond.and given_1 narrow_1).before args s = true) : ∀ i : Nat, i < 8 → (Cond.eq (.length (.field (x_tm i) "java/lang/String" "value" "[B")) (.int (Int32.ofNat (xLen.getD i 0)))).before args s = true := by
  intro i hi
  match i, hi with
  | 0, _ => exact flat_of_before _ hgv (.eq (.length (.field (.string "LongerBack$Text" 41) "java/lang/String" "value" "[B")) (.int 5)) (by decide +kernel)
  | 1, _ => exact flat_of_before _ hgv (.eq (.length (.field (.string "LongerBack$Text" 50) "java/lang/String" "value" "[B")) (.int 3)) (by decide +kernel)
  | 2, _ => exact flat_of_before _ hgv (.eq (.length (.field (.string "LongerBack$Text" 55) "java/lang/String" "value" "[B")) (.int 4)) (by decide +kernel)
  | 3, _ => exact flat_of_before _ hgv (.eq (.length (.field (.string "LongerBack$Text" 65) "java/lang/String" "value" "[B")) (.int 7)) (by decide +kernel)
  | 4, _ => exact flat_of_before _ hgv (.eq (.length (.field (.string "LongerBack$Text" 82) "java/lang/String" "value" "[B")) (.int 2)) (by decide +kernel)
  | 5, _ => exact flat_of_before _ hgv (.eq (.length (.field (.string "LongerBack$Text" 88) "java/lang/String" "value" "[B")) (.int 4)) (by decide +kernel)
  | 6, _ => exact flat_of_before _ hgv (.eq (.length (.field (.string "LongerBack$Text" 118) "java/lang/String" "value" "[B")) (.int 3)) (by decide +kernel)
  | 7, _ => exact flat_of_before _ hgv (.eq (.length (.field (.string "LongerBack$Text" 123) "java/lang/String" "value" "[B")) (.int 5)) (by decide +kernel)
theorem x_se0 {args : Array Value} {s : State} (hgv : (Jvm.Cond.and given_1 narrow_1).before args s = true) : ∀ j : Nat, j < 5 → (Cond.eq (.elem (.field (x_tm 0) "java/lang/String" "value" "[B") (.int (Int32.ofNat j))) (.int ((xByt.getD 0 []).getD j 0))).before args s = true := by
  intro j hj
  match j, hj with
  | 0, _ => exact flat_of_before _ hgv (.eq (.elem (.field (.string "LongerBack$Text" 41) "java/lang/String" "value" "[B") (.int 0)) (.int 112)) (by decide +kernel)
  | 1, _ => exact flat_of_before _ hgv (.eq (.elem (.field (.string "LongerBack$Text" 41) "java/lang/String" "value" "[B") (.int 1)) (.int 108)) (by decide +kernel)
  | 2, _ => exact flat_of_before _ hgv (.eq (.elem (.field (.string "LongerBack$Text" 41) "java/lang/String" "value" "[B") (.int 2)) (.int 97)) (by decide +kernel)
  | 3, _ => exact flat_of_before _ hgv (.eq (.elem (.field (.string "LongerBack$Text" 41) "java/lang/String" "value" "[B") (.int 3)) (.int 99)) (by decide +kernel)
  | 4, _ => exact flat_of_before _ hgv (.eq (.elem (.field (.string "LongerBack$Text" 41) "java/lang/String" "value" "[B") (.int 4)) (.int 101)) (by decide +kernel)
theorem x_se1 {args : Array Value} {s : State} (hgv : (Jvm.Cond.and given_1 narrow_1).before args s = true) : ∀ j : Nat, j < 3 → (Cond.eq (.elem (.field (x_tm 1) "java/lang/String" "value" "[B") (.int (Int32.ofNat j))) (.int ((xByt.getD 1 []).getD j 0))).before args s = true := by
  intro j hj
  match j, hj with
  | 0, _ => exact flat_of_before _ hgv (.eq (.elem (.field (.string "LongerBack$Text" 50) "java/lang/String" "value" "[B") (.int 0)) (.int 119)) (by decide +kernel)
  | 1, _ => exact flat_of_before _ hgv (.eq (.elem (.field (.string "LongerBack$Text" 50) "java/lang/String" "value" "[B") (.int 1)) (.int 97)) (by decide +kernel)
  | 2, _ => exact flat_of_before _ hgv (.eq (.elem (.field (.string "LongerBack$Text" 50) "java/lang/String" "value" "[B") (.int 2)) (.int 121)) (by decide +kernel)
theorem x_se2 {args : Array Value} {s : State} (hgv : (Jvm.Cond.and given_1 narrow_1).before args s = true) : ∀ j : Nat, j < 4 → (Cond.eq (.elem (.field (x_tm 2) "java/lang/String" "value" "[B") (.int (Int32.ofNat j))) (.int ((xByt.getD 2 []).getD j 0))).before args s = true := by
  intro j hj
  match j, hj with
  | 0, _ => exact flat_of_before _ hgv (.eq (.elem (.field (.string "LongerBack$Text" 55) "java/lang/String" "value" "[B") (.int 0)) (.int 119)) (by decide +kernel)
  | 1, _ => exact flat_of_before _ hgv (.eq (.elem (.field (.string "LongerBack$Text" 55) "java/lang/String" "value" "[B") (.int 1)) (.int 97)) (by decide +kernel)
  | 2, _ => exact flat_of_before _ hgv (.eq (.elem (.field (.string "LongerBack$Text" 55) "java/lang/String" "value" "[B") (.int 2)) (.int 108)) (by decide +kernel)
  | 3, _ => exact flat_of_before _ hgv (.eq (.elem (.field (.string "LongerBack$Text" 55) "java/lang/String" "value" "[B") (.int 3)) (.int 107)) (by decide +kernel)
theorem x_se3 {args : Array Value} {s : State} (hgv : (Jvm.Cond.and given_1 narrow_1).before args s = true) : ∀ j : Nat, j < 7 → (Cond.eq (.elem (.field (x_tm 3) "java/lang/String" "value" "[B") (.int (Int32.ofNat j))) (.int ((xByt.getD 3 []).getD j 0))).before args s = true := by
  intro j hj
  match j, hj with
  | 0, _ => exact flat_of_before _ hgv (.eq (.elem (.field (.string "LongerBack$Text" 65) "java/lang/String" "value" "[B") (.int 0)) (.int 101)) (by decide +kernel)
  | 1, _ => exact flat_of_before _ hgv (.eq (.elem (.field (.string "LongerBack$Text" 65) "java/lang/String" "value" "[B") (.int 1)) (.int 114)) (by decide +kernel)
  | 2, _ => exact flat_of_before _ hgv (.eq (.elem (.field (.string "LongerBack$Text" 65) "java/lang/String" "value" "[B") (.int 2)) (.int 114)) (by decide +kernel)
  | 3, _ => exact flat_of_before _ hgv (.eq (.elem (.field (.string "LongerBack$Text" 65) "java/lang/String" "value" "[B") (.int 3)) (.int 97)) (by decide +kernel)
  | 4, _ => exact flat_of_before _ hgv (.eq (.elem (.field (.string "LongerBack$Text" 65) "java/lang/String" "value" "[B") (.int 4)) (.int 110)) (by decide +kernel)
  | 5, _ => exact flat_of_before _ hgv (.eq (.elem (.field (.string "LongerBack$Text" 65) "java/lang/String" "value" "[B") (.int 5)) (.int 100)) (by decide +kernel)
  | 6, _ => exact flat_of_before _ hgv (.eq (.elem (.field (.string "LongerBack$Text" 65) "java/lang/String" "value" "[B") (.int 6)) (.int 115)) (by decide +kernel)
theorem x_se4 {args : Array Value} {s : State} (hgv : (Jvm.Cond.and given_1 narrow_1).before args s = true) : ∀ j : Nat, j < 2 → (Cond.eq (.elem (.field (x_tm 4) "java/lang/String" "value" "[B") (.int (Int32.ofNat j))) (.int ((xByt.getD 4 []).getD j 0))).before args s = true := by
  intro j hj
  match j, hj with
  | 0, _ => exact flat_of_before _ hgv (.eq (.elem (.field (.string "LongerBack$Text" 82) "java/lang/String" "value" "[B") (.int 0)) (.int 116)) (by decide +kernel)
  | 1, _ => exact flat_of_before _ hgv (.eq (.elem (.field (.string "LongerBack$Text" 82) "java/lang/String" "value" "[B") (.int 1)) (.int 111)) (by decide +kernel)
theorem x_se5 {args : Array Value} {s : State} (hgv : (Jvm.Cond.and given_1 narrow_1).before args s = true) : ∀ j : Nat, j < 4 → (Cond.eq (.elem (.field (x_tm 5) "java/lang/String" "value" "[B") (.int (Int32.ofNat j))) (.int ((xByt.getD 5 []).getD j 0))).before args s = true := by
  intro j hj
  match j, hj with
  | 0, _ => exact flat_of_before _ hgv (.eq (.elem (.field (.string "LongerBack$Text" 88) "java/lang/String" "value" "[B") (.int 0)) (.int 98)) (by decide +kernel)
  | 1, _ => exact flat_of_before _ hgv (.eq (.elem (.field (.string "LongerBack$Text" 88) "java/lang/String" "value" "[B") (.int 1)) (.int 97)) (by decide +kernel)
  | 2, _ => exact flat_of_before _ hgv (.eq (.elem (.field (.string "LongerBack$Text" 88) "java/lang/String" "value" "[B") (.int 2)) (.int 99)) (by decide +kernel)
  | 3, _ => exact flat_of_before _ hgv (.eq (.elem (.field (.string "LongerBack$Text" 88) "java/lang/String" "value" "[B") (.int 3)) (.int 107)) (by decide +kernel)
theorem x_se6 {args : Array Value} {s : State} (hgv : (Jvm.Cond.and given_1 narrow_1).before args s = true) : ∀ j : Nat, j < 3 → (Cond.eq (.elem (.field (x_tm 6) "java/lang/String" "value" "[B") (.int (Int32.ofNat j))) (.int ((xByt.getD 6 []).getD j 0))).before args s = true := by
  intro j hj
  match j, hj with
  | 0, _ => exact flat_of_before _ hgv (.eq (.elem (.field (.string "LongerBack$Text" 118) "java/lang/String" "value" "[B") (.int 0)) (.int 97)) (by decide +kernel)
  | 1, _ => exact flat_of_before _ hgv (.eq (.elem (.field (.string "LongerBack$Text" 118) "java/lang/String" "value" "[B") (.int 1)) (.int 108)) (by decide +kernel)
  | 2, _ => exact flat_of_before _ hgv (.eq (.elem (.field (.string "LongerBack$Text" 118) "java/lang/String" "value" "[B") (.int 2)) (.int 108)) (by decide +kernel)
theorem x_se7 {args : Array Value} {s : State} (hgv : (Jvm.Cond.and given_1 narrow_1).before args s = true) : ∀ j : Nat, j < 5 → (Cond.eq (.elem (.field (x_tm 7) "java/lang/String" "value" "[B") (.int (Int32.ofNat j))) (.int ((xByt.getD 7 []).getD j 0))).before args s = true := by
  intro j hj
  match j, hj with
  | 0, _ => exact flat_of_before _ hgv (.eq (.elem (.field (.string "LongerBack$Text" 123) "java/lang/String" "value" "[B") (.int 0)) (.int 115)) (by decide +kernel)
  | 1, _ => exact flat_of_before _ hgv (.eq (.elem (.field (.string "LongerBack$Text" 123) "java/lang/String" "value" "[B") (.int 1)) (.int 108)) (by decide +kernel)
  | 2, _ => exact flat_of_before _ hgv (.eq (.elem (.field (.string "LongerBack$Text" 123) "java/lang/String" "value" "[B") (.int 2)) (.int 97)) (by decide +kernel)
  | 3, _ => exact flat_of_before _ hgv (.eq (.elem (.field (.string "LongerBack$Text" 123) "java/lang/String" "value" "[B") (.int 3)) (.int 99)) (by decide +kernel)
  | 4, _ => exact flat_of_before _ hgv (.eq (.elem (.field (.string "LongerBack$Text" 123) "java/lang/String" "value" "[B") (.int 4)) (.int 107)) (by decide +kernel)
theorem x_se {args : Array Value} {s : State} (hgv : (Jvm.Cond.and given_1 narrow_1).before args s = true) : ∀ i : Nat, i < 8 → ∀ j : Nat, j < xLen.getD i 0 → (Cond.eq (.elem (.field (x_tm i) "java/lang/String" "value" "[B") (.int (Int32.ofNat j))) (.int ((xByt.getD i []).getD j 0))).before args s = true := by
  intro i hi
  match i, hi with
  | 0, _ => exact x_se0 hgv
  | 1, _ => exact x_se1 hgv
  | 2, _ => exact x_se2 hgv
  | 3, _ => exact x_se3 hgv
  | 4, _ => exact x_se4 hgv
  | 5, _ => exact x_se5 hgv
  | 6, _ => exact x_se6 hgv
  | 7, _ => exact x_se7 hgv
theorem x_sn {args : Array Value} {s : State} (hgv : (Jvm.Cond.and given_1 narrow_1).before args s = true) : ∀ i j : Nat, i < 8 → j < 8 → i ≠ j → (Cond.not (Cond.eq (x_tm i) (x_tm j))).before args s = true ∨ (Cond.not (Cond.eq (x_tm j) (x_tm i))).before args s = true := by
  intro i j hi hj hij
  match i, j, hi, hj with
  | 0, 0, _, _ => exact absurd rfl hij
  | 0, 1, _, _ => exact Or.inl (flat_of_before _ hgv (.not (.eq (.string "LongerBack$Text" 41) (.string "LongerBack$Text" 50))) (by decide +kernel))
  | 0, 2, _, _ => exact Or.inl (flat_of_before _ hgv (.not (.eq (.string "LongerBack$Text" 41) (.string "LongerBack$Text" 55))) (by decide +kernel))
  | 0, 3, _, _ => exact Or.inl (flat_of_before _ hgv (.not (.eq (.string "LongerBack$Text" 41) (.string "LongerBack$Text" 65))) (by decide +kernel))
  | 0, 4, _, _ => exact Or.inl (flat_of_before _ hgv (.not (.eq (.string "LongerBack$Text" 41) (.string "LongerBack$Text" 82))) (by decide +kernel))
  | 0, 5, _, _ => exact Or.inl (flat_of_before _ hgv (.not (.eq (.string "LongerBack$Text" 41) (.string "LongerBack$Text" 88))) (by decide +kernel))
  | 0, 6, _, _ => exact Or.inl (flat_of_before _ hgv (.not (.eq (.string "LongerBack$Text" 41) (.string "LongerBack$Text" 118))) (by decide +kernel))
  | 0, 7, _, _ => exact Or.inl (flat_of_before _ hgv (.not (.eq (.string "LongerBack$Text" 41) (.string "LongerBack$Text" 123))) (by decide +kernel))
  | 1, 0, _, _ => exact Or.inr (flat_of_before _ hgv (.not (.eq (.string "LongerBack$Text" 41) (.string "LongerBack$Text" 50))) (by decide +kernel))
  | 1, 1, _, _ => exact absurd rfl hij
  | 1, 2, _, _ => exact Or.inl (flat_of_before _ hgv (.not (.eq (.string "LongerBack$Text" 50) (.string "LongerBack$Text" 55))) (by decide +kernel))
  | 1, 3, _, _ => exact Or.inr (flat_of_before _ hgv (.not (.eq (.string "LongerBack$Text" 65) (.string "LongerBack$Text" 50))) (by decide +kernel))
  | 1, 4, _, _ => exact Or.inl (flat_of_before _ hgv (.not (.eq (.string "LongerBack$Text" 50) (.string "LongerBack$Text" 82))) (by decide +kernel))
  | 1, 5, _, _ => exact Or.inl (flat_of_before _ hgv (.not (.eq (.string "LongerBack$Text" 50) (.string "LongerBack$Text" 88))) (by decide +kernel))
  | 1, 6, _, _ => exact Or.inl (flat_of_before _ hgv (.not (.eq (.string "LongerBack$Text" 50) (.string "LongerBack$Text" 118))) (by decide +kernel))
  | 1, 7, _, _ => exact Or.inl (flat_of_before _ hgv (.not (.eq (.string "LongerBack$Text" 50) (.string "LongerBack$Text" 123))) (by decide +kernel))
  | 2, 0, _, _ => exact Or.inr (flat_of_before _ hgv (.not (.eq (.string "LongerBack$Text" 41) (.string "LongerBack$Text" 55))) (by decide +kernel))
  | 2, 1, _, _ => exact Or.inr (flat_of_before _ hgv (.not (.eq (.string "LongerBack$Text" 50) (.string "LongerBack$Text" 55))) (by decide +kernel))
  | 2, 2, _, _ => exact absurd rfl hij
  | 2, 3, _, _ => exact Or.inr (flat_of_before _ hgv (.not (.eq (.string "LongerBack$Text" 65) (.string "LongerBack$Text" 55))) (by decide +kernel))
  | 2, 4, _, _ => exact Or.inr (flat_of_before _ hgv (.not (.eq (.string "LongerBack$Text" 82) (.string "LongerBack$Text" 55))) (by decide +kernel))
  | 2, 5, _, _ => exact Or.inr (flat_of_before _ hgv (.not (.eq (.string "LongerBack$Text" 88) (.string "LongerBack$Text" 55))) (by decide +kernel))
  | 2, 6, _, _ => exact Or.inl (flat_of_before _ hgv (.not (.eq (.string "LongerBack$Text" 55) (.string "LongerBack$Text" 118))) (by decide +kernel))
  | 2, 7, _, _ => exact Or.inl (flat_of_before _ hgv (.not (.eq (.string "LongerBack$Text" 55) (.string "LongerBack$Text" 123))) (by decide +kernel))
  | 3, 0, _, _ => exact Or.inr (flat_of_before _ hgv (.not (.eq (.string "LongerBack$Text" 41) (.string "LongerBack$Text" 65))) (by decide +kernel))
  | 3, 1, _, _ => exact Or.inl (flat_of_before _ hgv (.not (.eq (.string "LongerBack$Text" 65) (.string "LongerBack$Text" 50))) (by decide +kernel))
  | 3, 2, _, _ => exact Or.inl (flat_of_before _ hgv (.not (.eq (.string "LongerBack$Text" 65) (.string "LongerBack$Text" 55))) (by decide +kernel))
  | 3, 3, _, _ => exact absurd rfl hij
  | 3, 4, _, _ => exact Or.inl (flat_of_before _ hgv (.not (.eq (.string "LongerBack$Text" 65) (.string "LongerBack$Text" 82))) (by decide +kernel))
  | 3, 5, _, _ => exact Or.inl (flat_of_before _ hgv (.not (.eq (.string "LongerBack$Text" 65) (.string "LongerBack$Text" 88))) (by decide +kernel))
  | 3, 6, _, _ => exact Or.inl (flat_of_before _ hgv (.not (.eq (.string "LongerBack$Text" 65) (.string "LongerBack$Text" 118))) (by decide +kernel))
  | 3, 7, _, _ => exact Or.inl (flat_of_before _ hgv (.not (.eq (.string "LongerBack$Text" 65) (.string "LongerBack$Text" 123))) (by decide +kernel))
  | 4, 0, _, _ => exact Or.inr (flat_of_before _ hgv (.not (.eq (.string "LongerBack$Text" 41) (.string "LongerBack$Text" 82))) (by decide +kernel))
  | 4, 1, _, _ => exact Or.inr (flat_of_before _ hgv (.not (.eq (.string "LongerBack$Text" 50) (.string "LongerBack$Text" 82))) (by decide +kernel))
  | 4, 2, _, _ => exact Or.inl (flat_of_before _ hgv (.not (.eq (.string "LongerBack$Text" 82) (.string "LongerBack$Text" 55))) (by decide +kernel))
  | 4, 3, _, _ => exact Or.inr (flat_of_before _ hgv (.not (.eq (.string "LongerBack$Text" 65) (.string "LongerBack$Text" 82))) (by decide +kernel))
  | 4, 4, _, _ => exact absurd rfl hij
  | 4, 5, _, _ => exact Or.inl (flat_of_before _ hgv (.not (.eq (.string "LongerBack$Text" 82) (.string "LongerBack$Text" 88))) (by decide +kernel))
  | 4, 6, _, _ => exact Or.inl (flat_of_before _ hgv (.not (.eq (.string "LongerBack$Text" 82) (.string "LongerBack$Text" 118))) (by decide +kernel))
  | 4, 7, _, _ => exact Or.inl (flat_of_before _ hgv (.not (.eq (.string "LongerBack$Text" 82) (.string "LongerBack$Text" 123))) (by decide +kernel))
  | 5, 0, _, _ => exact Or.inr (flat_of_before _ hgv (.not (.eq (.string "LongerBack$Text" 41) (.string "LongerBack$Text" 88))) (by decide +kernel))
  | 5, 1, _, _ => exact Or.inr (flat_of_before _ hgv (.not (.eq (.string "LongerBack$Text" 50) (.string "LongerBack$Text" 88))) (by decide +kernel))
  | 5, 2, _, _ => exact Or.inl (flat_of_before _ hgv (.not (.eq (.string "LongerBack$Text" 88) (.string "LongerBack$Text" 55))) (by decide +kernel))
  | 5, 3, _, _ => exact Or.inr (flat_of_before _ hgv (.not (.eq (.string "LongerBack$Text" 65) (.string "LongerBack$Text" 88))) (by decide +kernel))
  | 5, 4, _, _ => exact Or.inr (flat_of_before _ hgv (.not (.eq (.string "LongerBack$Text" 82) (.string "LongerBack$Text" 88))) (by decide +kernel))
  | 5, 5, _, _ => exact absurd rfl hij
  | 5, 6, _, _ => exact Or.inl (flat_of_before _ hgv (.not (.eq (.string "LongerBack$Text" 88) (.string "LongerBack$Text" 118))) (by decide +kernel))
  | 5, 7, _, _ => exact Or.inl (flat_of_before _ hgv (.not (.eq (.string "LongerBack$Text" 88) (.string "LongerBack$Text" 123))) (by decide +kernel))
  | 6, 0, _, _ => exact Or.inr (flat_of_before _ hgv (.not (.eq (.string "LongerBack$Text" 41) (.string "LongerBack$Text" 118))) (by decide +kernel))
  | 6, 1, _, _ => exact Or.inr (flat_of_before _ hgv (.not (.eq (.string "LongerBack$Text" 50) (.string "LongerBack$Text" 118))) (by decide +kernel))
  | 6, 2, _, _ => exact Or.inr (flat_of_before _ hgv (.not (.eq (.string "LongerBack$Text" 55) (.string "LongerBack$Text" 118))) (by decide +kernel))
  | 6, 3, _, _ => exact Or.inr (flat_of_before _ hgv (.not (.eq (.string "LongerBack$Text" 65) (.string "LongerBack$Text" 118))) (by decide +kernel))
  | 6, 4, _, _ => exact Or.inr (flat_of_before _ hgv (.not (.eq (.string "LongerBack$Text" 82) (.string "LongerBack$Text" 118))) (by decide +kernel))
  | 6, 5, _, _ => exact Or.inr (flat_of_before _ hgv (.not (.eq (.string "LongerBack$Text" 88) (.string "LongerBack$Text" 118))) (by decide +kernel))
  | 6, 6, _, _ => exact absurd rfl hij
  | 6, 7, _, _ => exact Or.inl (flat_of_before _ hgv (.not (.eq (.string "LongerBack$Text" 118) (.string "LongerBack$Text" 123))) (by decide +kernel))
  | 7, 0, _, _ => exact Or.inr (flat_of_before _ hgv (.not (.eq (.string "LongerBack$Text" 41) (.string "LongerBack$Text" 123))) (by decide +kernel))
  | 7, 1, _, _ => exact Or.inr (flat_of_before _ hgv (.not (.eq (.string "LongerBack$Text" 50) (.string "LongerBack$Text" 123))) (by decide +kernel))
  | 7, 2, _, _ => exact Or.inr (flat_of_before _ hgv (.not (.eq (.string "LongerBack$Text" 55) (.string "LongerBack$Text" 123))) (by decide +kernel))
  | 7, 3, _, _ => exact Or.inr (flat_of_before _ hgv (.not (.eq (.string "LongerBack$Text" 65) (.string "LongerBack$Text" 123))) (by decide +kernel))
  | 7, 4, _, _ => exact Or.inr (flat_of_before _ hgv (.not (.eq (.string "LongerBack$Text" 82) (.string "LongerBack$Text" 123))) (by decide +kernel))
  | 7, 5, _, _ => exact Or.inr (flat_of_before _ hgv (.not (.eq (.string "LongerBack$Text" 88) (.string "LongerBack$Text" 123))) (by decide +kernel))
  | 7, 6, _, _ => exact Or.inr (flat_of_before _ hgv (.not (.eq (.string "LongerBack$Text" 118) (.string "LongerBack$Text" 123))) (by decide +kernel))
  | 7, 7, _, _ => exact absurd rfl hij
theorem x_ab {args : Array Value} {s : State} (hgv : (Jvm.Cond.and given_1 narrow_1).before args s = true) : ∀ j : Nat, j < 7 → (Term.elem (.static "LongerBack" "ABOVE" "[I") (.int (Int32.ofNat j))).eval args s none [] s = some (.int (([-1, 0, 0, 0, 1, 0, 2] : List Int32).getD j 0)) := by
  intro j hj
  match j, hj with
  | 0, _ => exact va_eqt (flat_of_before _ hgv (.eq (.elem (.static "LongerBack" "ABOVE" "[I") (.int 0)) (.int (-1))) (by decide +kernel))
  | 1, _ => exact va_eqt (flat_of_before _ hgv (.eq (.elem (.static "LongerBack" "ABOVE" "[I") (.int 1)) (.int 0)) (by decide +kernel))
  | 2, _ => exact va_eqt (flat_of_before _ hgv (.eq (.elem (.static "LongerBack" "ABOVE" "[I") (.int 2)) (.int 0)) (by decide +kernel))
  | 3, _ => exact va_eqt (flat_of_before _ hgv (.eq (.elem (.static "LongerBack" "ABOVE" "[I") (.int 3)) (.int 0)) (by decide +kernel))
  | 4, _ => exact va_eqt (flat_of_before _ hgv (.eq (.elem (.static "LongerBack" "ABOVE" "[I") (.int 4)) (.int 1)) (by decide +kernel))
  | 5, _ => exact va_eqt (flat_of_before _ hgv (.eq (.elem (.static "LongerBack" "ABOVE" "[I") (.int 5)) (.int 0)) (by decide +kernel))
  | 6, _ => exact va_eqt (flat_of_before _ hgv (.eq (.elem (.static "LongerBack" "ABOVE" "[I") (.int 6)) (.int 2)) (by decide +kernel))
theorem x_ST {b : Nat} {s : State} (hts : ∀ w ∈ lw_tbl, w.before #[Value.ref b] s = true) (hgv : (Jvm.Cond.and given_1 narrow_1).before #[Value.ref b] s = true) {A : Nat → Prop} (hA : ∀ a : Nat, a < s.heap.size → ¬ A a) : ∃ (ta : Nat) (sa sv : Nat → Nat), ST ta sa sv A s s.heap ∧ ∀ i : Nat, i < 8 → (x_tm i).eval #[Value.ref b] s none [] s = some (.ref (sa i)) := by
  obtain ⟨ta, h1, h2⟩ := va_Tof (tm := (.static "LongerBack" "ABOVE" "[I")) (ty := .int) (N := 7) (f := fun j => .int (([-1, 0, 0, 0, 1, 0, 2] : List Int32).getD j 0)) (A := A) (by omega) (flat_of_before _ hgv (.arrayOf (.static "LongerBack" "ABOVE" "[I") .int) (by decide +kernel)) (va_eqt (flat_of_before _ hgv (.eq (.length (.static "LongerBack" "ABOVE" "[I")) (.int 7)) (by decide +kernel))) (x_ab hgv) hA
  obtain ⟨sa, sv, h3, h4⟩ := vk_Sof (N := 8) (tm := x_tm) (len := xLen) (byt := xByt) (A := A) (fun i hi => Nat.lt_trans (xLen_lt i hi) (by omega)) (x_sx hgv) (x_sco hgv) (x_sa hgv) (x_sl hgv) (x_se hgv) (x_sn hgv) hA
  have hl1 : (Cond.laysStatic RX8 "ABOVE" "[I").before #[Value.ref b] s = true := hts _ (List.mem_append_right _ (List.mem_append_right _ (List.mem_append_right _ (List.mem_append_left _ (List.mem_of_getElem? (l := tables_1_3) (i := 38) (by decide +kernel))))))
  have hi1 : (Cond.initialized RX8).before #[Value.ref b] s = true := hts _ (List.mem_append_right _ (List.mem_append_left _ (List.mem_of_getElem? (l := tables_1_1) (i := 1) (by decide +kernel))))
  have hl2 : (Cond.laysStatic "java/lang/String" "COMPACT_STRINGS" "Z").before #[Value.ref b] s = true := hts _ (List.mem_append_right _ (List.mem_append_right _ (List.mem_append_right _ (List.mem_append_right _ (List.mem_append_left _ (List.mem_of_getElem? (l := tables_1_4) (i := 41) (by decide +kernel)))))))
  have hi2 : (Cond.initialized "java/lang/String").before #[Value.ref b] s = true := hts _ (List.mem_append_right _ (List.mem_append_left _ (List.mem_of_getElem? (l := tables_1_1) (i := 13) (by decide +kernel))))
  have hl3 : (Cond.laysStatic "jdk/internal/util/Preconditions" "SIOOBE_FORMATTER" "Ljava/util/function/BiFunction;").before #[Value.ref b] s = true := hts _ (List.mem_append_right _ (List.mem_append_right _ (List.mem_append_right _ (List.mem_append_right _ (List.mem_append_left _ (List.mem_of_getElem? (l := tables_1_4) (i := 57) (by decide +kernel)))))))
  have hi3 : (Cond.initialized "jdk/internal/util/Preconditions").before #[Value.ref b] s = true := hts _ (List.mem_append_right _ (List.mem_append_left _ (List.mem_of_getElem? (l := tables_1_1) (i := 15) (by decide +kernel))))
  exact ⟨ta, sa, sv, ⟨⟨va_Zref hl1 hi1 h1 hA, h2⟩, va_Zof hl2 hi2 (va_eqi (flat_of_before _ hgv (.eq (.static "java/lang/String" "COMPACT_STRINGS" "Z") (.int 1)) (by decide +kernel))) hA, va_Zqof hl3 hi3 (flat_of_before _ hgv (.isRef (.static "jdk/internal/util/Preconditions" "SIOOBE_FORMATTER" "Ljava/util/function/BiFunction;")) (by decide +kernel)) hA, h3⟩, h4⟩
