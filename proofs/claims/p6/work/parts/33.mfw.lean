/-- a walk of n open ways from a to b that comes to x -/
def fw_Wk (s : Nat → Int32) (P : Nat) : Nat → Nat → Nat → Int → Prop
  | 0, a, b, x => a = b ∧ x = 0
  | n + 1, a, b, x => ∃ r, r < P ∧ r ≠ a ∧ s (213 + 10 * a + r) = 1 ∧ fw_Wk s P n r b (x - (s (13 + 10 * a + r)).toInt)
theorem fw_Wk_s {s : Nat → Int32} {P n a b : Nat} {x : Int} : fw_Wk s P (n + 1) a b x = ∃ r, r < P ∧ r ≠ a ∧ s (213 + 10 * a + r) = 1 ∧ fw_Wk s P n r b (x - (s (13 + 10 * a + r)).toInt) := rfl
theorem fw_Wk_0 {s : Nat → Int32} {P a b : Nat} {x : Int} : fw_Wk s P 0 a b x = (a = b ∧ x = 0) := rfl
theorem fw_Wk.app {s : Nat → Int32} {P b c m : Nat} {y : Int} (h2 : fw_Wk s P m b c y) : ∀ {n a : Nat} {x : Int}, fw_Wk s P n a b x → fw_Wk s P (n + m) a c (x + y) := by
  intro n
  induction n with
  | zero =>
    intro a x h
    rw [fw_Wk_0] at h
    obtain ⟨e1, e2⟩ := h
    subst e1; subst e2
    rw [Nat.zero_add, Int.zero_add]; exact h2
  | succ n ih =>
    intro a x h
    rw [fw_Wk_s] at h
    obtain ⟨r, hr, ha, ho, h⟩ := h
    rw [show n + 1 + m = (n + m) + 1 by omega, fw_Wk_s]
    refine ⟨r, hr, ha, ho, ?_⟩
    rw [show x + y - (s (13 + 10 * a + r)).toInt = x - (s (13 + 10 * a + r)).toInt + y by omega]
    exact ih h
def fw_pw : Nat → Int
  | 0 => 1
  | m + 1 => 2 * fw_pw m
theorem fw_pw_s (m : Nat) : fw_pw (m + 1) = 2 * fw_pw m := rfl
theorem fw_pw_pos : ∀ m, 1 ≤ fw_pw m
  | 0 => by decide
  | m + 1 => by have := fw_pw_pos m; rw [fw_pw_s]; omega
theorem fw_pw_le : ∀ m, m < 11 → fw_pw m ≤ 1024 := by decide
def fw_ky (f g : Nat → Int32) (j : Nat) : Int := 4096 * (f j).toInt + (g j).toInt
theorem fw_addI {x y : Int32} (h1 : -2147483648 ≤ x.toInt + y.toInt) (h2 : x.toInt + y.toInt ≤ 2147483647) : (x + y).toInt = x.toInt + y.toInt := by
  rw [Int32.toInt_add, Int.bmod_eq_of_le (by omega) (by omega)]
theorem fw_NOT : (100000000 : Int32).toInt = 100000000 := by decide
def fw_jcn (X Y Z x y z : Int32) : Prop := ¬ X = 100000000 ∧ ¬ Y = 100000000 ∧ (X + Y < Z ∨ X + Y = Z ∧ x + y < z)
def fw_jvn (X Y Z x y z v n : Int32) : Prop := (fw_jcn X Y Z x y z ∧ v = X + Y ∧ n = x + y) ∨ (¬ fw_jcn X Y Z x y z ∧ v = Z ∧ n = z)
/-- a number of the table and how many: within bounds, or not there -/
def fw_bdn (B : Int) (X x : Int32) : Prop := X = 100000000 ∨ (-(999 * B) ≤ X.toInt ∧ X.toInt ≤ 999 * B ∧ 0 ≤ x.toInt ∧ x.toInt ≤ B)
theorem fw_bdn.of {B : Int} {X x : Int32} (h : fw_bdn B X x) (h1 : ¬ X = 100000000) : -(999 * B) ≤ X.toInt ∧ X.toInt ≤ 999 * B ∧ 0 ≤ x.toInt ∧ x.toInt ≤ B := h.resolve_left h1
theorem fw_jv_num {X Y Z x y z v n : Int32} {B : Int} (hB1 : 1 ≤ B) (hB : B ≤ 1024) (hX : fw_bdn B X x) (hY : fw_bdn B Y y) (hZ : fw_bdn B Z z) (hJ : fw_jvn X Y Z x y z v n) :
    (v = 100000000 ∧ Z = 100000000 ∧ (X = 100000000 ∨ Y = 100000000)) ∨
    (¬ v = 100000000 ∧ (-(999 * (2 * B)) ≤ v.toInt ∧ v.toInt ≤ 999 * (2 * B) ∧ 0 ≤ n.toInt ∧ n.toInt ≤ 2 * B) ∧ (¬ Z = 100000000 → 4096 * v.toInt + n.toInt ≤ 4096 * Z.toInt + z.toInt) ∧ (¬ X = 100000000 → ¬ Y = 100000000 → 4096 * v.toInt + n.toInt ≤ (4096 * X.toInt + x.toInt) + (4096 * Y.toInt + y.toInt)) ∧ ((¬ Z = 100000000 ∧ v = Z ∧ n = z) ∨ (¬ X = 100000000 ∧ ¬ Y = 100000000 ∧ v.toInt = X.toInt + Y.toInt ∧ n.toInt = x.toInt + y.toInt))) := by
  have hN := fw_NOT
  rcases hJ with ⟨⟨h1, h2, h3⟩, rfl, rfl⟩ | ⟨hn, rfl, rfl⟩
  · have bX := hX.of h1
    have bY := hY.of h2
    have e1 : (X + Y).toInt = X.toInt + Y.toInt := fw_addI (by omega) (by omega)
    have e3 : (x + y).toInt = x.toInt + y.toInt := fw_addI (by omega) (by omega)
    right
    refine ⟨?_, ⟨by omega, by omega, by omega, by omega⟩, ?_, ?_, Or.inr ⟨h1, h2, e1, e3⟩⟩
    · intro h
      have := congrArg Int32.toInt h
      omega
    · intro hz
      have bZ := hZ.of hz
      rcases h3 with h3 | ⟨h3, h4⟩
      · rw [Int32.lt_iff_toInt_lt] at h3
        omega
      · have h5 := congrArg Int32.toInt h3
        rw [Int32.lt_iff_toInt_lt] at h4
        omega
    · intro _ _
      omega
  · by_cases hz : v = 100000000
    · by_cases hx : X = 100000000
      · exact Or.inl ⟨hz, hz, Or.inl hx⟩
      · by_cases hy : Y = 100000000
        · exact Or.inl ⟨hz, hz, Or.inr hy⟩
        · exfalso
          have bX := hX.of hx
          have bY := hY.of hy
          have e1 : (X + Y).toInt = X.toInt + Y.toInt := fw_addI (by omega) (by omega)
          have e4 := congrArg Int32.toInt hz
          refine hn ⟨hx, hy, Or.inl ?_⟩
          rw [Int32.lt_iff_toInt_lt]
          omega
    · have bZ := hZ.of hz
      right
      refine ⟨hz, ⟨by omega, by omega, by omega, by omega⟩, fun _ => Int.le_refl _, ?_, Or.inl ⟨hz, rfl, rfl⟩⟩
      intro hx hy
      have bX := hX.of hx
      have bY := hY.of hy
      have e1 : (X + Y).toInt = X.toInt + Y.toInt := fw_addI (by omega) (by omega)
      have e3 : (x + y).toInt = x.toInt + y.toInt := fw_addI (by omega) (by omega)
      have q1 : ¬ X + Y < v := fun h => hn ⟨hx, hy, Or.inl h⟩
      rw [Int32.lt_iff_toInt_lt] at q1
      by_cases e : X + Y = v
      · have q2 : ¬ x + y < n := fun h => hn ⟨hx, hy, Or.inr ⟨e, h⟩⟩
        rw [Int32.lt_iff_toInt_lt] at q2
        have := congrArg Int32.toInt e
        omega
      · rw [← Int32.toInt_inj] at e
        omega
/-- the table is good for ways between that go over places below m -/
def fw_Gd (s : Nat → Int32) (P m : Nat) (f g : Nat → Int32) : Prop :=
  (∀ a b, a < P → b < P → fw_bdn (fw_pw m) (f (10 * a + b)) (g (10 * a + b)) ∧ (¬ f (10 * a + b) = 100000000 → fw_Wk s P (g (10 * a + b)).toInt.toNat a b (f (10 * a + b)).toInt)) ∧
  (∀ a, a < P → (f (10 * a + a)).toInt = 0 ∧ (g (10 * a + a)).toInt = 0) ∧
  (∀ a b, a < P → b < P → b ≠ a → s (213 + 10 * a + b) = 1 → ¬ f (10 * a + b) = 100000000 ∧ fw_ky f g (10 * a + b) ≤ 4096 * (s (13 + 10 * a + b)).toInt + 1) ∧
  (∀ k a b, k < m → k < P → a < P → b < P → ¬ f (10 * a + k) = 100000000 → ¬ f (10 * k + b) = 100000000 → ¬ f (10 * a + b) = 100000000 ∧ fw_ky f g (10 * a + b) ≤ fw_ky f g (10 * a + k) + fw_ky f g (10 * k + b))
def fw_JV (f g : Nat → Int32) (a m b : Nat) (v n : Int32) : Prop := fw_jvn (f (10 * a + m)) (f (10 * m + b)) (f (10 * a + b)) (g (10 * a + m)) (g (10 * m + b)) (g (10 * a + b)) v n
theorem fw_jv_ok {s f g : Nat → Int32} {P m a b : Nat} {v n : Int32} (hG : fw_Gd s P m f g) (hm : m < P) (hP : P ≤ 10) (ha : a < P) (hb : b < P) (hJ : fw_JV f g a m b v n) :
    (v = 100000000 ∧ f (10 * a + b) = 100000000 ∧ (f (10 * a + m) = 100000000 ∨ f (10 * m + b) = 100000000)) ∨
    (¬ v = 100000000 ∧ (-(999 * fw_pw (m + 1)) ≤ v.toInt ∧ v.toInt ≤ 999 * fw_pw (m + 1) ∧ 0 ≤ n.toInt ∧ n.toInt ≤ fw_pw (m + 1)) ∧ fw_Wk s P n.toInt.toNat a b v.toInt ∧ (¬ f (10 * a + b) = 100000000 → 4096 * v.toInt + n.toInt ≤ fw_ky f g (10 * a + b)) ∧ (¬ f (10 * a + m) = 100000000 → ¬ f (10 * m + b) = 100000000 → 4096 * v.toInt + n.toInt ≤ fw_ky f g (10 * a + m) + fw_ky f g (10 * m + b)) ∧ ((¬ f (10 * a + b) = 100000000 ∧ 4096 * v.toInt + n.toInt = fw_ky f g (10 * a + b)) ∨ (¬ f (10 * a + m) = 100000000 ∧ ¬ f (10 * m + b) = 100000000 ∧ 4096 * v.toInt + n.toInt = fw_ky f g (10 * a + m) + fw_ky f g (10 * m + b)))) := by
  obtain ⟨bX, wX⟩ := hG.1 a m ha hm
  obtain ⟨bY, wY⟩ := hG.1 m b hm hb
  obtain ⟨bZ, wZ⟩ := hG.1 a b ha hb
  rcases fw_jv_num (fw_pw_pos m) (fw_pw_le m (by omega)) bX bY bZ hJ with h | ⟨h1, h2, h3, h4, h5⟩
  · exact Or.inl h
  · refine Or.inr ⟨h1, by rw [fw_pw_s]; exact h2, ?_, h3, h4, ?_⟩
    · rcases h5 with ⟨a1, rfl, rfl⟩ | ⟨a1, a2, a3, a4⟩
      · exact wZ a1
      · have q1 := (bX.of a1).2.2.1
        have q2 := (bY.of a2).2.2.1
        rw [a3, a4, show (((g (10 * a + m)).toInt + (g (10 * m + b)).toInt).toNat) = (g (10 * a + m)).toInt.toNat + (g (10 * m + b)).toInt.toNat by omega]
        exact fw_Wk.app (wY a2) (wX a1)
    · rcases h5 with ⟨a1, rfl, rfl⟩ | ⟨a1, a2, a3, a4⟩
      · exact Or.inl ⟨a1, rfl⟩
      · refine Or.inr ⟨a1, a2, ?_⟩
        unfold fw_ky
        omega
theorem fw_Gd.diag {s f g : Nat → Int32} {P m a : Nat} (hG : fw_Gd s P m f g) (ha : a < P) : ¬ f (10 * a + a) = 100000000 ∧ fw_ky f g (10 * a + a) = 0 := by
  obtain ⟨h1, h2⟩ := hG.2.1 a ha
  refine ⟨fun h => ?_, by unfold fw_ky; omega⟩
  have := congrArg Int32.toInt h
  have := fw_NOT
  omega
/-- the row and the pillar of the place between stay -/
theorem fw_jv_row {s f g : Nat → Int32} {P m a : Nat} {v n : Int32} (hG : fw_Gd s P m f g) (hm : m < P) (hP : P ≤ 10) (ha : a < P) (hJ : fw_JV f g a m m v n) : v = f (10 * a + m) ∧ n = g (10 * a + m) := by
  rcases hJ with ⟨⟨h1, h2, h3⟩, -, -⟩ | ⟨-, h1, h2⟩
  · exfalso
    obtain ⟨d1, d2⟩ := hG.2.1 m hm
    have bX := ((hG.1 a m ha hm).1).of h1
    have hp := fw_pw_le m (by omega)
    have e1 : (f (10 * a + m) + f (10 * m + m)).toInt = (f (10 * a + m)).toInt + (f (10 * m + m)).toInt := fw_addI (by omega) (by omega)
    have e3 : (g (10 * a + m) + g (10 * m + m)).toInt = (g (10 * a + m)).toInt + (g (10 * m + m)).toInt := fw_addI (by omega) (by omega)
    rcases h3 with h3 | ⟨-, h3⟩
    · rw [Int32.lt_iff_toInt_lt] at h3; omega
    · rw [Int32.lt_iff_toInt_lt] at h3; omega
  · exact ⟨h1, h2⟩
theorem fw_jv_col {s f g : Nat → Int32} {P m b : Nat} {v n : Int32} (hG : fw_Gd s P m f g) (hm : m < P) (hP : P ≤ 10) (hb : b < P) (hJ : fw_JV f g m m b v n) : v = f (10 * m + b) ∧ n = g (10 * m + b) := by
  rcases hJ with ⟨⟨h1, h2, h3⟩, -, -⟩ | ⟨-, h1, h2⟩
  · exfalso
    obtain ⟨d1, d2⟩ := hG.2.1 m hm
    have bX := ((hG.1 m b hm hb).1).of h2
    have hp := fw_pw_le m (by omega)
    have e1 : (f (10 * m + m) + f (10 * m + b)).toInt = (f (10 * m + m)).toInt + (f (10 * m + b)).toInt := fw_addI (by omega) (by omega)
    have e3 : (g (10 * m + m) + g (10 * m + b)).toInt = (g (10 * m + m)).toInt + (g (10 * m + b)).toInt := fw_addI (by omega) (by omega)
    rcases h3 with h3 | ⟨-, h3⟩
    · rw [Int32.lt_iff_toInt_lt] at h3; omega
    · rw [Int32.lt_iff_toInt_lt] at h3; omega
  · exact ⟨h1, h2⟩
theorem fw_Gd.step {s f0 g0 f g : Nat → Int32} {P m : Nat} (hG : fw_Gd s P m f0 g0) (hm : m < P) (hP : P ≤ 10) (hJ : ∀ a b, a < P → b < P → fw_JV f0 g0 a m b (f (10 * a + b)) (g (10 * a + b))) (hd : ∀ i, i < P → ¬ f (10 * i + i) < 0) : fw_Gd s P (m + 1) f g := by
  have jv := fun a b ha hb => fw_jv_ok hG hm hP ha hb (hJ a b ha hb)
  have hN := fw_NOT
  have h0 : (0 : Int32).toInt = 0 := by decide
  refine ⟨?_, ?_, ?_, ?_⟩
  · intro a b ha hb
    rcases jv a b ha hb with ⟨h, -, -⟩ | ⟨h1, h2, h3, -⟩
    · exact ⟨Or.inl h, fun q => absurd h q⟩
    · exact ⟨Or.inr h2, fun _ => h3⟩
  · intro a ha
    have hi := hd a ha
    rw [Int32.lt_iff_toInt_lt] at hi
    obtain ⟨d1, d2⟩ := hG.diag ha
    rcases jv a a ha ha with ⟨-, h, -⟩ | ⟨h1, h2, h3, h4, -⟩
    · exact absurd h d1
    · have := h4 d1
      omega
  · intro a b ha hb hab ho
    obtain ⟨d1, d2⟩ := hG.2.2.1 a b ha hb hab ho
    rcases jv a b ha hb with ⟨-, h, -⟩ | ⟨h1, h2, h3, h4, -⟩
    · exact absurd h d1
    · exact ⟨h1, Int.le_trans (h4 d1) d2⟩
  · intro k a b hk hkP ha hb hak hkb
    have hc := hG.2.2.2
    rcases jv a k ha hkP with ⟨h, -, -⟩ | ⟨-, -, -, -, -, hA⟩
    · exact absurd h hak
    rcases jv k b hkP hb with ⟨h, -, -⟩ | ⟨-, -, -, -, -, hB⟩
    · exact absurd h hkb
    by_cases hkm : k = m
    · subst hkm
      obtain ⟨d1, d2⟩ := hG.diag hm
      have A : ¬ f0 (10 * a + k) = 100000000 ∧ fw_ky f g (10 * a + k) = fw_ky f0 g0 (10 * a + k) := by
        rcases hA with ⟨q1, q2⟩ | ⟨q1, q2, q3⟩
        · exact ⟨q1, q2⟩
        · refine ⟨q1, ?_⟩; rw [d2] at q3; unfold fw_ky at q3 ⊢; omega
      have B : ¬ f0 (10 * k + b) = 100000000 ∧ fw_ky f g (10 * k + b) = fw_ky f0 g0 (10 * k + b) := by
        rcases hB with ⟨q1, q2⟩ | ⟨q1, q2, q3⟩
        · exact ⟨q1, q2⟩
        · refine ⟨q2, ?_⟩; rw [d2] at q3; unfold fw_ky at q3 ⊢; omega
      rcases jv a b ha hb with ⟨-, -, h⟩ | ⟨h1, -, -, -, h5, -⟩
      · exact absurd h (fun h => h.elim A.1 B.1)
      · refine ⟨h1, ?_⟩
        have := h5 A.1 B.1
        rw [A.2, B.2]
        exact this
    · have hk2 : k < m := by omega
      rcases hA with ⟨p1, p2⟩ | ⟨p1, p2, p3⟩ <;> rcases hB with ⟨q1, q2⟩ | ⟨q1, q2, q3⟩
      · obtain ⟨c1, c2⟩ := hc k a b hk2 hkP ha hb p1 q1
        rcases jv a b ha hb with ⟨-, h, -⟩ | ⟨h1, -, -, h4, -, -⟩
        · exact absurd h c1
        · refine ⟨h1, ?_⟩
          have := h4 c1
          unfold fw_ky at *
          omega
      · obtain ⟨c1, c2⟩ := hc k a m hk2 hkP ha hm p1 q1
        rcases jv a b ha hb with ⟨-, -, h⟩ | ⟨h1, -, -, -, h5, -⟩
        · exact absurd h (fun h => h.elim c1 q2)
        · refine ⟨h1, ?_⟩
          have := h5 c1 q2
          unfold fw_ky at *
          omega
      · obtain ⟨c1, c2⟩ := hc k m b hk2 hkP hm hb p2 q1
        rcases jv a b ha hb with ⟨-, -, h⟩ | ⟨h1, -, -, -, h5, -⟩
        · exact absurd h (fun h => h.elim p1 c1)
        · refine ⟨h1, ?_⟩
          have := h5 p1 c1
          unfold fw_ky at *
          omega
      · obtain ⟨c1, c2⟩ := hc k m m hk2 hkP hm hm p2 q1
        have d2 := (hG.diag hm).2
        rcases jv a b ha hb with ⟨-, -, h⟩ | ⟨h1, -, -, -, h5, -⟩
        · exact absurd h (fun h => h.elim p1 q2)
        · refine ⟨h1, ?_⟩
          have := h5 p1 q2
          rw [d2] at c2
          unfold fw_ky at *
          omega
theorem fw_Gd.same {s f g f2 g2 : Nat → Int32} {P m : Nat} (h : fw_Gd s P m f g) (e : ∀ a b, a < P → b < P → f2 (10 * a + b) = f (10 * a + b) ∧ g2 (10 * a + b) = g (10 * a + b)) : fw_Gd s P m f2 g2 := by
  have ek : ∀ a b, a < P → b < P → fw_ky f2 g2 (10 * a + b) = fw_ky f g (10 * a + b) := fun a b ha hb => by
    unfold fw_ky; rw [(e a b ha hb).1, (e a b ha hb).2]
  refine ⟨?_, ?_, ?_, ?_⟩
  · intro a b ha hb
    rw [(e a b ha hb).1, (e a b ha hb).2]; exact h.1 a b ha hb
  · intro a ha
    rw [(e a a ha ha).1, (e a a ha ha).2]; exact h.2.1 a ha
  · intro a b ha hb
    rw [(e a b ha hb).1, ek a b ha hb]; exact h.2.2.1 a b ha hb
  · intro k a b hk hkP ha hb
    rw [(e a b ha hb).1, (e a k ha hkP).1, (e k b hkP hb).1, ek a b ha hb, ek a k ha hkP, ek k b hkP hb]; exact h.2.2.2 k a b hk hkP ha hb
/-- how the table is at its start -/
def fw_IV (s f g : Nat → Int32) (a b : Nat) : Prop := (a = b ∧ f (10 * a + b) = 0 ∧ g (10 * a + b) = 0) ∨ (b ≠ a ∧ g (10 * a + b) = 1 ∧ ((s (213 + 10 * a + b) = 1 ∧ f (10 * a + b) = s (13 + 10 * a + b)) ∨ (¬ s (213 + 10 * a + b) = 1 ∧ f (10 * a + b) = 100000000)))
theorem fw_Gd.start {s f g : Nat → Int32} {P : Nat} (hP : P ≤ 10) (hM : MI s) (h : ∀ a b, a < P → b < P → fw_IV s f g a b) : fw_Gd s P 0 f g := by
  have hN := fw_NOT
  have h0 : (0 : Int32).toInt = 0 := by decide
  have h1 : (1 : Int32).toInt = 1 := by decide
  have hp : fw_pw 0 = 1 := rfl
  refine ⟨?_, ?_, ?_, ?_⟩
  · intro a b ha hb
    rcases h a b ha hb with ⟨e, e1, e2⟩ | ⟨e, e2, ⟨o, e1⟩ | ⟨o, e1⟩⟩
    · subst e
      rw [e1, e2, h0, hp]
      refine ⟨Or.inr ⟨by omega, by omega, by omega, by omega⟩, fun _ => ?_⟩
      exact ⟨rfl, rfl⟩
    · have hm := hM (13 + 10 * a + b) (by omega) (by omega)
      rw [e1, e2, hp]
      refine ⟨Or.inr ⟨by omega, by omega, by omega, by omega⟩, fun _ => ?_⟩
      rw [h1, show (1 : Int).toNat = 0 + 1 from rfl, fw_Wk_s]
      refine ⟨b, hb, e, o, rfl, by omega⟩
    · exact ⟨Or.inl e1, fun q => absurd e1 q⟩
  · intro a ha
    rcases h a a ha ha with ⟨e, e1, e2⟩ | ⟨e, -⟩
    · rw [e1, e2]; exact ⟨h0, h0⟩
    · exact absurd rfl e
  · intro a b ha hb hab ho
    rcases h a b ha hb with ⟨e, -⟩ | ⟨e, e2, ⟨o, e1⟩ | ⟨o, -⟩⟩
    · exact absurd e.symm hab
    · have hm := hM (13 + 10 * a + b) (by omega) (by omega)
      unfold fw_ky
      rw [e1, e2, h1]
      refine ⟨fun q => ?_, Int.le_refl _⟩
      have := congrArg Int32.toInt q
      omega
    · exact absurd ho o
  · intro k a b hk
    omega
def fw_II (s : Nat → Int32) (P p q : Nat) (f g : Nat → Int32) : Prop := ∀ a b, a < P → b < P → (a < p ∨ a = p ∧ b < q) → fw_IV s f g a b
theorem fw_II.zero {s : Nat → Int32} {P : Nat} {f g : Nat → Int32} : fw_II s P 0 0 f g := fun a b _ _ h => by omega
theorem fw_II.put {s : Nat → Int32} {P p q : Nat} {f g f2 g2 : Nat → Int32} {v n : Int32} (h : fw_II s P p q f g) (hp : p < P) (hq : q < P) (hP : P ≤ 10) (e1 : f2 = upd f (10 * p + q) v) (e2 : g2 = upd g (10 * p + q) n) (hv : (p = q ∧ v = 0 ∧ n = 0) ∨ (q ≠ p ∧ n = 1 ∧ ((s (213 + 10 * p + q) = 1 ∧ v = s (13 + 10 * p + q)) ∨ (¬ s (213 + 10 * p + q) = 1 ∧ v = 100000000)))) : fw_II s P p (q + 1) f2 g2 := by
  intro a b ha hb hab
  unfold fw_IV
  rw [e1, e2]
  by_cases e : a = p ∧ b = q
  · obtain ⟨rfl, rfl⟩ := e
    rw [pk_us, pk_us]
    exact hv
  · rw [pk_un (by omega), pk_un (by omega)]
    exact h a b ha hb (by omega)
theorem fw_II.row {s : Nat → Int32} {P p q : Nat} {f g : Nat → Int32} (h : fw_II s P p q f g) (hq : P ≤ q) : fw_II s P (p + 1) 0 f g := fun a b ha hb _ => h a b ha hb (by omega)
/-- a loop that comes to less than nothing -/
def fw_NL (s : Nat → Int32) (P : Nat) (f : Nat → Int32) : Prop := ∃ i, i < P ∧ f (10 * i + i) < 0 ∧ ∃ n x, fw_Wk s P n i i x ∧ x < 0
def fw_FW (s : Nat → Int32) (P m p q : Nat) (f g : Nat → Int32) : Prop := fw_NL s P f ∨ ∃ f0 g0, fw_Gd s P m f0 g0 ∧ ∀ a b, a < P → b < P → ((a < p ∨ a = p ∧ b < q) ∧ fw_JV f0 g0 a m b (f (10 * a + b)) (g (10 * a + b))) ∨ (¬ (a < p ∨ a = p ∧ b < q) ∧ f (10 * a + b) = f0 (10 * a + b) ∧ g (10 * a + b) = g0 (10 * a + b))
theorem fw_FW.start {s : Nat → Int32} {P p : Nat} {f g : Nat → Int32} (hP : P ≤ 10) (hM : MI s) (h : fw_II s P p 0 f g) (hp : P ≤ p) : fw_FW s P 0 0 0 f g :=
  Or.inr ⟨f, g, fw_Gd.start hP hM (fun a b ha hb => h a b ha hb (by omega)), fun a b _ _ => Or.inr ⟨by omega, rfl, rfl⟩⟩
def fw_JN (f g : Nat → Int32) (p m q : Nat) (f2 g2 : Nat → Int32) : Prop :=
  (fw_jcn (f (10 * p + m)) (f (10 * m + q)) (f (10 * p + q)) (g (10 * p + m)) (g (10 * m + q)) (g (10 * p + q)) ∧ f2 = upd f (10 * p + q) (f (10 * p + m) + f (10 * m + q)) ∧ g2 = upd g (10 * p + q) (g (10 * p + m) + g (10 * m + q))) ∨
  (¬ fw_jcn (f (10 * p + m)) (f (10 * m + q)) (f (10 * p + q)) (g (10 * p + m)) (g (10 * m + q)) (g (10 * p + q)) ∧ f2 = f ∧ g2 = g)
section fw_JNs
variable {f g f2 g2 : Nat → Int32} {p m q : Nat}
theorem fw_JN.n1 (h : f (10 * p + m) = 100000000) : fw_JN f g p m q f g := Or.inr ⟨fun q => q.1 h, rfl, rfl⟩
theorem fw_JN.n2 (h : f (10 * m + q) = 100000000) : fw_JN f g p m q f g := Or.inr ⟨fun q => q.2.1 h, rfl, rfl⟩
theorem fw_JN.n3 (h : ¬ f (10 * p + m) + f (10 * m + q) < f (10 * p + q)) (h2 : ¬ f (10 * p + m) + f (10 * m + q) = f (10 * p + q)) : fw_JN f g p m q f g := Or.inr ⟨fun q => q.2.2.elim h (fun q => h2 q.1), rfl, rfl⟩
theorem fw_JN.n4 (h : ¬ f (10 * p + m) + f (10 * m + q) < f (10 * p + q)) (h2 : g (10 * p + q) ≤ g (10 * p + m) + g (10 * m + q)) : fw_JN f g p m q f g := Or.inr ⟨fun q => q.2.2.elim h (fun q => absurd h2 (Int32.not_le.mpr q.2)), rfl, rfl⟩
theorem fw_JN.y1 (h1 : ¬ f (10 * p + m) = 100000000) (h2 : ¬ f (10 * m + q) = 100000000) (h3 : f (10 * p + m) + f (10 * m + q) < f (10 * p + q)) (e1 : f2 = upd f (10 * p + q) (f (10 * p + m) + f (10 * m + q))) (e2 : g2 = upd g (10 * p + q) (g (10 * p + m) + g (10 * m + q))) : fw_JN f g p m q f2 g2 := Or.inl ⟨⟨h1, h2, Or.inl h3⟩, e1, e2⟩
theorem fw_JN.y2 (h1 : ¬ f (10 * p + m) = 100000000) (h2 : ¬ f (10 * m + q) = 100000000) (h3 : f (10 * p + m) + f (10 * m + q) = f (10 * p + q)) (h4 : ¬ g (10 * p + q) ≤ g (10 * p + m) + g (10 * m + q)) (e1 : f2 = upd f (10 * p + q) (f (10 * p + m) + f (10 * m + q))) (e2 : g2 = upd g (10 * p + q) (g (10 * p + m) + g (10 * m + q))) : fw_JN f g p m q f2 g2 := Or.inl ⟨⟨h1, h2, Or.inr ⟨h3, Int32.not_le.mp h4⟩⟩, e1, e2⟩
end fw_JNs
theorem fw_FW.step {s f g f2 g2 : Nat → Int32} {P m p q : Nat} (h : fw_FW s P m p q f g) (hm : m < P) (hp : p < P) (hq : q < P) (hP : P ≤ 10) (hJ : fw_JN f g p m q f2 g2) : fw_FW s P m p (q + 1) f2 g2 := by
  rcases h with ⟨i, hi, hf, hw⟩ | ⟨f0, g0, hG, H⟩
  · refine Or.inl ⟨i, hi, ?_, hw⟩
    rcases hJ with ⟨hc, e1, -⟩ | ⟨-, e1, -⟩
    · rw [e1]
      by_cases e : 10 * i + i = 10 * p + q
      · rw [e, pk_us]
        rw [e] at hf
        rcases hc.2.2 with h | ⟨h, -⟩
        · exact Int32.lt_trans h hf
        · rw [h]; exact hf
      · rw [pk_un e]; exact hf
    · rw [e1]; exact hf
  · refine Or.inr ⟨f0, g0, hG, ?_⟩
    have A : f (10 * p + m) = f0 (10 * p + m) ∧ g (10 * p + m) = g0 (10 * p + m) := by
      rcases H p m hp hm with ⟨-, h⟩ | ⟨-, h⟩
      · exact fw_jv_row hG hm hP hp h
      · exact h
    have B : f (10 * m + q) = f0 (10 * m + q) ∧ g (10 * m + q) = g0 (10 * m + q) := by
      rcases H m q hm hq with ⟨-, h⟩ | ⟨-, h⟩
      · exact fw_jv_col hG hm hP hq h
      · exact h
    have C : f (10 * p + q) = f0 (10 * p + q) ∧ g (10 * p + q) = g0 (10 * p + q) := by
      rcases H p q hp hq with ⟨h, -⟩ | ⟨-, h⟩
      · exfalso; omega
      · exact h
    unfold fw_JN at hJ
    rw [A.1, A.2, B.1, B.2, C.1, C.2] at hJ
    intro a b ha hb
    by_cases e : a = p ∧ b = q
    · obtain ⟨rfl, rfl⟩ := e
      refine Or.inl ⟨by omega, ?_⟩
      rcases hJ with ⟨hc, e1, e2⟩ | ⟨hc, e1, e2⟩
      · refine Or.inl ⟨hc, ?_, ?_⟩
        · rw [e1, pk_us]
        · rw [e2, pk_us]
      · refine Or.inr ⟨hc, ?_, ?_⟩
        · rw [e1]; exact C.1
        · rw [e2]; exact C.2
    · have E : f2 (10 * a + b) = f (10 * a + b) ∧ g2 (10 * a + b) = g (10 * a + b) := by
        rcases hJ with ⟨-, e1, e2⟩ | ⟨-, e1, e2⟩
        · rw [e1, e2, pk_un (by omega), pk_un (by omega)]; exact ⟨rfl, rfl⟩
        · rw [e1, e2]; exact ⟨rfl, rfl⟩
      rw [E.1, E.2]
      rcases H a b ha hb with ⟨h, h2⟩ | ⟨h, h2⟩
      · exact Or.inl ⟨by omega, h2⟩
      · exact Or.inr ⟨by omega, h2⟩
theorem fw_FW.row {s f g : Nat → Int32} {P m p q : Nat} (h : fw_FW s P m p q f g) (hq : P ≤ q) : fw_FW s P m (p + 1) 0 f g := by
  rcases h with h | ⟨f0, g0, hG, H⟩
  · exact Or.inl h
  · refine Or.inr ⟨f0, g0, hG, fun a b ha hb => ?_⟩
    rcases H a b ha hb with ⟨h, h2⟩ | ⟨h, h2⟩
    · exact Or.inl ⟨by omega, h2⟩
    · exact Or.inr ⟨by omega, h2⟩
theorem fw_FW.next {s f g : Nat → Int32} {P m p : Nat} (h : fw_FW s P m p 0 f g) (hp : P ≤ p) (hm : m < P) (hP : P ≤ 10) : fw_FW s P (m + 1) 0 0 f g := by
  rcases h with h | ⟨f0, g0, hG, H⟩
  · exact Or.inl h
  · have hJ : ∀ a b, a < P → b < P → fw_JV f0 g0 a m b (f (10 * a + b)) (g (10 * a + b)) := by
      intro a b ha hb
      rcases H a b ha hb with ⟨-, h⟩ | ⟨h, -⟩
      · exact h
      · exfalso; omega
    by_cases hd : ∃ i, i < P ∧ f (10 * i + i) < 0
    · obtain ⟨i, hi, hf⟩ := hd
      refine Or.inl ⟨i, hi, hf, ?_⟩
      rcases fw_jv_ok hG hm hP hi hi (hJ i i hi hi) with ⟨-, h, -⟩ | ⟨-, -, hw, -⟩
      · exact absurd h (hG.diag hi).1
      · rw [Int32.lt_iff_toInt_lt] at hf
        exact ⟨_, _, hw, hf⟩
    · refine Or.inr ⟨f, g, fw_Gd.step hG hm hP hJ (fun i hi hf => hd ⟨i, hi, hf⟩), fun a b _ _ => Or.inr ⟨by omega, rfl, rfl⟩⟩
/-- whether a loop has been seen among the first i -/
def fw_LB (P i : Nat) (b : Int32) (f : Nat → Int32) : Prop := (b = 1 ∧ ∃ j, j < P ∧ f (11 * j) < 0) ∨ (b = 0 ∧ ∀ j, j < i → ¬ f (11 * j) < 0)
theorem fw_LB.z {P : Nat} {f : Nat → Int32} : fw_LB P 0 0 f := Or.inr ⟨rfl, fun j hj => by omega⟩
theorem fw_LB.t {P i : Nat} {b : Int32} {f : Nat → Int32} (h : fw_LB P i b f) (hb : ¬ b = 0) : fw_LB P (i + 1) 1 f := by
  rcases h with ⟨-, h⟩ | ⟨h, -⟩
  · exact Or.inl ⟨rfl, h⟩
  · exact absurd h hb
theorem fw_LB.y {P i : Nat} {f : Nat → Int32} (hi : i < P) (h : ¬ 0 ≤ f (11 * i)) : fw_LB P (i + 1) 1 f := Or.inl ⟨rfl, i, hi, Int32.not_le.mp h⟩
theorem fw_LB.n {P i : Nat} {b : Int32} {f : Nat → Int32} (h : fw_LB P i b f) (hb : b = 0) (h2 : 0 ≤ f (11 * i)) : fw_LB P (i + 1) 0 f := by
  subst hb
  rcases h with ⟨h, -⟩ | ⟨-, h⟩
  · exact absurd h (by decide)
  · refine Or.inr ⟨rfl, fun j hj => ?_⟩
    by_cases e : j = i
    · subst e; exact Int32.not_lt.mpr h2
    · exact h j (by omega)
def fw_Fin (s : Nat → Int32) (P : Nat) (b : Int32) (f g : Nat → Int32) : Prop := (b = 1 ∧ fw_NL s P f) ∨ (b = 0 ∧ fw_Gd s P P f g)
theorem fw_FW.fin {s f g : Nat → Int32} {P m i : Nat} {b : Int32} (h : fw_FW s P m 0 0 f g) (hm : m = P) (hb : fw_LB P i b f) (hi : P ≤ i) : fw_Fin s P b f g := by
  subst hm
  have e : ∀ j, 11 * j = 10 * j + j := fun j => by omega
  rcases h with h | ⟨f0, g0, hG, H⟩
  · rcases hb with ⟨hb, -⟩ | ⟨-, hb⟩
    · exact Or.inl ⟨hb, h⟩
    · obtain ⟨j, hj, hf, -⟩ := h
      have := hb j (by omega)
      rw [e] at this
      exact absurd hf this
  · have G : fw_Gd s m m f g := by
      refine fw_Gd.same hG (fun a b ha hb => ?_)
      rcases H a b ha hb with ⟨h, -⟩ | ⟨-, h⟩
      · exfalso; omega
      · exact h
    rcases hb with ⟨-, j, hj, hf⟩ | ⟨hb, -⟩
    · exfalso
      rw [e, Int32.lt_iff_toInt_lt, (G.2.1 j hj).1] at hf
      exact absurd hf (by decide)
    · exact Or.inr ⟨hb, G⟩
theorem fw_Fin.g {s f g : Nat → Int32} {P : Nat} {b : Int32} (h : fw_Fin s P b f g) (hb : b = 0) : fw_Gd s P P f g := by
  rcases h with ⟨h, -⟩ | ⟨-, h⟩
  · rw [h] at hb; exact absurd hb (by decide)
  · exact h
theorem fw_Gd.walk {s f g : Nat → Int32} {P b : Nat} (hG : fw_Gd s P P f g) (hb : b < P) : ∀ {n r : Nat} {x : Int}, r < P → fw_Wk s P n r b x → ¬ f (10 * r + b) = 100000000 ∧ fw_ky f g (10 * r + b) ≤ 4096 * x + n := by
  intro n
  induction n with
  | zero =>
    intro r x hr h
    rw [fw_Wk_0] at h
    obtain ⟨e1, e2⟩ := h
    subst e1; subst e2
    obtain ⟨d1, d2⟩ := hG.diag hr
    refine ⟨d1, ?_⟩
    rw [d2]; omega
  | succ n ih =>
    intro r x hr h
    rw [fw_Wk_s] at h
    obtain ⟨t, ht, hne, ho, h⟩ := h
    obtain ⟨a1, a2⟩ := ih ht h
    obtain ⟨b1, b2⟩ := hG.2.2.1 r t hr ht hne ho
    obtain ⟨c1, c2⟩ := hG.2.2.2 t r b ht ht hr hb b1 a1
    refine ⟨c1, ?_⟩
    omega
/-- whether the next stop of the best way from y to k is r -/
def fw_BC (s f g : Nat → Int32) (y k r : Nat) : Prop := r ≠ y ∧ s (213 + 10 * y + r) = 1 ∧ ¬ f (10 * r + k) = 100000000 ∧ s (13 + 10 * y + r) + f (10 * r + k) = f (10 * y + k) ∧ g (10 * r + k) + 1 = g (10 * y + k)
theorem fw_Gd.edge {s f g : Nat → Int32} {P a b : Nat} (hG : fw_Gd s P P f g) (hP : P ≤ 10) (hM : MI s) (ha : a < P) (hb : b < P) (hab : a ≠ b) (hf : ¬ f (10 * a + b) = 100000000) : ∃ r, r < P ∧ fw_BC s f g a b r := by
  obtain ⟨b1, w1⟩ := hG.1 a b ha hb
  have b1 := b1.of hf
  have w1 := w1 hf
  have hp := fw_pw_le P (by omega)
  obtain ⟨n, hn⟩ : ∃ n, (g (10 * a + b)).toInt.toNat = n := ⟨_, rfl⟩
  rw [hn] at w1
  cases n with
  | zero => rw [fw_Wk_0] at w1; exact absurd w1.1 hab
  | succ n =>
    rw [fw_Wk_s] at w1
    obtain ⟨r, hr, hne, ho, hw⟩ := w1
    obtain ⟨c1, c2⟩ := hG.walk hb hr hw
    obtain ⟨e1, e2⟩ := hG.2.2.1 a r ha hr hne ho
    obtain ⟨-, d2⟩ := hG.2.2.2 r a b hr hr ha hb e1 c1
    have b2 := ((hG.1 r b hr hb).1).of c1
    have hm := hM (13 + 10 * a + r) (by omega) (by omega)
    unfold fw_ky at c2 e2 d2
    have h1 : (1 : Int32).toInt = 1 := by decide
    refine ⟨r, hr, hne, ho, c1, ?_, ?_⟩
    · rw [← Int32.toInt_inj, fw_addI (by omega) (by omega)]
      omega
    · rw [← Int32.toInt_inj, fw_addI (by omega) (by omega)]
      omega
/-- the search for the next stop, from above down to n -/
def fw_BX (s f g : Nat → Int32) (P y k n : Nat) (x : Int32) : Prop := (x = -1 ∧ ∀ r, n ≤ r → r < P → ¬ fw_BC s f g y k r) ∨ ∃ z, z < P ∧ x = nI z ∧ fw_BC s f g y k z
theorem fw_BX.start {s f g : Nat → Int32} {P y k n : Nat} (h : P ≤ n) : fw_BX s f g P y k n (-1) := Or.inl ⟨rfl, fun r _ _ => by omega⟩
theorem fw_BX.no {s f g : Nat → Int32} {P y k n z : Nat} {x : Int32} (h : fw_BX s f g P y k n x) (e : z + 1 = n) (hz : ¬ fw_BC s f g y k z) : fw_BX s f g P y k z x := by
  rcases h with ⟨h1, h2⟩ | h
  · refine Or.inl ⟨h1, fun r h3 h4 => ?_⟩
    by_cases q : r = z
    · subst q; exact hz
    · exact h2 r (by omega) h4
  · exact Or.inr h
theorem x_dn {u : Int32} {n : Nat} (h : u = nI n - 1) (hn : n ≤ 10) (h0 : ¬ u < 0) : ∃ y, y + 1 = n ∧ u = nI y := by
  subst h
  by_cases e : n = 0
  · subst e; exact absurd (by decide) h0
  · exact ⟨n - 1, by omega, pk_sub (a := n) (b := 1) (by omega)⟩
theorem x_dn0 {u : Int32} {n : Nat} (h : u = nI n - 1) (hn : n ≤ 10) (h0 : u < 0) : n = 0 := by
  subst h
  by_cases e : n = 0
  · exact e
  · exfalso
    have e2 : nI n - 1 = nI (n - 1) := pk_sub (a := n) (b := 1) (by omega)
    rw [e2, Int32.lt_iff_toInt_lt, nI_toInt (by omega)] at h0
    have : (0 : Int32).toInt = 0 := by decide
    omega
/-- one step of the way there -/
def fw_BS (f g : Nat → Int32) (P k w i y : Nat) : Prop := y < P ∧ ¬ f (10 * y + k) = 100000000 ∧ (w : Int) ≤ (i : Int) + (g (10 * y + k)).toInt
theorem fw_BS.next {s f g : Nat → Int32} {P y k n w i : Nat} {x u : Int32} (hG : fw_Gd s P P f g) (hP : P ≤ 10) (hM : MI s) (hk : k < P) (hy : fw_BS f g P k w i y) (hw : i < w) (hx : fw_BX s f g P y k n x) (hu : u = nI n - 1) (hn : n ≤ P) (h0 : u < 0) : ∃ z, (z < P ∧ fw_BS f g P k w (i + 1) z) ∧ x = nI z := by
  have hn0 := x_dn0 hu (by omega) h0
  subst hn0
  obtain ⟨hy1, hf, hg⟩ := hy
  have hyk : y ≠ k := by
    intro e
    subst e
    have := (hG.2.1 y hy1).2
    omega
  rcases hx with ⟨-, h2⟩ | ⟨z, hz, e, hb⟩
  · obtain ⟨r, hr, hb⟩ := hG.edge hP hM hy1 hk hyk hf
    exact absurd hb (h2 r (by omega) hr)
  · refine ⟨z, ⟨hz, hz, hb.2.2.1, ?_⟩, e⟩
    have b2 := ((hG.1 z k hz hk).1).of hb.2.2.1
    have hp := fw_pw_le P (by omega)
    have h1 : (1 : Int32).toInt = 1 := by decide
    have := hb.2.2.2.2
    rw [← Int32.toInt_inj, fw_addI (by omega) (by omega)] at this
    omega
theorem fw_BS.start {f g : Nat → Int32} {P k w j : Nat} (hj : j < P) (hw : w ≤ 9) (hf : ¬ f (10 * j + k) = 100000000) (h : nI w ≤ g (10 * j + k)) : fw_BS f g P k w 0 j := by
  refine ⟨hj, hf, ?_⟩
  rw [Int32.le_iff_toInt_le, nI_toInt (by omega)] at h
  omega
