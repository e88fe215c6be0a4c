/-- which numbers may stand where in the reference's row -/
def okS (j : Nat) (v : Int32) : Prop := (∀ r i, r < 8 → i < 6 → j = 313 + 8 * r + 2 + i → ∃ y, y < 10 ∧ v = nI y) ∧ (∀ r, r < 8 → j = 313 + 8 * r + 1 → ∃ q, q < 7 ∧ v = nI q) ∧ (∀ w i, w < 8 → i < 6 → j = 377 + 9 * w + 3 + i → ∃ y, y < 10 ∧ v = nI y) ∧ (∀ w, w < 8 → j = 377 + 9 * w → ∃ q, q < 7 ∧ v = nI q)
def SI (s : Nat → Int32) : Prop := ∀ j, okS j (s j)
theorem SI.upd {s : Nat → Int32} {k : Nat} {v : Int32} (h : SI s) (hv : okS k v) : SI (upd s k v) := by
  intro j
  by_cases e : j = k
  · subst e; rw [pk_us]; exact hv
  · rw [pk_un e]; exact h j
theorem okS.low {k : Nat} {v : Int32} (h : k < 313) : okS k v := ⟨fun r i _ _ e => by omega, fun r _ e => by omega, fun r i _ _ e => by omega, fun r _ e => by omega⟩
theorem okS.kind {k r : Nat} {v : Int32} (h : r < 8) (e : k = 313 + 8 * r) : okS k v := ⟨fun r i _ _ e => by omega, fun r _ e => by omega, fun r i _ _ e => by omega, fun r _ e => by omega⟩
theorem okS.rl {k r q : Nat} (h : r < 8) (e : k = 313 + 8 * r + 1) (hq : q < 7) : okS k (nI q) := ⟨fun r i _ _ e => by omega, fun r _ e => ⟨q, hq, rfl⟩, fun r i _ _ e => by omega, fun r _ e => by omega⟩
theorem okS.rs {k r i y : Nat} (h : r < 8) (hi : i < 6) (e : k = 313 + 8 * r + 2 + i) (hy : y < 10) : okS k (nI y) := ⟨fun r i _ _ e => ⟨y, hy, rfl⟩, fun r _ e => by omega, fun r i _ _ e => by omega, fun r _ e => by omega⟩
theorem okS.wl {k w q : Nat} (h : w < 8) (e : k = 377 + 9 * w) (hq : q < 7) : okS k (nI q) := ⟨fun r i _ _ e => by omega, fun r _ e => by omega, fun r i _ _ e => by omega, fun r _ e => ⟨q, hq, rfl⟩⟩
theorem okS.wt {k w : Nat} {v : Int32} (h : w < 8) (e : k = 377 + 9 * w + 1 ∨ k = 377 + 9 * w + 2) : okS k v := ⟨fun r i _ _ e => by omega, fun r _ e => by omega, fun r i _ _ e => by omega, fun r _ e => by omega⟩
theorem okS.ws {k w i y : Nat} (h : w < 8) (hi : i < 6) (e : k = 377 + 9 * w + 3 + i) (hy : y < 10) : okS k (nI y) := ⟨fun r i _ _ e => by omega, fun r _ e => by omega, fun r i _ _ e => ⟨y, hy, rfl⟩, fun r _ e => by omega⟩
theorem SI.rs {s : Nat → Int32} (h : SI s) {j : Nat} (r i : Nat) (hr : r < 8) (hi : i < 6) (e : j = 313 + 8 * r + 2 + i) : ∃ y, y < 10 ∧ s j = nI y := (h j).1 r i hr hi e
theorem SI.rl {s : Nat → Int32} (h : SI s) {j : Nat} (r : Nat) (hr : r < 8) (e : j = 313 + 8 * r + 1) : ∃ y, y < 7 ∧ s j = nI y := (h j).2.1 r hr e
theorem SI.ws {s : Nat → Int32} (h : SI s) {j : Nat} (w i : Nat) (hr : w < 8) (hi : i < 6) (e : j = 377 + 9 * w + 3 + i) : ∃ y, y < 10 ∧ s j = nI y := (h j).2.2.1 w i hr hi e
theorem SI.wl {s : Nat → Int32} (h : SI s) {j : Nat} (w : Nat) (hr : w < 8) (e : j = 377 + 9 * w) : ∃ y, y < 7 ∧ s j = nI y := (h j).2.2.2 w hr e
theorem SI.zero : SI (fun _ => 0) := fun j => ⟨fun _ _ _ _ _ => ⟨0, by decide, rfl⟩, fun _ _ _ => ⟨0, by decide, rfl⟩, fun _ _ _ _ _ => ⟨0, by decide, rfl⟩, fun _ _ _ => ⟨0, by decide, rfl⟩⟩
theorem SI.same {s t : Nat → Int32} (h : SI s) (e : ∀ j, j < 449 → t j = s j) : SI t := by
  intro j
  by_cases q : j < 449
  · rw [e j q]; exact h j
  · exact ⟨fun r i _ _ e => by omega, fun r _ e => by omega, fun r i _ _ e => by omega, fun r _ e => by omega⟩
/-- the least miles -/
def okM (j : Nat) (v : Int32) : Prop := 13 ≤ j → j < 113 → -99 ≤ v.toInt ∧ v.toInt ≤ 999
def MI (s : Nat → Int32) : Prop := ∀ j, okM j (s j)
theorem MI.upd {s : Nat → Int32} {k : Nat} {v : Int32} (h : MI s) (hv : okM k v) : MI (upd s k v) := by
  intro j
  by_cases e : j = k
  · subst e; rw [pk_us]; exact hv
  · rw [pk_un e]; exact h j
theorem okM.out {k : Nat} {v : Int32} (h : k < 13 ∨ 113 ≤ k) : okM k v := fun _ _ => by omega
theorem MI.zero : MI (fun _ => 0) := fun j _ _ => by show -99 ≤ (0 : Int32).toInt ∧ (0 : Int32).toInt ≤ 999; decide
/-- a round that is there has one stop or more -/
def okR (j : Nat) (v : Int32) : Prop := ∀ r, r < 8 → j = 313 + 8 * r + 1 → ∃ q, 1 ≤ q ∧ q < 7 ∧ v = nI q
def RI (R : Nat) (s : Nat → Int32) : Prop := R ≤ 8 → ∀ r, r < R → ∃ q, 1 ≤ q ∧ q < 7 ∧ s (313 + 8 * r + 1) = nI q
theorem RI.upd {R k : Nat} {s : Nat → Int32} {v : Int32} (h : RI R s) (hv : okR k v) : RI R (upd s k v) := by
  intro hR r hr
  by_cases e : 313 + 8 * r + 1 = k
  · subst e; rw [pk_us]; exact hv r (by omega) rfl
  · rw [pk_un e]; exact h hR r hr
theorem RI.more {R : Nat} {s : Nat → Int32} (h : RI R s) (h1 : ∃ q, 1 ≤ q ∧ q < 7 ∧ s (313 + 8 * R + 1) = nI q) : RI (R + 1) s := by
  intro hR r hr
  by_cases e : r = R
  · subst e; exact h1
  · exact h (by omega) r (by omega)
theorem RI.zero {s : Nat → Int32} : RI 0 s := fun _ r hr => by omega
theorem RI.same {R : Nat} {s t : Nat → Int32} (h : RI R s) (e : ∀ j, j < 449 → t j = s j) : RI R t := fun hR r hr => by rw [e _ (by omega)]; exact h hR r hr
theorem SI.rs2 {s : Nat → Int32} (h : SI s) {j : Nat} (r i : Nat) (hr : r < 8) (hi : i < 6) (e : j = 313 + 8 * r + 2 + i) : ∃ y, s j = nI y ∧ y < 10 := by
  obtain ⟨y, a, b⟩ := SI.rs h r i hr hi e; exact ⟨y, b, a⟩
theorem SI.rl2 {s : Nat → Int32} (h : SI s) {j : Nat} (r : Nat) (hr : r < 8) (e : j = 313 + 8 * r + 1) : ∃ y, s j = nI y ∧ y < 7 := by
  obtain ⟨y, a, b⟩ := SI.rl h r hr e; exact ⟨y, b, a⟩
theorem SI.ws2 {s : Nat → Int32} (h : SI s) {j : Nat} (w i : Nat) (hr : w < 8) (hi : i < 6) (e : j = 377 + 9 * w + 3 + i) : ∃ y, s j = nI y ∧ y < 10 := by
  obtain ⟨y, a, b⟩ := SI.ws h w i hr hi e; exact ⟨y, b, a⟩
theorem SI.wl2 {s : Nat → Int32} (h : SI s) {j : Nat} (w : Nat) (hr : w < 8) (e : j = 377 + 9 * w) : ∃ y, s j = nI y ∧ y < 7 := by
  obtain ⟨y, a, b⟩ := SI.wl h w hr e; exact ⟨y, b, a⟩
theorem RI.len {R : Nat} {s : Nat → Int32} (h : RI R s) {j : Nat} (r : Nat) (hR : R ≤ 8) (hr : r < R) (e : j = 313 + 8 * r + 1) : ∃ q, s j = nI q ∧ 1 ≤ q ∧ q < 7 := by
  obtain ⟨y, a, b, c⟩ := h hR r hr; subst e; exact ⟨y, c, a, b⟩
theorem xm1 (x : Int32) : x + (-1) = x - 1 := (Int32.sub_eq_add_neg ..).symm
theorem MI.same {s t : Nat → Int32} (h : MI s) (e : ∀ j, j < 449 → t j = s j) : MI t := fun j h1 h2 => by rw [e j (by omega)]; exact h j h1 h2
theorem x_pl {a x : Int32} {P : Nat} (hP : P ≤ 10) (ex : x = nI P - 1) (h1 : ¬ a < 0) (h2 : ¬ x < a) : ∃ k : Nat, (1 : Int32) = 1 ∧ a = nI k ∧ k < P := by
  obtain ⟨k, hk, rfl⟩ := nI_of h1
  refine ⟨k, rfl, rfl, ?_⟩
  subst ex
  by_cases h0 : P = 0
  · subst h0
    exfalso
    apply h2
    rw [Int32.lt_iff_toInt_lt, nI_toInt hk]
    have : (nI 0 - 1).toInt = -1 := by decide
    omega
  · have e : nI P - 1 = nI (P - 1) := pk_sub (a := P) (b := 1) (by omega)
    rw [e] at h2
    have := xn_nlt (a := P - 1) (b := k) (by omega) hk h2
    omega
theorem x_ends {a : Int32} (h1 : ¬ a < (-99)) (h2 : ¬ 999 < a) : -99 ≤ a.toInt ∧ a.toInt ≤ 999 := by
  rw [Int32.lt_iff_toInt_lt] at h1 h2
  have e1 : (-99 : Int32).toInt = -99 := by decide
  have e2 : (999 : Int32).toInt = 999 := by decide
  omega
theorem x_endsL {a : Int64} (h1 : ¬ a < (-99 : Int32).toInt64) (h2 : ¬ (999 : Int32).toInt64 < a) : -99 ≤ a.toInt32.toInt ∧ a.toInt32.toInt ≤ 999 := by
  rw [Int64.lt_iff_toInt_lt] at h1 h2
  have e1 : ((-99 : Int32).toInt64).toInt = -99 := by decide
  have e2 : ((999 : Int32).toInt64).toInt = 999 := by decide
  have e3 : a.toInt32.toInt = a.toInt := by
    rw [Int64.toInt_toInt32, Int.bmod_eq_of_le (by omega) (by omega)]
  omega
theorem FR.lb {P : Nat} {s e l u o rn rp k wn wp t sl : Nat → Int32} (h : FR P s e l u o rn rp k wn wp t sl) (hm : MI s) {x : Nat} (hx : x < 100) : -99 ≤ (l x).toInt ∧ (l x).toInt ≤ 999 := by
  have h1 := hm (13 + x) (by omega) (by omega)
  rw [(h.2.1 x hx).1] at h1
  exact h1
/-- a walk of n open ways from a to b that comes to x -/
def fw_Wk (s : Nat → Int32) (P : Nat) : Nat → Nat → Nat → Int → Prop
  | 0, a, b, x => a = b ∧ x = 0
  | n + 1, a, b, x => ∃ r, r < P ∧ r ≠ a ∧ s (213 + 10 * a + r) = 1 ∧ fw_Wk s P n r b (x - (s (13 + 10 * a + r)).toInt)
theorem fw_Wk_s {s : Nat → Int32} {P n a b : Nat} {x : Int} : fw_Wk s P (n + 1) a b x = ∃ r, r < P ∧ r ≠ a ∧ s (213 + 10 * a + r) = 1 ∧ fw_Wk s P n r b (x - (s (13 + 10 * a + r)).toInt) := rfl
theorem fw_Wk_0 {s : Nat → Int32} {P a b : Nat} {x : Int} : fw_Wk s P 0 a b x = (a = b ∧ x = 0) := rfl
theorem fw_Wk.app {s : Nat → Int32} {P b c m : Nat} {y : Int} (h2 : fw_Wk s P m b c y) : ∀ {n a : Nat} {x : Int}, fw_Wk s P n a b x → fw_Wk s P (n + m) a c (x + y) := by
  intro n
  induction n with
  | zero =>
    intro a x h
    rw [fw_Wk_0] at h
    obtain ⟨e1, e2⟩ := h
    subst e1; subst e2
    rw [Nat.zero_add, Int.zero_add]; exact h2
  | succ n ih =>
    intro a x h
    rw [fw_Wk_s] at h
    obtain ⟨r, hr, ha, ho, h⟩ := h
    rw [show n + 1 + m = (n + m) + 1 by omega, fw_Wk_s]
    refine ⟨r, hr, ha, ho, ?_⟩
    rw [show x + y - (s (13 + 10 * a + r)).toInt = x - (s (13 + 10 * a + r)).toInt + y by omega]
    exact ih h
def fw_pw : Nat → Int
  | 0 => 1
  | m + 1 => 2 * fw_pw m
theorem fw_pw_s (m : Nat) : fw_pw (m + 1) = 2 * fw_pw m := rfl
theorem fw_pw_pos : ∀ m, 1 ≤ fw_pw m
  | 0 => by decide
  | m + 1 => by have := fw_pw_pos m; rw [fw_pw_s]; omega
theorem fw_pw_le : ∀ m, m < 11 → fw_pw m ≤ 1024 := by decide
def fw_ky (f g : Nat → Int32) (j : Nat) : Int := 4096 * (f j).toInt + (g j).toInt
theorem fw_addI {x y : Int32} (h1 : -2147483648 ≤ x.toInt + y.toInt) (h2 : x.toInt + y.toInt ≤ 2147483647) : (x + y).toInt = x.toInt + y.toInt := by
  rw [Int32.toInt_add, Int.bmod_eq_of_le (by omega) (by omega)]
theorem fw_NOT : (100000000 : Int32).toInt = 100000000 := by decide
def fw_jcn (X Y Z x y z : Int32) : Prop := ¬ X = 100000000 ∧ ¬ Y = 100000000 ∧ (X + Y < Z ∨ X + Y = Z ∧ x + y < z)
def fw_jvn (X Y Z x y z v n : Int32) : Prop := (fw_jcn X Y Z x y z ∧ v = X + Y ∧ n = x + y) ∨ (¬ fw_jcn X Y Z x y z ∧ v = Z ∧ n = z)
/-- a number of the table and how many: within bounds, or not there -/
def fw_bdn (B : Int) (X x : Int32) : Prop := X = 100000000 ∨ (-(999 * B) ≤ X.toInt ∧ X.toInt ≤ 999 * B ∧ 0 ≤ x.toInt ∧ x.toInt ≤ B)
theorem fw_bdn.of {B : Int} {X x : Int32} (h : fw_bdn B X x) (h1 : ¬ X = 100000000) : -(999 * B) ≤ X.toInt ∧ X.toInt ≤ 999 * B ∧ 0 ≤ x.toInt ∧ x.toInt ≤ B := h.resolve_left h1
theorem fw_jv_num {X Y Z x y z v n : Int32} {B : Int} (hB1 : 1 ≤ B) (hB : B ≤ 1024) (hX : fw_bdn B X x) (hY : fw_bdn B Y y) (hZ : fw_bdn B Z z) (hJ : fw_jvn X Y Z x y z v n) :
    (v = 100000000 ∧ Z = 100000000 ∧ (X = 100000000 ∨ Y = 100000000)) ∨
    (¬ v = 100000000 ∧ (-(999 * (2 * B)) ≤ v.toInt ∧ v.toInt ≤ 999 * (2 * B) ∧ 0 ≤ n.toInt ∧ n.toInt ≤ 2 * B) ∧ (¬ Z = 100000000 → 4096 * v.toInt + n.toInt ≤ 4096 * Z.toInt + z.toInt) ∧ (¬ X = 100000000 → ¬ Y = 100000000 → 4096 * v.toInt + n.toInt ≤ (4096 * X.toInt + x.toInt) + (4096 * Y.toInt + y.toInt)) ∧ ((¬ Z = 100000000 ∧ v = Z ∧ n = z) ∨ (¬ X = 100000000 ∧ ¬ Y = 100000000 ∧ v.toInt = X.toInt + Y.toInt ∧ n.toInt = x.toInt + y.toInt))) := by
  have hN := fw_NOT
  rcases hJ with ⟨⟨h1, h2, h3⟩, rfl, rfl⟩ | ⟨hn, rfl, rfl⟩
  · have bX := hX.of h1
    have bY := hY.of h2
    have e1 : (X + Y).toInt = X.toInt + Y.toInt := fw_addI (by omega) (by omega)
    have e3 : (x + y).toInt = x.toInt + y.toInt := fw_addI (by omega) (by omega)
    right
    refine ⟨?_, ⟨by omega, by omega, by omega, by omega⟩, ?_, ?_, Or.inr ⟨h1, h2, e1, e3⟩⟩
    · intro h
      have := congrArg Int32.toInt h
      omega
    · intro hz
      have bZ := hZ.of hz
      rcases h3 with h3 | ⟨h3, h4⟩
      · rw [Int32.lt_iff_toInt_lt] at h3
        omega
      · have h5 := congrArg Int32.toInt h3
        rw [Int32.lt_iff_toInt_lt] at h4
        omega
    · intro _ _
      omega
  · by_cases hz : v = 100000000
    · by_cases hx : X = 100000000
      · exact Or.inl ⟨hz, hz, Or.inl hx⟩
      · by_cases hy : Y = 100000000
        · exact Or.inl ⟨hz, hz, Or.inr hy⟩
        · exfalso
          have bX := hX.of hx
          have bY := hY.of hy
          have e1 : (X + Y).toInt = X.toInt + Y.toInt := fw_addI (by omega) (by omega)
          have e4 := congrArg Int32.toInt hz
          refine hn ⟨hx, hy, Or.inl ?_⟩
          rw [Int32.lt_iff_toInt_lt]
          omega
    · have bZ := hZ.of hz
      right
      refine ⟨hz, ⟨by omega, by omega, by omega, by omega⟩, fun _ => Int.le_refl _, ?_, Or.inl ⟨hz, rfl, rfl⟩⟩
      intro hx hy
      have bX := hX.of hx
      have bY := hY.of hy
      have e1 : (X + Y).toInt = X.toInt + Y.toInt := fw_addI (by omega) (by omega)
      have e3 : (x + y).toInt = x.toInt + y.toInt := fw_addI (by omega) (by omega)
      have q1 : ¬ X + Y < v := fun h => hn ⟨hx, hy, Or.inl h⟩
      rw [Int32.lt_iff_toInt_lt] at q1
      by_cases e : X + Y = v
      · have q2 : ¬ x + y < n := fun h => hn ⟨hx, hy, Or.inr ⟨e, h⟩⟩
        rw [Int32.lt_iff_toInt_lt] at q2
        have := congrArg Int32.toInt e
        omega
      · rw [← Int32.toInt_inj] at e
        omega
/-- the table is good for ways between that go over places below m -/
def fw_Gd (s : Nat → Int32) (P m : Nat) (f g : Nat → Int32) : Prop :=
  (∀ a b, a < P → b < P → fw_bdn (fw_pw m) (f (10 * a + b)) (g (10 * a + b)) ∧ (¬ f (10 * a + b) = 100000000 → fw_Wk s P (g (10 * a + b)).toInt.toNat a b (f (10 * a + b)).toInt)) ∧
  (∀ a, a < P → (f (10 * a + a)).toInt = 0 ∧ (g (10 * a + a)).toInt = 0) ∧
  (∀ a b, a < P → b < P → b ≠ a → s (213 + 10 * a + b) = 1 → ¬ f (10 * a + b) = 100000000 ∧ fw_ky f g (10 * a + b) ≤ 4096 * (s (13 + 10 * a + b)).toInt + 1) ∧
  (∀ k a b, k < m → k < P → a < P → b < P → ¬ f (10 * a + k) = 100000000 → ¬ f (10 * k + b) = 100000000 → ¬ f (10 * a + b) = 100000000 ∧ fw_ky f g (10 * a + b) ≤ fw_ky f g (10 * a + k) + fw_ky f g (10 * k + b))
def fw_JV (f g : Nat → Int32) (a m b : Nat) (v n : Int32) : Prop := fw_jvn (f (10 * a + m)) (f (10 * m + b)) (f (10 * a + b)) (g (10 * a + m)) (g (10 * m + b)) (g (10 * a + b)) v n
theorem fw_jv_ok {s f g : Nat → Int32} {P m a b : Nat} {v n : Int32} (hG : fw_Gd s P m f g) (hm : m < P) (hP : P ≤ 10) (ha : a < P) (hb : b < P) (hJ : fw_JV f g a m b v n) :
    (v = 100000000 ∧ f (10 * a + b) = 100000000 ∧ (f (10 * a + m) = 100000000 ∨ f (10 * m + b) = 100000000)) ∨
    (¬ v = 100000000 ∧ (-(999 * fw_pw (m + 1)) ≤ v.toInt ∧ v.toInt ≤ 999 * fw_pw (m + 1) ∧ 0 ≤ n.toInt ∧ n.toInt ≤ fw_pw (m + 1)) ∧ fw_Wk s P n.toInt.toNat a b v.toInt ∧ (¬ f (10 * a + b) = 100000000 → 4096 * v.toInt + n.toInt ≤ fw_ky f g (10 * a + b)) ∧ (¬ f (10 * a + m) = 100000000 → ¬ f (10 * m + b) = 100000000 → 4096 * v.toInt + n.toInt ≤ fw_ky f g (10 * a + m) + fw_ky f g (10 * m + b)) ∧ ((¬ f (10 * a + b) = 100000000 ∧ 4096 * v.toInt + n.toInt = fw_ky f g (10 * a + b)) ∨ (¬ f (10 * a + m) = 100000000 ∧ ¬ f (10 * m + b) = 100000000 ∧ 4096 * v.toInt + n.toInt = fw_ky f g (10 * a + m) + fw_ky f g (10 * m + b)))) := by
  obtain ⟨bX, wX⟩ := hG.1 a m ha hm
  obtain ⟨bY, wY⟩ := hG.1 m b hm hb
  obtain ⟨bZ, wZ⟩ := hG.1 a b ha hb
  rcases fw_jv_num (fw_pw_pos m) (fw_pw_le m (by omega)) bX bY bZ hJ with h | ⟨h1, h2, h3, h4, h5⟩
  · exact Or.inl h
  · refine Or.inr ⟨h1, by rw [fw_pw_s]; exact h2, ?_, h3, h4, ?_⟩
    · rcases h5 with ⟨a1, rfl, rfl⟩ | ⟨a1, a2, a3, a4⟩
      · exact wZ a1
      · have q1 := (bX.of a1).2.2.1
        have q2 := (bY.of a2).2.2.1
        rw [a3, a4, show (((g (10 * a + m)).toInt + (g (10 * m + b)).toInt).toNat) = (g (10 * a + m)).toInt.toNat + (g (10 * m + b)).toInt.toNat by omega]
        exact fw_Wk.app (wY a2) (wX a1)
    · rcases h5 with ⟨a1, rfl, rfl⟩ | ⟨a1, a2, a3, a4⟩
      · exact Or.inl ⟨a1, rfl⟩
      · refine Or.inr ⟨a1, a2, ?_⟩
        unfold fw_ky
        omega
theorem fw_Gd.diag {s f g : Nat → Int32} {P m a : Nat} (hG : fw_Gd s P m f g) (ha : a < P) : ¬ f (10 * a + a) = 100000000 ∧ fw_ky f g (10 * a + a) = 0 := by
  obtain ⟨h1, h2⟩ := hG.2.1 a ha
  refine ⟨fun h => ?_, by unfold fw_ky; omega⟩
  have := congrArg Int32.toInt h
  have := fw_NOT
  omega
/-- the row and the pillar of the place between stay -/
theorem fw_jv_row {s f g : Nat → Int32} {P m a : Nat} {v n : Int32} (hG : fw_Gd s P m f g) (hm : m < P) (hP : P ≤ 10) (ha : a < P) (hJ : fw_JV f g a m m v n) : v = f (10 * a + m) ∧ n = g (10 * a + m) := by
  rcases hJ with ⟨⟨h1, h2, h3⟩, -, -⟩ | ⟨-, h1, h2⟩
  · exfalso
    obtain ⟨d1, d2⟩ := hG.2.1 m hm
    have bX := ((hG.1 a m ha hm).1).of h1
    have hp := fw_pw_le m (by omega)
    have e1 : (f (10 * a + m) + f (10 * m + m)).toInt = (f (10 * a + m)).toInt + (f (10 * m + m)).toInt := fw_addI (by omega) (by omega)
    have e3 : (g (10 * a + m) + g (10 * m + m)).toInt = (g (10 * a + m)).toInt + (g (10 * m + m)).toInt := fw_addI (by omega) (by omega)
    rcases h3 with h3 | ⟨-, h3⟩
    · rw [Int32.lt_iff_toInt_lt] at h3; omega
    · rw [Int32.lt_iff_toInt_lt] at h3; omega
  · exact ⟨h1, h2⟩
theorem fw_jv_col {s f g : Nat → Int32} {P m b : Nat} {v n : Int32} (hG : fw_Gd s P m f g) (hm : m < P) (hP : P ≤ 10) (hb : b < P) (hJ : fw_JV f g m m b v n) : v = f (10 * m + b) ∧ n = g (10 * m + b) := by
  rcases hJ with ⟨⟨h1, h2, h3⟩, -, -⟩ | ⟨-, h1, h2⟩
  · exfalso
    obtain ⟨d1, d2⟩ := hG.2.1 m hm
    have bX := ((hG.1 m b hm hb).1).of h2
    have hp := fw_pw_le m (by omega)
    have e1 : (f (10 * m + m) + f (10 * m + b)).toInt = (f (10 * m + m)).toInt + (f (10 * m + b)).toInt := fw_addI (by omega) (by omega)
    have e3 : (g (10 * m + m) + g (10 * m + b)).toInt = (g (10 * m + m)).toInt + (g (10 * m + b)).toInt := fw_addI (by omega) (by omega)
    rcases h3 with h3 | ⟨-, h3⟩
    · rw [Int32.lt_iff_toInt_lt] at h3; omega
    · rw [Int32.lt_iff_toInt_lt] at h3; omega
  · exact ⟨h1, h2⟩
theorem fw_Gd.step {s f0 g0 f g : Nat → Int32} {P m : Nat} (hG : fw_Gd s P m f0 g0) (hm : m < P) (hP : P ≤ 10) (hJ : ∀ a b, a < P → b < P → fw_JV f0 g0 a m b (f (10 * a + b)) (g (10 * a + b))) (hd : ∀ i, i < P → ¬ f (10 * i + i) < 0) : fw_Gd s P (m + 1) f g := by
  have jv := fun a b ha hb => fw_jv_ok hG hm hP ha hb (hJ a b ha hb)
  have hN := fw_NOT
  have h0 : (0 : Int32).toInt = 0 := by decide
  refine ⟨?_, ?_, ?_, ?_⟩
  · intro a b ha hb
    rcases jv a b ha hb with ⟨h, -, -⟩ | ⟨h1, h2, h3, -⟩
    · exact ⟨Or.inl h, fun q => absurd h q⟩
    · exact ⟨Or.inr h2, fun _ => h3⟩
  · intro a ha
    have hi := hd a ha
    rw [Int32.lt_iff_toInt_lt] at hi
    obtain ⟨d1, d2⟩ := hG.diag ha
    rcases jv a a ha ha with ⟨-, h, -⟩ | ⟨h1, h2, h3, h4, -⟩
    · exact absurd h d1
    · have := h4 d1
      omega
  · intro a b ha hb hab ho
    obtain ⟨d1, d2⟩ := hG.2.2.1 a b ha hb hab ho
    rcases jv a b ha hb with ⟨-, h, -⟩ | ⟨h1, h2, h3, h4, -⟩
    · exact absurd h d1
    · exact ⟨h1, Int.le_trans (h4 d1) d2⟩
  · intro k a b hk hkP ha hb hak hkb
    have hc := hG.2.2.2
    rcases jv a k ha hkP with ⟨h, -, -⟩ | ⟨-, -, -, -, -, hA⟩
    · exact absurd h hak
    rcases jv k b hkP hb with ⟨h, -, -⟩ | ⟨-, -, -, -, -, hB⟩
    · exact absurd h hkb
    by_cases hkm : k = m
    · subst hkm
      obtain ⟨d1, d2⟩ := hG.diag hm
      have A : ¬ f0 (10 * a + k) = 100000000 ∧ fw_ky f g (10 * a + k) = fw_ky f0 g0 (10 * a + k) := by
        rcases hA with ⟨q1, q2⟩ | ⟨q1, q2, q3⟩
        · exact ⟨q1, q2⟩
        · refine ⟨q1, ?_⟩; rw [d2] at q3; unfold fw_ky at q3 ⊢; omega
      have B : ¬ f0 (10 * k + b) = 100000000 ∧ fw_ky f g (10 * k + b) = fw_ky f0 g0 (10 * k + b) := by
        rcases hB with ⟨q1, q2⟩ | ⟨q1, q2, q3⟩
        · exact ⟨q1, q2⟩
        · refine ⟨q2, ?_⟩; rw [d2] at q3; unfold fw_ky at q3 ⊢; omega
      rcases jv a b ha hb with ⟨-, -, h⟩ | ⟨h1, -, -, -, h5, -⟩
      · exact absurd h (fun h => h.elim A.1 B.1)
      · refine ⟨h1, ?_⟩
        have := h5 A.1 B.1
        rw [A.2, B.2]
        exact this
    · have hk2 : k < m := by omega
      rcases hA with ⟨p1, p2⟩ | ⟨p1, p2, p3⟩ <;> rcases hB with ⟨q1, q2⟩ | ⟨q1, q2, q3⟩
      · obtain ⟨c1, c2⟩ := hc k a b hk2 hkP ha hb p1 q1
        rcases jv a b ha hb with ⟨-, h, -⟩ | ⟨h1, -, -, h4, -, -⟩
        · exact absurd h c1
        · refine ⟨h1, ?_⟩
          have := h4 c1
          unfold fw_ky at *
          omega
      · obtain ⟨c1, c2⟩ := hc k a m hk2 hkP ha hm p1 q1
        rcases jv a b ha hb with ⟨-, -, h⟩ | ⟨h1, -, -, -, h5, -⟩
        · exact absurd h (fun h => h.elim c1 q2)
        · refine ⟨h1, ?_⟩
          have := h5 c1 q2
          unfold fw_ky at *
          omega
      · obtain ⟨c1, c2⟩ := hc k m b hk2 hkP hm hb p2 q1
        rcases jv a b ha hb with ⟨-, -, h⟩ | ⟨h1, -, -, -, h5, -⟩
        · exact absurd h (fun h => h.elim p1 c1)
        · refine ⟨h1, ?_⟩
          have := h5 p1 c1
          unfold fw_ky at *
          omega
      · obtain ⟨c1, c2⟩ := hc k m m hk2 hkP hm hm p2 q1
        have d2 := (hG.diag hm).2
        rcases jv a b ha hb with ⟨-, -, h⟩ | ⟨h1, -, -, -, h5, -⟩
        · exact absurd h (fun h => h.elim p1 q2)
        · refine ⟨h1, ?_⟩
          have := h5 p1 q2
          rw [d2] at c2
          unfold fw_ky at *
          omega
theorem fw_Gd.same {s f g f2 g2 : Nat → Int32} {P m : Nat} (h : fw_Gd s P m f g) (e : ∀ a b, a < P → b < P → f2 (10 * a + b) = f (10 * a + b) ∧ g2 (10 * a + b) = g (10 * a + b)) : fw_Gd s P m f2 g2 := by
  have ek : ∀ a b, a < P → b < P → fw_ky f2 g2 (10 * a + b) = fw_ky f g (10 * a + b) := fun a b ha hb => by
    unfold fw_ky; rw [(e a b ha hb).1, (e a b ha hb).2]
  refine ⟨?_, ?_, ?_, ?_⟩
  · intro a b ha hb
    rw [(e a b ha hb).1, (e a b ha hb).2]; exact h.1 a b ha hb
  · intro a ha
    rw [(e a a ha ha).1, (e a a ha ha).2]; exact h.2.1 a ha
  · intro a b ha hb
    rw [(e a b ha hb).1, ek a b ha hb]; exact h.2.2.1 a b ha hb
  · intro k a b hk hkP ha hb
    rw [(e a b ha hb).1, (e a k ha hkP).1, (e k b hkP hb).1, ek a b ha hb, ek a k ha hkP, ek k b hkP hb]; exact h.2.2.2 k a b hk hkP ha hb
/-- how the table is at its start -/
def fw_IV (s f g : Nat → Int32) (a b : Nat) : Prop := (a = b ∧ f (10 * a + b) = 0 ∧ g (10 * a + b) = 0) ∨ (b ≠ a ∧ g (10 * a + b) = 1 ∧ ((s (213 + 10 * a + b) = 1 ∧ f (10 * a + b) = s (13 + 10 * a + b)) ∨ (¬ s (213 + 10 * a + b) = 1 ∧ f (10 * a + b) = 100000000)))
theorem fw_Gd.start {s f g : Nat → Int32} {P : Nat} (hP : P ≤ 10) (hM : MI s) (h : ∀ a b, a < P → b < P → fw_IV s f g a b) : fw_Gd s P 0 f g := by
  have hN := fw_NOT
  have h0 : (0 : Int32).toInt = 0 := by decide
  have h1 : (1 : Int32).toInt = 1 := by decide
  have hp : fw_pw 0 = 1 := rfl
  refine ⟨?_, ?_, ?_, ?_⟩
  · intro a b ha hb
    rcases h a b ha hb with ⟨e, e1, e2⟩ | ⟨e, e2, ⟨o, e1⟩ | ⟨o, e1⟩⟩
    · subst e
      rw [e1, e2, h0, hp]
      refine ⟨Or.inr ⟨by omega, by omega, by omega, by omega⟩, fun _ => ?_⟩
      exact ⟨rfl, rfl⟩
    · have hm := hM (13 + 10 * a + b) (by omega) (by omega)
      rw [e1, e2, hp]
      refine ⟨Or.inr ⟨by omega, by omega, by omega, by omega⟩, fun _ => ?_⟩
      rw [h1, show (1 : Int).toNat = 0 + 1 from rfl, fw_Wk_s]
      refine ⟨b, hb, e, o, rfl, by omega⟩
    · exact ⟨Or.inl e1, fun q => absurd e1 q⟩
  · intro a ha
    rcases h a a ha ha with ⟨e, e1, e2⟩ | ⟨e, -⟩
    · rw [e1, e2]; exact ⟨h0, h0⟩
    · exact absurd rfl e
  · intro a b ha hb hab ho
    rcases h a b ha hb with ⟨e, -⟩ | ⟨e, e2, ⟨o, e1⟩ | ⟨o, -⟩⟩
    · exact absurd e.symm hab
    · have hm := hM (13 + 10 * a + b) (by omega) (by omega)
      unfold fw_ky
      rw [e1, e2, h1]
      refine ⟨fun q => ?_, Int.le_refl _⟩
      have := congrArg Int32.toInt q
      omega
    · exact absurd ho o
  · intro k a b hk
    omega
def fw_II (s : Nat → Int32) (P p q : Nat) (f g : Nat → Int32) : Prop := ∀ a b, a < P → b < P → (a < p ∨ a = p ∧ b < q) → fw_IV s f g a b
theorem fw_II.zero {s : Nat → Int32} {P : Nat} {f g : Nat → Int32} : fw_II s P 0 0 f g := fun a b _ _ h => by omega
theorem fw_II.put {s : Nat → Int32} {P p q : Nat} {f g f2 g2 : Nat → Int32} {v n : Int32} (h : fw_II s P p q f g) (hp : p < P) (hq : q < P) (hP : P ≤ 10) (e1 : f2 = upd f (10 * p + q) v) (e2 : g2 = upd g (10 * p + q) n) (hv : (p = q ∧ v = 0 ∧ n = 0) ∨ (q ≠ p ∧ n = 1 ∧ ((s (213 + 10 * p + q) = 1 ∧ v = s (13 + 10 * p + q)) ∨ (¬ s (213 + 10 * p + q) = 1 ∧ v = 100000000)))) : fw_II s P p (q + 1) f2 g2 := by
  intro a b ha hb hab
  unfold fw_IV
  rw [e1, e2]
  by_cases e : a = p ∧ b = q
  · obtain ⟨rfl, rfl⟩ := e
    rw [pk_us, pk_us]
    exact hv
  · rw [pk_un (by omega), pk_un (by omega)]
    exact h a b ha hb (by omega)
theorem fw_II.row {s : Nat → Int32} {P p q : Nat} {f g : Nat → Int32} (h : fw_II s P p q f g) (hq : P ≤ q) : fw_II s P (p + 1) 0 f g := fun a b ha hb _ => h a b ha hb (by omega)
/-- a loop that comes to less than nothing -/
def fw_NL (s : Nat → Int32) (P : Nat) (f : Nat → Int32) : Prop := ∃ i, i < P ∧ f (10 * i + i) < 0 ∧ ∃ n x, fw_Wk s P n i i x ∧ x < 0
def fw_FW (s : Nat → Int32) (P m p q : Nat) (f g : Nat → Int32) : Prop := fw_NL s P f ∨ ∃ f0 g0, fw_Gd s P m f0 g0 ∧ ∀ a b, a < P → b < P → ((a < p ∨ a = p ∧ b < q) ∧ fw_JV f0 g0 a m b (f (10 * a + b)) (g (10 * a + b))) ∨ (¬ (a < p ∨ a = p ∧ b < q) ∧ f (10 * a + b) = f0 (10 * a + b) ∧ g (10 * a + b) = g0 (10 * a + b))
theorem fw_FW.start {s : Nat → Int32} {P p : Nat} {f g : Nat → Int32} (hP : P ≤ 10) (hM : MI s) (h : fw_II s P p 0 f g) (hp : P ≤ p) : fw_FW s P 0 0 0 f g :=
  Or.inr ⟨f, g, fw_Gd.start hP hM (fun a b ha hb => h a b ha hb (by omega)), fun a b _ _ => Or.inr ⟨by omega, rfl, rfl⟩⟩
def fw_JN (f g : Nat → Int32) (p m q : Nat) (f2 g2 : Nat → Int32) : Prop :=
  (fw_jcn (f (10 * p + m)) (f (10 * m + q)) (f (10 * p + q)) (g (10 * p + m)) (g (10 * m + q)) (g (10 * p + q)) ∧ f2 = upd f (10 * p + q) (f (10 * p + m) + f (10 * m + q)) ∧ g2 = upd g (10 * p + q) (g (10 * p + m) + g (10 * m + q))) ∨
  (¬ fw_jcn (f (10 * p + m)) (f (10 * m + q)) (f (10 * p + q)) (g (10 * p + m)) (g (10 * m + q)) (g (10 * p + q)) ∧ f2 = f ∧ g2 = g)
section fw_JNs
variable {f g f2 g2 : Nat → Int32} {p m q : Nat}
theorem fw_JN.n1 (h : f (10 * p + m) = 100000000) : fw_JN f g p m q f g := Or.inr ⟨fun q => q.1 h, rfl, rfl⟩
theorem fw_JN.n2 (h : f (10 * m + q) = 100000000) : fw_JN f g p m q f g := Or.inr ⟨fun q => q.2.1 h, rfl, rfl⟩
theorem fw_JN.n3 (h : ¬ f (10 * p + m) + f (10 * m + q) < f (10 * p + q)) (h2 : ¬ f (10 * p + m) + f (10 * m + q) = f (10 * p + q)) : fw_JN f g p m q f g := Or.inr ⟨fun q => q.2.2.elim h (fun q => h2 q.1), rfl, rfl⟩
theorem fw_JN.n4 (h : ¬ f (10 * p + m) + f (10 * m + q) < f (10 * p + q)) (h2 : g (10 * p + q) ≤ g (10 * p + m) + g (10 * m + q)) : fw_JN f g p m q f g := Or.inr ⟨fun q => q.2.2.elim h (fun q => absurd h2 (Int32.not_le.mpr q.2)), rfl, rfl⟩
theorem fw_JN.y1 (h1 : ¬ f (10 * p + m) = 100000000) (h2 : ¬ f (10 * m + q) = 100000000) (h3 : f (10 * p + m) + f (10 * m + q) < f (10 * p + q)) (e1 : f2 = upd f (10 * p + q) (f (10 * p + m) + f (10 * m + q))) (e2 : g2 = upd g (10 * p + q) (g (10 * p + m) + g (10 * m + q))) : fw_JN f g p m q f2 g2 := Or.inl ⟨⟨h1, h2, Or.inl h3⟩, e1, e2⟩
theorem fw_JN.y2 (h1 : ¬ f (10 * p + m) = 100000000) (h2 : ¬ f (10 * m + q) = 100000000) (h3 : f (10 * p + m) + f (10 * m + q) = f (10 * p + q)) (h4 : ¬ g (10 * p + q) ≤ g (10 * p + m) + g (10 * m + q)) (e1 : f2 = upd f (10 * p + q) (f (10 * p + m) + f (10 * m + q))) (e2 : g2 = upd g (10 * p + q) (g (10 * p + m) + g (10 * m + q))) : fw_JN f g p m q f2 g2 := Or.inl ⟨⟨h1, h2, Or.inr ⟨h3, Int32.not_le.mp h4⟩⟩, e1, e2⟩
end fw_JNs
theorem fw_FW.step {s f g f2 g2 : Nat → Int32} {P m p q : Nat} (h : fw_FW s P m p q f g) (hm : m < P) (hp : p < P) (hq : q < P) (hP : P ≤ 10) (hJ : fw_JN f g p m q f2 g2) : fw_FW s P m p (q + 1) f2 g2 := by
  rcases h with ⟨i, hi, hf, hw⟩ | ⟨f0, g0, hG, H⟩
  · refine Or.inl ⟨i, hi, ?_, hw⟩
    rcases hJ with ⟨hc, e1, -⟩ | ⟨-, e1, -⟩
    · rw [e1]
      by_cases e : 10 * i + i = 10 * p + q
      · rw [e, pk_us]
        rw [e] at hf
        rcases hc.2.2 with h | ⟨h, -⟩
        · exact Int32.lt_trans h hf
        · rw [h]; exact hf
      · rw [pk_un e]; exact hf
    · rw [e1]; exact hf
  · refine Or.inr ⟨f0, g0, hG, ?_⟩
    have A : f (10 * p + m) = f0 (10 * p + m) ∧ g (10 * p + m) = g0 (10 * p + m) := by
      rcases H p m hp hm with ⟨-, h⟩ | ⟨-, h⟩
      · exact fw_jv_row hG hm hP hp h
      · exact h
    have B : f (10 * m + q) = f0 (10 * m + q) ∧ g (10 * m + q) = g0 (10 * m + q) := by
      rcases H m q hm hq with ⟨-, h⟩ | ⟨-, h⟩
      · exact fw_jv_col hG hm hP hq h
      · exact h
    have C : f (10 * p + q) = f0 (10 * p + q) ∧ g (10 * p + q) = g0 (10 * p + q) := by
      rcases H p q hp hq with ⟨h, -⟩ | ⟨-, h⟩
      · exfalso; omega
      · exact h
    unfold fw_JN at hJ
    rw [A.1, A.2, B.1, B.2, C.1, C.2] at hJ
    intro a b ha hb
    by_cases e : a = p ∧ b = q
    · obtain ⟨rfl, rfl⟩ := e
      refine Or.inl ⟨by omega, ?_⟩
      rcases hJ with ⟨hc, e1, e2⟩ | ⟨hc, e1, e2⟩
      · refine Or.inl ⟨hc, ?_, ?_⟩
        · rw [e1, pk_us]
        · rw [e2, pk_us]
      · refine Or.inr ⟨hc, ?_, ?_⟩
        · rw [e1]; exact C.1
        · rw [e2]; exact C.2
    · have E : f2 (10 * a + b) = f (10 * a + b) ∧ g2 (10 * a + b) = g (10 * a + b) := by
        rcases hJ with ⟨-, e1, e2⟩ | ⟨-, e1, e2⟩
        · rw [e1, e2, pk_un (by omega), pk_un (by omega)]; exact ⟨rfl, rfl⟩
        · rw [e1, e2]; exact ⟨rfl, rfl⟩
      rw [E.1, E.2]
      rcases H a b ha hb with ⟨h, h2⟩ | ⟨h, h2⟩
      · exact Or.inl ⟨by omega, h2⟩
      · exact Or.inr ⟨by omega, h2⟩
theorem fw_FW.row {s f g : Nat → Int32} {P m p q : Nat} (h : fw_FW s P m p q f g) (hq : P ≤ q) : fw_FW s P m (p + 1) 0 f g := by
  rcases h with h | ⟨f0, g0, hG, H⟩
  · exact Or.inl h
  · refine Or.inr ⟨f0, g0, hG, fun a b ha hb => ?_⟩
    rcases H a b ha hb with ⟨h, h2⟩ | ⟨h, h2⟩
    · exact Or.inl ⟨by omega, h2⟩
    · exact Or.inr ⟨by omega, h2⟩
theorem fw_FW.next {s f g : Nat → Int32} {P m p : Nat} (h : fw_FW s P m p 0 f g) (hp : P ≤ p) (hm : m < P) (hP : P ≤ 10) : fw_FW s P (m + 1) 0 0 f g := by
  rcases h with h | ⟨f0, g0, hG, H⟩
  · exact Or.inl h
  · have hJ : ∀ a b, a < P → b < P → fw_JV f0 g0 a m b (f (10 * a + b)) (g (10 * a + b)) := by
      intro a b ha hb
      rcases H a b ha hb with ⟨-, h⟩ | ⟨h, -⟩
      · exact h
      · exfalso; omega
    by_cases hd : ∃ i, i < P ∧ f (10 * i + i) < 0
    · obtain ⟨i, hi, hf⟩ := hd
      refine Or.inl ⟨i, hi, hf, ?_⟩
      rcases fw_jv_ok hG hm hP hi hi (hJ i i hi hi) with ⟨-, h, -⟩ | ⟨-, -, hw, -⟩
      · exact absurd h (hG.diag hi).1
      · rw [Int32.lt_iff_toInt_lt] at hf
        exact ⟨_, _, hw, hf⟩
    · refine Or.inr ⟨f, g, fw_Gd.step hG hm hP hJ (fun i hi hf => hd ⟨i, hi, hf⟩), fun a b _ _ => Or.inr ⟨by omega, rfl, rfl⟩⟩
/-- whether a loop has been seen among the first i -/
def fw_LB (P i : Nat) (b : Int32) (f : Nat → Int32) : Prop := (b = 1 ∧ ∃ j, j < P ∧ f (11 * j) < 0) ∨ (b = 0 ∧ ∀ j, j < i → ¬ f (11 * j) < 0)
theorem fw_LB.z {P : Nat} {f : Nat → Int32} : fw_LB P 0 0 f := Or.inr ⟨rfl, fun j hj => by omega⟩
theorem fw_LB.t {P i : Nat} {b : Int32} {f : Nat → Int32} (h : fw_LB P i b f) (hb : ¬ b = 0) : fw_LB P (i + 1) 1 f := by
  rcases h with ⟨-, h⟩ | ⟨h, -⟩
  · exact Or.inl ⟨rfl, h⟩
  · exact absurd h hb
theorem fw_LB.y {P i : Nat} {f : Nat → Int32} (hi : i < P) (h : ¬ 0 ≤ f (11 * i)) : fw_LB P (i + 1) 1 f := Or.inl ⟨rfl, i, hi, Int32.not_le.mp h⟩
theorem fw_LB.n {P i : Nat} {b : Int32} {f : Nat → Int32} (h : fw_LB P i b f) (hb : b = 0) (h2 : 0 ≤ f (11 * i)) : fw_LB P (i + 1) 0 f := by
  subst hb
  rcases h with ⟨h, -⟩ | ⟨-, h⟩
  · exact absurd h (by decide)
  · refine Or.inr ⟨rfl, fun j hj => ?_⟩
    by_cases e : j = i
    · subst e; exact Int32.not_lt.mpr h2
    · exact h j (by omega)
def fw_Fin (s : Nat → Int32) (P : Nat) (b : Int32) (f g : Nat → Int32) : Prop := (b = 1 ∧ fw_NL s P f) ∨ (b = 0 ∧ fw_Gd s P P f g)
theorem fw_FW.fin {s f g : Nat → Int32} {P m i : Nat} {b : Int32} (h : fw_FW s P m 0 0 f g) (hm : m = P) (hb : fw_LB P i b f) (hi : P ≤ i) : fw_Fin s P b f g := by
  subst hm
  have e : ∀ j, 11 * j = 10 * j + j := fun j => by omega
  rcases h with h | ⟨f0, g0, hG, H⟩
  · rcases hb with ⟨hb, -⟩ | ⟨-, hb⟩
    · exact Or.inl ⟨hb, h⟩
    · obtain ⟨j, hj, hf, -⟩ := h
      have := hb j (by omega)
      rw [e] at this
      exact absurd hf this
  · have G : fw_Gd s m m f g := by
      refine fw_Gd.same hG (fun a b ha hb => ?_)
      rcases H a b ha hb with ⟨h, -⟩ | ⟨-, h⟩
      · exfalso; omega
      · exact h
    rcases hb with ⟨-, j, hj, hf⟩ | ⟨hb, -⟩
    · exfalso
      rw [e, Int32.lt_iff_toInt_lt, (G.2.1 j hj).1] at hf
      exact absurd hf (by decide)
    · exact Or.inr ⟨hb, G⟩
theorem fw_Fin.g {s f g : Nat → Int32} {P : Nat} {b : Int32} (h : fw_Fin s P b f g) (hb : b = 0) : fw_Gd s P P f g := by
  rcases h with ⟨h, -⟩ | ⟨-, h⟩
  · rw [h] at hb; exact absurd hb (by decide)
  · exact h
theorem fw_Gd.walk {s f g : Nat → Int32} {P b : Nat} (hG : fw_Gd s P P f g) (hb : b < P) : ∀ {n r : Nat} {x : Int}, r < P → fw_Wk s P n r b x → ¬ f (10 * r + b) = 100000000 ∧ fw_ky f g (10 * r + b) ≤ 4096 * x + n := by
  intro n
  induction n with
  | zero =>
    intro r x hr h
    rw [fw_Wk_0] at h
    obtain ⟨e1, e2⟩ := h
    subst e1; subst e2
    obtain ⟨d1, d2⟩ := hG.diag hr
    refine ⟨d1, ?_⟩
    rw [d2]; omega
  | succ n ih =>
    intro r x hr h
    rw [fw_Wk_s] at h
    obtain ⟨t, ht, hne, ho, h⟩ := h
    obtain ⟨a1, a2⟩ := ih ht h
    obtain ⟨b1, b2⟩ := hG.2.2.1 r t hr ht hne ho
    obtain ⟨c1, c2⟩ := hG.2.2.2 t r b ht ht hr hb b1 a1
    refine ⟨c1, ?_⟩
    omega
/-- whether the next stop of the best way from y to k is r -/
def fw_BC (s f g : Nat → Int32) (y k r : Nat) : Prop := r ≠ y ∧ s (213 + 10 * y + r) = 1 ∧ ¬ f (10 * r + k) = 100000000 ∧ s (13 + 10 * y + r) + f (10 * r + k) = f (10 * y + k) ∧ g (10 * r + k) + 1 = g (10 * y + k)
theorem fw_Gd.edge {s f g : Nat → Int32} {P a b : Nat} (hG : fw_Gd s P P f g) (hP : P ≤ 10) (hM : MI s) (ha : a < P) (hb : b < P) (hab : a ≠ b) (hf : ¬ f (10 * a + b) = 100000000) : ∃ r, r < P ∧ fw_BC s f g a b r := by
  obtain ⟨b1, w1⟩ := hG.1 a b ha hb
  have b1 := b1.of hf
  have w1 := w1 hf
  have hp := fw_pw_le P (by omega)
  obtain ⟨n, hn⟩ : ∃ n, (g (10 * a + b)).toInt.toNat = n := ⟨_, rfl⟩
  rw [hn] at w1
  cases n with
  | zero => rw [fw_Wk_0] at w1; exact absurd w1.1 hab
  | succ n =>
    rw [fw_Wk_s] at w1
    obtain ⟨r, hr, hne, ho, hw⟩ := w1
    obtain ⟨c1, c2⟩ := hG.walk hb hr hw
    obtain ⟨e1, e2⟩ := hG.2.2.1 a r ha hr hne ho
    obtain ⟨-, d2⟩ := hG.2.2.2 r a b hr hr ha hb e1 c1
    have b2 := ((hG.1 r b hr hb).1).of c1
    have hm := hM (13 + 10 * a + r) (by omega) (by omega)
    unfold fw_ky at c2 e2 d2
    have h1 : (1 : Int32).toInt = 1 := by decide
    refine ⟨r, hr, hne, ho, c1, ?_, ?_⟩
    · rw [← Int32.toInt_inj, fw_addI (by omega) (by omega)]
      omega
    · rw [← Int32.toInt_inj, fw_addI (by omega) (by omega)]
      omega
/-- the search for the next stop, from above down to n -/
def fw_BX (s f g : Nat → Int32) (P y k n : Nat) (x : Int32) : Prop := (x = -1 ∧ ∀ r, n ≤ r → r < P → ¬ fw_BC s f g y k r) ∨ ∃ z, z < P ∧ x = nI z ∧ fw_BC s f g y k z
theorem fw_BX.start {s f g : Nat → Int32} {P y k n : Nat} (h : P ≤ n) : fw_BX s f g P y k n (-1) := Or.inl ⟨rfl, fun r _ _ => by omega⟩
theorem fw_BX.no {s f g : Nat → Int32} {P y k n z : Nat} {x : Int32} (h : fw_BX s f g P y k n x) (e : z + 1 = n) (hz : ¬ fw_BC s f g y k z) : fw_BX s f g P y k z x := by
  rcases h with ⟨h1, h2⟩ | h
  · refine Or.inl ⟨h1, fun r h3 h4 => ?_⟩
    by_cases q : r = z
    · subst q; exact hz
    · exact h2 r (by omega) h4
  · exact Or.inr h
theorem x_dn {u : Int32} {n : Nat} (h : u = nI n - 1) (hn : n ≤ 10) (h0 : ¬ u < 0) : ∃ y, y + 1 = n ∧ u = nI y := by
  subst h
  by_cases e : n = 0
  · subst e; exact absurd (by decide) h0
  · exact ⟨n - 1, by omega, pk_sub (a := n) (b := 1) (by omega)⟩
theorem x_dn0 {u : Int32} {n : Nat} (h : u = nI n - 1) (hn : n ≤ 10) (h0 : u < 0) : n = 0 := by
  subst h
  by_cases e : n = 0
  · exact e
  · exfalso
    have e2 : nI n - 1 = nI (n - 1) := pk_sub (a := n) (b := 1) (by omega)
    rw [e2, Int32.lt_iff_toInt_lt, nI_toInt (by omega)] at h0
    have : (0 : Int32).toInt = 0 := by decide
    omega
/-- one step of the way there -/
def fw_BS (f g : Nat → Int32) (P k w i y : Nat) : Prop := y < P ∧ ¬ f (10 * y + k) = 100000000 ∧ (w : Int) ≤ (i : Int) + (g (10 * y + k)).toInt
theorem fw_BS.next {s f g : Nat → Int32} {P y k n w i : Nat} {x u : Int32} (hG : fw_Gd s P P f g) (hP : P ≤ 10) (hM : MI s) (hk : k < P) (hy : fw_BS f g P k w i y) (hw : i < w) (hx : fw_BX s f g P y k n x) (hu : u = nI n - 1) (hn : n ≤ P) (h0 : u < 0) : ∃ z, (z < P ∧ fw_BS f g P k w (i + 1) z) ∧ x = nI z := by
  have hn0 := x_dn0 hu (by omega) h0
  subst hn0
  obtain ⟨hy1, hf, hg⟩ := hy
  have hyk : y ≠ k := by
    intro e
    subst e
    have := (hG.2.1 y hy1).2
    omega
  rcases hx with ⟨-, h2⟩ | ⟨z, hz, e, hb⟩
  · obtain ⟨r, hr, hb⟩ := hG.edge hP hM hy1 hk hyk hf
    exact absurd hb (h2 r (by omega) hr)
  · refine ⟨z, ⟨hz, hz, hb.2.2.1, ?_⟩, e⟩
    have b2 := ((hG.1 z k hz hk).1).of hb.2.2.1
    have hp := fw_pw_le P (by omega)
    have h1 : (1 : Int32).toInt = 1 := by decide
    have := hb.2.2.2.2
    rw [← Int32.toInt_inj, fw_addI (by omega) (by omega)] at this
    omega
theorem fw_BS.start {f g : Nat → Int32} {P k w j : Nat} (hj : j < P) (hw : w ≤ 9) (hf : ¬ f (10 * j + k) = 100000000) (h : nI w ≤ g (10 * j + k)) : fw_BS f g P k w 0 j := by
  refine ⟨hj, hf, ?_⟩
  rw [Int32.le_iff_toInt_le, nI_toInt (by omega)] at h
  omega
/-! how far it is: the class's one table -/
def rowL (l o : Nat → Int32) : Nat → Int32 := fun j => if j < 113 then l (j - 13) else o (j - 213)
theorem rowL_o {l o : Nat → Int32} {a r : Nat} : rowL l o (213 + 10 * a + r) = o (10 * a + r) := by
  unfold rowL; rw [if_neg (by omega), show 213 + 10 * a + r - 213 = 10 * a + r by omega]
theorem rowL_l {l o : Nat → Int32} {a r : Nat} (ha : a < 10) (hr : r < 10) : rowL l o (13 + 10 * a + r) = l (10 * a + r) := by
  unfold rowL; rw [if_pos (by omega), show 13 + 10 * a + r - 13 = 10 * a + r by omega]
def rw_E (s t : Nat → Int32) (P : Nat) : Prop := ∀ a r, a < P → r < P → t (213 + 10 * a + r) = s (213 + 10 * a + r) ∧ t (13 + 10 * a + r) = s (13 + 10 * a + r)
theorem fw_Wk.cg {s t : Nat → Int32} {P : Nat} (e : rw_E s t P) : ∀ {n a b : Nat} {x : Int}, a < P → fw_Wk s P n a b x → fw_Wk t P n a b x := by
  intro n
  induction n with
  | zero => intro a b x _ h; exact h
  | succ n ih =>
    intro a b x ha h
    rw [fw_Wk_s] at h ⊢
    obtain ⟨r, hr, hn, ho, h⟩ := h
    obtain ⟨e1, e2⟩ := e a r ha hr
    exact ⟨r, hr, hn, e1.trans ho, by rw [e2]; exact ih hr h⟩
theorem fw_Gd.cg {s t f g : Nat → Int32} {P m : Nat} (h : fw_Gd s P m f g) (e : rw_E s t P) : fw_Gd t P m f g := by
  refine ⟨fun a b ha hb => ⟨(h.1 a b ha hb).1, fun q => ((h.1 a b ha hb).2 q).cg e ha⟩, h.2.1, fun a b ha hb hn ho => ?_, h.2.2.2⟩
  obtain ⟨e1, e2⟩ := e a b ha hb
  rw [e2]
  exact h.2.2.1 a b ha hb hn (e1.symm.trans ho)
/-! a walk that is long goes in a circle -/
theorem pgh : ∀ (P : Nat) (v : Nat → Nat), (∀ i, i ≤ P → v i < P) → ∃ i j, i < j ∧ j ≤ P ∧ v i = v j
  | 0, v, h => absurd (h 0 (Nat.le_refl _)) (Nat.not_lt_zero _)
  | P + 1, v, h => by
    by_cases q : ∃ i, i ≤ P ∧ v i = v (P + 1)
    · obtain ⟨i, hi, e⟩ := q
      exact ⟨i, P + 1, by omega, Nat.le_refl _, e⟩
    · have hq : ∀ i, i ≤ P → ¬ v i = v (P + 1) := fun i hi e => q ⟨i, hi, e⟩
      have hP := h (P + 1) (Nat.le_refl _)
      obtain ⟨i, j, h1, h2, h3⟩ := pgh P (fun i => if v i = P then v (P + 1) else v i) (fun i hi => by
        show (if v i = P then v (P + 1) else v i) < P
        have a := h i (by omega)
        have b := hq i hi
        split <;> omega)
      refine ⟨i, j, h1, by omega, ?_⟩
      have h3 : (if v i = P then v (P + 1) else v i) = (if v j = P then v (P + 1) else v j) := h3
      have b1 := hq i (by omega)
      have b2 := hq j h2
      split at h3 <;> split at h3 <;> omega
def fw_S (s : Nat → Int32) (P n : Nat) (v : Nat → Nat) (w : Nat → Int) : Prop := ∀ i, i < n → v (i + 1) < P ∧ v (i + 1) ≠ v i ∧ s (213 + 10 * v i + v (i + 1)) = 1 ∧ w (i + 1) = w i + (s (13 + 10 * v i + v (i + 1))).toInt
theorem fw_sq {s : Nat → Int32} {P b : Nat} : ∀ {n a : Nat} {x : Int}, fw_Wk s P n a b x → ∃ (v : Nat → Nat) (w : Nat → Int), v 0 = a ∧ w 0 = 0 ∧ v n = b ∧ w n = x ∧ fw_S s P n v w := by
  intro n
  induction n with
  | zero =>
    intro a x h
    rw [fw_Wk_0] at h
    exact ⟨fun _ => a, fun _ => 0, rfl, rfl, h.1, h.2.symm, fun i hi => absurd hi (Nat.not_lt_zero _)⟩
  | succ n ih =>
    intro a x h
    rw [fw_Wk_s] at h
    obtain ⟨r, hr, hn, ho, h⟩ := h
    obtain ⟨v, w, v0, w0, vn, wn, H⟩ := ih h
    refine ⟨fun i => match i with | 0 => a | i + 1 => v i, fun i => match i with | 0 => 0 | i + 1 => w i + (s (13 + 10 * a + r)).toInt, rfl, rfl, vn, ?_, ?_⟩
    · show w n + (s (13 + 10 * a + r)).toInt = x
      omega
    · intro i hi
      match i with
      | 0 =>
        show v 0 < P ∧ v 0 ≠ a ∧ s (213 + 10 * a + v 0) = 1 ∧ w 0 + (s (13 + 10 * a + r)).toInt = 0 + (s (13 + 10 * a + v 0)).toInt
        rw [v0, w0]
        exact ⟨hr, hn, ho, rfl⟩
      | i + 1 =>
        show v (i + 1) < P ∧ v (i + 1) ≠ v i ∧ s (213 + 10 * v i + v (i + 1)) = 1 ∧ w (i + 1) + (s (13 + 10 * a + r)).toInt = (w i + (s (13 + 10 * a + r)).toInt) + (s (13 + 10 * v i + v (i + 1))).toInt
        obtain ⟨h1, h2, h3, h4⟩ := H i (by omega)
        exact ⟨h1, h2, h3, by omega⟩
theorem fw_sub {s : Nat → Int32} {P n : Nat} {v : Nat → Nat} {w : Nat → Int} (H : fw_S s P n v w) : ∀ (k i : Nat), i + k ≤ n → fw_Wk s P k (v i) (v (i + k)) (w (i + k) - w i)
  | 0, i, _ => by
    rw [fw_Wk_0]
    exact ⟨rfl, by show w i - w i = 0; omega⟩
  | k + 1, i, h => by
    obtain ⟨h1, h2, h3, h4⟩ := H i (by omega)
    have ih := fw_sub H k (i + 1) (by omega)
    rw [show i + 1 + k = i + (k + 1) by omega] at ih
    rw [fw_Wk_s]
    refine ⟨v (i + 1), h1, h2, h3, ?_⟩
    rw [show w (i + (k + 1)) - w i - (s (13 + 10 * v i + v (i + 1))).toInt = w (i + (k + 1)) - w (i + 1) by omega]
    exact ih
theorem fw_split {s : Nat → Int32} {P n a b : Nat} {x : Int} (ha : a < P) (hn : P ≤ n) (h : fw_Wk s P n a b x) : ∃ (r k : Nat) (y : Int), r < P ∧ 1 ≤ k ∧ k ≤ P ∧ k ≤ n ∧ fw_Wk s P k r r y ∧ fw_Wk s P (n - k) a b (x - y) := by
  obtain ⟨v, w, v0, w0, vn, wn, H⟩ := fw_sq h
  have hv : ∀ i, i ≤ P → v i < P := by
    intro i hi
    match i with
    | 0 => rw [v0]; exact ha
    | i + 1 => exact (H i (by omega)).1
  obtain ⟨i, j, h1, h2, h3⟩ := pgh P v hv
  refine ⟨v i, j - i, w j - w i, hv i (by omega), by omega, by omega, by omega, ?_, ?_⟩
  · have := fw_sub H (j - i) i (by omega)
    rw [show i + (j - i) = j by omega, ← h3] at this
    exact this
  · have p1 := fw_sub H i 0 (by omega)
    have p2 := fw_sub H (n - j) j (by omega)
    rw [Nat.zero_add, v0, w0] at p1
    rw [show j + (n - j) = n by omega, vn, wn, ← h3] at p2
    have := fw_Wk.app p2 p1
    rw [show n - (j - i) = i + (n - j) by omega, show x - (w j - w i) = w i - 0 + (x - w j) by omega]
    exact this
def fw_NN (s : Nat → Int32) (P : Nat) : Prop := ∀ (r k : Nat) (y : Int), r < P → k ≤ 10 → fw_Wk s P k r r y → 0 ≤ y
theorem fw_NN.all {s : Nat → Int32} {P : Nat} (H : fw_NN s P) (hP : P ≤ 10) : ∀ (m n a : Nat) (x : Int), n ≤ m → a < P → fw_Wk s P n a a x → 0 ≤ x
  | 0, n, a, x, hn, ha, h => H a n x ha (by omega) h
  | m + 1, n, a, x, hn, ha, h => by
    by_cases c : n ≤ 10
    · exact H a n x ha c h
    · obtain ⟨r, k, y, h1, h2, h3, h4, h5, h6⟩ := fw_split ha (by omega) h
      have a1 := H r k y h1 (by omega) h5
      have a2 := fw_NN.all H hP m (n - k) a (x - y) (by omega) ha h6
      omega
theorem fw_NN.short {s : Nat → Int32} {P : Nat} (H : fw_NN s P) (hP : P ≤ 10) : ∀ (m n a b : Nat) (x : Int), n ≤ m → a < P → fw_Wk s P n a b x → ∃ (n2 : Nat) (x2 : Int), n2 < P ∧ n2 ≤ n ∧ x2 ≤ x ∧ fw_Wk s P n2 a b x2
  | 0, n, a, b, x, hn, ha, h => ⟨n, x, by omega, Nat.le_refl _, Int.le_refl _, h⟩
  | m + 1, n, a, b, x, hn, ha, h => by
    by_cases c : n < P
    · exact ⟨n, x, c, Nat.le_refl _, Int.le_refl _, h⟩
    · obtain ⟨r, k, y, h1, h2, h3, h4, h5, h6⟩ := fw_split ha (by omega) h
      have a1 := H r k y h1 (by omega) h5
      obtain ⟨n2, x2, b1, b2, b3, b4⟩ := fw_NN.short H hP m (n - k) a b (x - y) (by omega) ha h6
      exact ⟨n2, x2, b1, by omega, by omega, b4⟩
/-- what a walk of n ways can come to -/
def MB (s : Nat → Int32) (P : Nat) : Prop := ∀ a r, a < P → r < P → -99 ≤ (s (13 + 10 * a + r)).toInt ∧ (s (13 + 10 * a + r)).toInt ≤ 999
theorem fw_Wk.le {s : Nat → Int32} {P b : Nat} (hM : MB s P) : ∀ {n a : Nat} {x : Int}, a < P → fw_Wk s P n a b x → -(999 * (n : Int)) ≤ x ∧ x ≤ 999 * (n : Int) := by
  intro n
  induction n with
  | zero =>
    intro a x _ h
    rw [fw_Wk_0] at h
    omega
  | succ n ih =>
    intro a x ha h
    rw [fw_Wk_s] at h
    obtain ⟨r, hr, hn, ho, h⟩ := h
    have h1 := ih hr h
    have h2 := hM a r ha hr
    omega
/-! the class's table -/
theorem cl_NO : (1000000000 : Int32).toInt = 1000000000 := by decide
theorem cl_DP : (-100000000 : Int32).toInt = -100000000 := by decide
def tog (a b : Int32) : Int32 := if a = 1000000000 ∨ b = 1000000000 then 1000000000 else a + b
theorem tog_l {a b : Int32} (h : a = 1000000000) : (1000000000 : Int32) = tog a b := (if_pos (Or.inl h)).symm
theorem tog_r {a b : Int32} (h : b = 1000000000) : (1000000000 : Int32) = tog a b := (if_pos (Or.inr h)).symm
theorem tog_y {a b : Int32} (h : ¬ a = 1000000000) (h2 : ¬ b = 1000000000) : a + b = tog a b := (if_neg (fun q => q.elim h h2)).symm
def owL (l o : Nat → Int32) (j k : Nat) : Int32 := if o (10 * j + k) = 1 then 100 * l (10 * j + k) + 1 else 1000000000
def cl_v (h y z : Int32) : Int32 := if tog h y < z then (if tog h y < -100000000 then -100000000 else tog h y) else z
def cl_bd (B : Int) (X : Int32) : Prop := X = 1000000000 ∨ (-(9900 * B) ≤ X.toInt ∧ X.toInt ≤ 99901 * B)
theorem cl_bd.of {B : Int} {X : Int32} (h : cl_bd B X) (h1 : ¬ X = 1000000000) : -(9900 * B) ≤ X.toInt ∧ X.toInt ≤ 99901 * B := h.resolve_left h1
theorem cl_bd.le {B : Int} {X : Int32} (h : cl_bd B X) (hB : B ≤ 2048) : X.toInt ≤ 1000000000 := by
  rcases h with h | h
  · rw [h, cl_NO]; omega
  · omega
theorem cl_num {X Y Z v : Int32} {B : Int} (hB1 : 1 ≤ B) (hB : B ≤ 1024) (hX : cl_bd B X) (hY : cl_bd B Y) (hZ : cl_bd B Z) (hv : v = cl_v X Y Z) :
    (v = 1000000000 ∧ Z = 1000000000 ∧ (X = 1000000000 ∨ Y = 1000000000)) ∨
    (¬ v = 1000000000 ∧ (-(9900 * (2 * B)) ≤ v.toInt ∧ v.toInt ≤ 99901 * (2 * B)) ∧ (¬ Z = 1000000000 → v.toInt ≤ Z.toInt) ∧ (¬ X = 1000000000 → ¬ Y = 1000000000 → v.toInt ≤ X.toInt + Y.toInt) ∧ ((¬ Z = 1000000000 ∧ v.toInt = Z.toInt) ∨ (¬ X = 1000000000 ∧ ¬ Y = 1000000000 ∧ v.toInt = X.toInt + Y.toInt))) := by
  have hNO := cl_NO
  have hDP := cl_DP
  have ne : ∀ {W : Int32}, ¬ W = 1000000000 → ¬ W.toInt = 1000000000 := fun h q => h (Int32.toInt_inj.mp (q.trans hNO.symm))
  have nf : ∀ {W : Int32}, ¬ W.toInt = 1000000000 → ¬ W = 1000000000 := fun h q => h (by rw [q]; exact hNO)
  have zle := hZ.le (by omega)
  by_cases hx : X = 1000000000 ∨ Y = 1000000000
  · have et : tog X Y = 1000000000 := if_pos hx
    have ev : v = Z := by
      rw [hv]; unfold cl_v
      rw [et]
      exact if_neg (fun q => by rw [lt_iff9, hNO] at q; omega)
    by_cases hz : Z = 1000000000
    · exact Or.inl ⟨ev.trans hz, hz, hx⟩
    · have hz2 := hZ.of hz
      refine Or.inr ⟨fun q => hz (ev.symm.trans q), ?_, fun _ => by rw [ev]; exact Int.le_refl _, fun h1 h2 => absurd hx (fun q => q.elim h1 h2), Or.inl ⟨hz, by rw [ev]⟩⟩
      rw [ev]; omega
  · have h1 : ¬ X = 1000000000 := fun q => hx (Or.inl q)
    have h2 : ¬ Y = 1000000000 := fun q => hx (Or.inr q)
    have hx2 := hX.of h1
    have hy2 := hY.of h2
    have et : tog X Y = X + Y := if_neg hx
    have es : (X + Y).toInt = X.toInt + Y.toInt := fw_addI (by omega) (by omega)
    have hnd : ¬ X + Y < -100000000 := fun q => by rw [lt_iff9, hDP, es] at q; omega
    by_cases hl : X + Y < Z
    · have ev : v = X + Y := by
        rw [hv]; unfold cl_v
        rw [et, if_pos hl, if_neg hnd]
      rw [lt_iff9, es] at hl
      refine Or.inr ⟨nf (by rw [ev, es]; omega), by rw [ev, es]; omega, fun _ => by rw [ev, es]; omega, fun _ _ => by rw [ev, es]; omega, Or.inr ⟨h1, h2, by rw [ev, es]⟩⟩
    · have ev : v = Z := by
        rw [hv]; unfold cl_v
        rw [et]; exact if_neg hl
      rw [lt_iff9, es] at hl
      have hz : ¬ Z = 1000000000 := nf (by omega)
      have hz2 := hZ.of hz
      refine Or.inr ⟨fun q => hz (ev.symm.trans q), by rw [ev]; omega, fun _ => by rw [ev]; exact Int.le_refl _, fun _ _ => by rw [ev]; omega, Or.inl ⟨hz, by rw [ev]⟩⟩
/-- the table is good for ways between that go over places below m -/
def cl_Gd (s : Nat → Int32) (P m : Nat) (L : Nat → Int32) : Prop :=
  (∀ a b, a < P → b < P → cl_bd (fw_pw m) (L (10 * a + b)) ∧ (¬ L (10 * a + b) = 1000000000 → ∃ (n : Nat) (x : Int), fw_Wk s P n a b x ∧ (L (10 * a + b)).toInt = 100 * x + n)) ∧
  (∀ a, a < P → (L (10 * a + a)).toInt = 0) ∧
  (∀ a b, a < P → b < P → b ≠ a → s (213 + 10 * a + b) = 1 → ¬ L (10 * a + b) = 1000000000 ∧ (L (10 * a + b)).toInt ≤ 100 * (s (13 + 10 * a + b)).toInt + 1) ∧
  (∀ k a b, k < m → k < P → a < P → b < P → ¬ L (10 * a + k) = 1000000000 → ¬ L (10 * k + b) = 1000000000 → ¬ L (10 * a + b) = 1000000000 ∧ (L (10 * a + b)).toInt ≤ (L (10 * a + k)).toInt + (L (10 * k + b)).toInt)
def cl_JV (L : Nat → Int32) (a m b : Nat) (v : Int32) : Prop := v = cl_v (L (10 * a + m)) (L (10 * m + b)) (L (10 * a + b))
theorem cl_jv_ok {s L : Nat → Int32} {P m a b : Nat} {v : Int32} (hG : cl_Gd s P m L) (hm : m < P) (hP : P ≤ 10) (ha : a < P) (hb : b < P) (hJ : cl_JV L a m b v) :
    (v = 1000000000 ∧ L (10 * a + b) = 1000000000 ∧ (L (10 * a + m) = 1000000000 ∨ L (10 * m + b) = 1000000000)) ∨
    (¬ v = 1000000000 ∧ cl_bd (fw_pw (m + 1)) v ∧ (∃ (n : Nat) (x : Int), fw_Wk s P n a b x ∧ v.toInt = 100 * x + n) ∧ (¬ L (10 * a + b) = 1000000000 → v.toInt ≤ (L (10 * a + b)).toInt) ∧ (¬ L (10 * a + m) = 1000000000 → ¬ L (10 * m + b) = 1000000000 → v.toInt ≤ (L (10 * a + m)).toInt + (L (10 * m + b)).toInt) ∧ ((¬ L (10 * a + b) = 1000000000 ∧ v.toInt = (L (10 * a + b)).toInt) ∨ (¬ L (10 * a + m) = 1000000000 ∧ ¬ L (10 * m + b) = 1000000000 ∧ v.toInt = (L (10 * a + m)).toInt + (L (10 * m + b)).toInt))) := by
  obtain ⟨bX, wX⟩ := hG.1 a m ha hm
  obtain ⟨bY, wY⟩ := hG.1 m b hm hb
  obtain ⟨bZ, wZ⟩ := hG.1 a b ha hb
  rcases cl_num (fw_pw_pos m) (fw_pw_le m (by omega)) bX bY bZ hJ with h | ⟨h1, h2, h3, h4, h5⟩
  · exact Or.inl h
  · refine Or.inr ⟨h1, Or.inr (by rw [fw_pw_s]; exact h2), ?_, h3, h4, h5⟩
    rcases h5 with ⟨a1, a2⟩ | ⟨a1, a2, a3⟩
    · obtain ⟨n, x, q1, q2⟩ := wZ a1
      exact ⟨n, x, q1, a2.trans q2⟩
    · obtain ⟨n, x, q1, q2⟩ := wX a1
      obtain ⟨n2, x2, q3, q4⟩ := wY a2
      exact ⟨n + n2, x + x2, fw_Wk.app q3 q1, by omega⟩
theorem cl_Gd.diag {s L : Nat → Int32} {P m a : Nat} (hG : cl_Gd s P m L) (ha : a < P) : ¬ L (10 * a + a) = 1000000000 := fun h => by
  have h1 := hG.2.1 a ha
  rw [h, cl_NO] at h1
  omega
/-- the row and the pillar of the place between stay -/
theorem cl_jv_row {s L : Nat → Int32} {P m a : Nat} {v : Int32} (hG : cl_Gd s P m L) (hm : m < P) (hP : P ≤ 10) (ha : a < P) (hJ : cl_JV L a m m v) : v = L (10 * a + m) := by
  have d1 := hG.2.1 m hm
  have d2 := hG.diag hm
  rcases cl_jv_ok hG hm hP ha hm hJ with ⟨h1, h2, -⟩ | ⟨h1, -, -, h4, h5, h6⟩
  · exact h1.trans h2.symm
  · rcases h6 with ⟨q1, q2⟩ | ⟨q1, q2, q3⟩
    · exact Int32.toInt_inj.mp q2
    · exact Int32.toInt_inj.mp (by omega)
theorem cl_jv_col {s L : Nat → Int32} {P m b : Nat} {v : Int32} (hG : cl_Gd s P m L) (hm : m < P) (hP : P ≤ 10) (hb : b < P) (hJ : cl_JV L m m b v) : v = L (10 * m + b) := by
  have d1 := hG.2.1 m hm
  have d2 := hG.diag hm
  rcases cl_jv_ok hG hm hP hm hb hJ with ⟨h1, h2, -⟩ | ⟨h1, -, -, h4, h5, h6⟩
  · exact h1.trans h2.symm
  · rcases h6 with ⟨q1, q2⟩ | ⟨q1, q2, q3⟩
    · exact Int32.toInt_inj.mp q2
    · exact Int32.toInt_inj.mp (by omega)
theorem cl_Gd.step {s L0 L : Nat → Int32} {P m : Nat} (hG : cl_Gd s P m L0) (hm : m < P) (hP : P ≤ 10) (hJ : ∀ a b, a < P → b < P → cl_JV L0 a m b (L (10 * a + b))) (hd : ∀ i, i < P → ¬ L (10 * i + i) < 0) : cl_Gd s P (m + 1) L := by
  have jv := fun a b ha hb => cl_jv_ok hG hm hP ha hb (hJ a b ha hb)
  have h0 : (0 : Int32).toInt = 0 := by decide
  refine ⟨?_, ?_, ?_, ?_⟩
  · intro a b ha hb
    rcases jv a b ha hb with ⟨h, -, -⟩ | ⟨h1, h2, h3, -⟩
    · exact ⟨Or.inl h, fun q => absurd h q⟩
    · exact ⟨h2, fun _ => h3⟩
  · intro a ha
    have hi := hd a ha
    rw [lt_iff9] at hi
    have d1 := hG.diag ha
    have d2 := hG.2.1 a ha
    rcases jv a a ha ha with ⟨-, h, -⟩ | ⟨h1, h2, h3, h4, -⟩
    · exact absurd h d1
    · have := h4 d1
      omega
  · intro a b ha hb hab ho
    obtain ⟨d1, d2⟩ := hG.2.2.1 a b ha hb hab ho
    rcases jv a b ha hb with ⟨-, h, -⟩ | ⟨h1, h2, h3, h4, -⟩
    · exact absurd h d1
    · exact ⟨h1, Int.le_trans (h4 d1) d2⟩
  · intro k a b hk hkP ha hb hak hkb
    have hc := hG.2.2.2
    rcases jv a k ha hkP with ⟨h, -, -⟩ | ⟨-, -, -, -, -, hA⟩
    · exact absurd h hak
    rcases jv k b hkP hb with ⟨h, -, -⟩ | ⟨-, -, -, -, -, hB⟩
    · exact absurd h hkb
    by_cases hkm : k = m
    · subst hkm
      have d2 := hG.2.1 k hm
      have A : ¬ L0 (10 * a + k) = 1000000000 ∧ (L (10 * a + k)).toInt = (L0 (10 * a + k)).toInt := by
        rcases hA with ⟨q1, q2⟩ | ⟨q1, q2, q3⟩
        · exact ⟨q1, q2⟩
        · exact ⟨q1, by omega⟩
      have B : ¬ L0 (10 * k + b) = 1000000000 ∧ (L (10 * k + b)).toInt = (L0 (10 * k + b)).toInt := by
        rcases hB with ⟨q1, q2⟩ | ⟨q1, q2, q3⟩
        · exact ⟨q1, q2⟩
        · exact ⟨q2, by omega⟩
      rcases jv a b ha hb with ⟨-, -, h⟩ | ⟨h1, -, -, -, h5, -⟩
      · exact absurd h (fun h => h.elim A.1 B.1)
      · refine ⟨h1, ?_⟩
        have := h5 A.1 B.1
        omega
    · have hk2 : k < m := by omega
      rcases hA with ⟨p1, p2⟩ | ⟨p1, p2, p3⟩ <;> rcases hB with ⟨q1, q2⟩ | ⟨q1, q2, q3⟩
      · obtain ⟨c1, c2⟩ := hc k a b hk2 hkP ha hb p1 q1
        rcases jv a b ha hb with ⟨-, h, -⟩ | ⟨h1, -, -, h4, -, -⟩
        · exact absurd h c1
        · refine ⟨h1, ?_⟩
          have := h4 c1
          omega
      · obtain ⟨c1, c2⟩ := hc k a m hk2 hkP ha hm p1 q1
        rcases jv a b ha hb with ⟨-, -, h⟩ | ⟨h1, -, -, -, h5, -⟩
        · exact absurd h (fun h => h.elim c1 q2)
        · refine ⟨h1, ?_⟩
          have := h5 c1 q2
          omega
      · obtain ⟨c1, c2⟩ := hc k m b hk2 hkP hm hb p2 q1
        rcases jv a b ha hb with ⟨-, -, h⟩ | ⟨h1, -, -, -, h5, -⟩
        · exact absurd h (fun h => h.elim p1 c1)
        · refine ⟨h1, ?_⟩
          have := h5 p1 c1
          omega
      · obtain ⟨c1, c2⟩ := hc k m m hk2 hkP hm hm p2 q1
        have d2 := hG.2.1 m hm
        rcases jv a b ha hb with ⟨-, -, h⟩ | ⟨h1, -, -, -, h5, -⟩
        · exact absurd h (fun h => h.elim p1 q2)
        · refine ⟨h1, ?_⟩
          have := h5 p1 q2
          omega
theorem cl_Gd.same {s L L2 : Nat → Int32} {P m : Nat} (h : cl_Gd s P m L) (e : ∀ a b, a < P → b < P → L2 (10 * a + b) = L (10 * a + b)) : cl_Gd s P m L2 := by
  refine ⟨?_, ?_, ?_, ?_⟩
  · intro a b ha hb
    rw [e a b ha hb]; exact h.1 a b ha hb
  · intro a ha
    rw [e a a ha ha]; exact h.2.1 a ha
  · intro a b ha hb
    rw [e a b ha hb]; exact h.2.2.1 a b ha hb
  · intro k a b hk hkP ha hb
    rw [e a b ha hb, e a k ha hkP, e k b hkP hb]; exact h.2.2.2 k a b hk hkP ha hb
/-- how the table is at its start -/
def cl_II (l o : Nat → Int32) (P p q : Nat) (L : Nat → Int32) : Prop := ∀ a b, a < P → b < P → (a < p ∨ a = p ∧ b < q) → L (10 * a + b) = if a = b then 0 else owL l o a b
theorem cl_II.zero {l o L : Nat → Int32} {P : Nat} : cl_II l o P 0 0 L := fun a b _ _ h => by omega
theorem cl_II.put {l o L L2 : Nat → Int32} {P p q : Nat} {v : Int32} (h : cl_II l o P p q L) (hp : p < P) (hq : q < P) (hP : P ≤ 10) (e : L2 = upd L (10 * p + q) v) (hv : v = if p = q then 0 else owL l o p q) : cl_II l o P p (q + 1) L2 := by
  intro a b ha hb hab
  rw [e]
  by_cases w : a = p ∧ b = q
  · obtain ⟨rfl, rfl⟩ := w
    rw [pk_us]; exact hv
  · rw [pk_un (by omega)]
    exact h a b ha hb (by omega)
theorem cl_II.row {l o L : Nat → Int32} {P p q : Nat} (h : cl_II l o P p q L) (hq : P ≤ q) : cl_II l o P (p + 1) 0 L := fun a b ha hb _ => h a b ha hb (by omega)
theorem owL_y {l o : Nat → Int32} {a b : Nat} (h : o (10 * a + b) = 1) : owL l o a b = 100 * l (10 * a + b) + 1 := if_pos h
theorem owL_I {x : Int32} (h : -99 ≤ x.toInt ∧ x.toInt ≤ 999) : (100 * x + 1 : Int32).toInt = 100 * x.toInt + 1 := by
  have e1 : (100 : Int32).toInt = 100 := by decide
  have e2 : (1 : Int32).toInt = 1 := by decide
  have e3 : (100 * x : Int32).toInt = 100 * x.toInt := by
    rw [Int32.toInt_mul, e1, Int.bmod_eq_of_le (by omega) (by omega)]
  rw [fw_addI (by omega) (by omega), e3, e2]
theorem cl_Gd.start {l o L : Nat → Int32} {P p : Nat} (hP : P ≤ 10) (hM : MB (rowL l o) P) (h : cl_II l o P p 0 L) (hp : P ≤ p) : cl_Gd (rowL l o) P 0 L := by
  have hNO := cl_NO
  have H : ∀ a b, a < P → b < P → L (10 * a + b) = if a = b then 0 else owL l o a b := fun a b ha hb => h a b ha hb (by omega)
  have lb : ∀ a b, a < P → b < P → -99 ≤ (l (10 * a + b)).toInt ∧ (l (10 * a + b)).toInt ≤ 999 := fun a b ha hb => by
    have := hM a b ha hb
    rw [rowL_l (by omega) (by omega)] at this
    exact this
  have h0 : (0 : Int32).toInt = 0 := by decide
  have hp1 : fw_pw 0 = 1 := rfl
  refine ⟨?_, ?_, ?_, ?_⟩
  · intro a b ha hb
    rw [H a b ha hb]
    by_cases e : a = b
    · rw [if_pos e]
      refine ⟨Or.inr (by omega), fun _ => ⟨0, 0, ?_, by omega⟩⟩
      rw [fw_Wk_0]; exact ⟨e, rfl⟩
    · rw [if_neg e]
      by_cases ho : o (10 * a + b) = 1
      · rw [owL_y ho]
        have l1 := lb a b ha hb
        have l2 := owL_I l1
        refine ⟨Or.inr (by omega), fun _ => ⟨1, (l (10 * a + b)).toInt, ?_, by omega⟩⟩
        rw [fw_Wk_s]
        refine ⟨b, hb, fun q => e q.symm, by rw [rowL_o]; exact ho, ?_⟩
        rw [rowL_l (by omega) (by omega), fw_Wk_0]
        exact ⟨rfl, by omega⟩
      · have e2 : owL l o a b = 1000000000 := if_neg ho
        rw [e2]
        exact ⟨Or.inl rfl, fun q => absurd rfl q⟩
  · intro a ha
    rw [H a a ha ha, if_pos rfl]; exact h0
  · intro a b ha hb hn ho
    rw [rowL_o] at ho
    rw [H a b ha hb, if_neg (fun q => hn q.symm), owL_y ho, rowL_l (by omega) (by omega)]
    have l1 := lb a b ha hb
    have l2 := owL_I l1
    refine ⟨fun q => ?_, by omega⟩
    rw [q, hNO] at l2
    omega
  · intro k a b hk
    omega
def cl_NL (s : Nat → Int32) (P : Nat) (L : Nat → Int32) : Prop := ∃ i, i < P ∧ L (10 * i + i) < 0 ∧ ∃ (n : Nat) (x : Int), fw_Wk s P n i i x ∧ 100 * x + n < 0
def cl_FW (s : Nat → Int32) (P m p q : Nat) (L : Nat → Int32) : Prop := cl_NL s P L ∨ ∃ L0, cl_Gd s P m L0 ∧ ∀ a b, a < P → b < P → ((a < p ∨ a = p ∧ b < q) ∧ cl_JV L0 a m b (L (10 * a + b))) ∨ (¬ (a < p ∨ a = p ∧ b < q) ∧ L (10 * a + b) = L0 (10 * a + b))
/-- the same, within a row: its head was read ahead -/
def cl_FR (s : Nat → Int32) (P m p q : Nat) (L : Nat → Int32) (h : Int32) : Prop := cl_NL s P L ∨ ∃ L0, cl_Gd s P m L0 ∧ h = L0 (10 * p + m) ∧ ∀ a b, a < P → b < P → ((a < p ∨ a = p ∧ b < q) ∧ cl_JV L0 a m b (L (10 * a + b))) ∨ (¬ (a < p ∨ a = p ∧ b < q) ∧ L (10 * a + b) = L0 (10 * a + b))
theorem cl_FW.start {l o L : Nat → Int32} {P p : Nat} (hP : P ≤ 10) (hM : MB (rowL l o) P) (h : cl_II l o P p 0 L) (hp : P ≤ p) : cl_FW (rowL l o) P 0 0 0 L :=
  Or.inr ⟨L, cl_Gd.start hP hM h hp, fun a b _ _ => Or.inr ⟨by omega, rfl⟩⟩
theorem cl_FW.head {s L : Nat → Int32} {P m p : Nat} (h : cl_FW s P m p 0 L) (hm : m < P) (hp : p < P) : cl_FR s P m p 0 L (L (10 * p + m)) := by
  rcases h with h | ⟨L0, hG, H⟩
  · exact Or.inl h
  · refine Or.inr ⟨L0, hG, ?_, H⟩
    rcases H p m hp hm with ⟨h, -⟩ | ⟨-, h⟩
    · exfalso; omega
    · exact h
theorem cl_FR.row {s L : Nat → Int32} {P m p q : Nat} {h : Int32} (hF : cl_FR s P m p q L h) (hq : P ≤ q) : cl_FW s P m (p + 1) 0 L := by
  rcases hF with h | ⟨L0, hG, -, H⟩
  · exact Or.inl h
  · refine Or.inr ⟨L0, hG, fun a b ha hb => ?_⟩
    rcases H a b ha hb with ⟨h, h2⟩ | ⟨h, h2⟩
    · exact Or.inl ⟨by omega, h2⟩
    · exact Or.inr ⟨by omega, h2⟩
theorem cl_FR.none {s L : Nat → Int32} {P m p q : Nat} {h : Int32} (hF : cl_FR s P m p q L h) (hm : m < P) (hP : P ≤ 10) (hn : h = 1000000000) : cl_FW s P m (p + 1) 0 L := by
  rcases hF with h | ⟨L0, hG, hh, H⟩
  · exact Or.inl h
  · refine Or.inr ⟨L0, hG, fun a b ha hb => ?_⟩
    rcases H a b ha hb with ⟨h, h2⟩ | ⟨h, h2⟩
    · exact Or.inl ⟨by omega, h2⟩
    · by_cases e : a = p
      · subst e
        refine Or.inl ⟨by omega, ?_⟩
        unfold cl_JV cl_v
        have et : tog (L0 (10 * a + m)) (L0 (10 * m + b)) = 1000000000 := if_pos (Or.inl (hh.symm.trans hn))
        rw [et, h2]
        have zle := ((hG.1 a b ha hb).1).le (by have := fw_pw_le m (by omega); omega)
        exact (if_neg (fun q => by rw [lt_iff9, cl_NO] at q; omega)).symm
      · exact Or.inr ⟨by omega, h2⟩
def cl_JN (L : Nat → Int32) (h : Int32) (p m q : Nat) (L2 : Nat → Int32) : Prop := (tog h (L (10 * m + q)) < L (10 * p + q) ∧ L2 = upd L (10 * p + q) (if tog h (L (10 * m + q)) < -100000000 then -100000000 else tog h (L (10 * m + q)))) ∨ (¬ tog h (L (10 * m + q)) < L (10 * p + q) ∧ L2 = L)
theorem cl_FR.step {s L L2 : Nat → Int32} {P m p q : Nat} {h : Int32} (hF : cl_FR s P m p q L h) (hm : m < P) (hp : p < P) (hq : q < P) (hP : P ≤ 10) (hJ : cl_JN L h p m q L2) : cl_FR s P m p (q + 1) L2 h := by
  rcases hF with ⟨i, hi, hf, hw⟩ | ⟨L0, hG, hh, H⟩
  · refine Or.inl ⟨i, hi, ?_, hw⟩
    rcases hJ with ⟨hc, e1⟩ | ⟨-, e1⟩
    · rw [e1]
      by_cases e : 10 * i + i = 10 * p + q
      · rw [e, pk_us]
        rw [e] at hf
        split
        · decide
        · exact Int32.lt_trans hc hf
      · rw [pk_un e]; exact hf
    · rw [e1]; exact hf
  · refine Or.inr ⟨L0, hG, hh, ?_⟩
    have B : L (10 * m + q) = L0 (10 * m + q) := by
      rcases H m q hm hq with ⟨-, h⟩ | ⟨-, h⟩
      · exact cl_jv_col hG hm hP hq h
      · exact h
    have C : L (10 * p + q) = L0 (10 * p + q) := by
      rcases H p q hp hq with ⟨h, -⟩ | ⟨-, h⟩
      · exfalso; omega
      · exact h
    unfold cl_JN at hJ
    rw [hh, B, C] at hJ
    intro a b ha hb
    by_cases e : a = p ∧ b = q
    · obtain ⟨rfl, rfl⟩ := e
      refine Or.inl ⟨by omega, ?_⟩
      unfold cl_JV cl_v
      rcases hJ with ⟨hc, e1⟩ | ⟨hc, e1⟩
      · rw [e1, pk_us, if_pos hc]
      · rw [e1, if_neg hc]; exact C
    · have E : L2 (10 * a + b) = L (10 * a + b) := by
        rcases hJ with ⟨-, e1⟩ | ⟨-, e1⟩
        · rw [e1, pk_un (by omega)]
        · rw [e1]
      rw [E]
      rcases H a b ha hb with ⟨h, h2⟩ | ⟨h, h2⟩
      · exact Or.inl ⟨by omega, h2⟩
      · exact Or.inr ⟨by omega, h2⟩
theorem cl_FW.next {s L : Nat → Int32} {P m p : Nat} (h : cl_FW s P m p 0 L) (hp : P ≤ p) (hm : m < P) (hP : P ≤ 10) : cl_FW s P (m + 1) 0 0 L := by
  rcases h with h | ⟨L0, hG, H⟩
  · exact Or.inl h
  · have hJ : ∀ a b, a < P → b < P → cl_JV L0 a m b (L (10 * a + b)) := by
      intro a b ha hb
      rcases H a b ha hb with ⟨-, h⟩ | ⟨h, -⟩
      · exact h
      · exfalso; omega
    by_cases hd : ∃ i, i < P ∧ L (10 * i + i) < 0
    · obtain ⟨i, hi, hf⟩ := hd
      refine Or.inl ⟨i, hi, hf, ?_⟩
      rcases cl_jv_ok hG hm hP hi hi (hJ i i hi hi) with ⟨-, h, -⟩ | ⟨-, -, ⟨n, x, hw, hx⟩, -⟩
      · exact absurd h (hG.diag hi)
      · rw [lt_iff9, hx, z0I] at hf
        exact ⟨n, x, hw, hf⟩
    · exact Or.inr ⟨L, cl_Gd.step hG hm hP hJ (fun i hi hf => hd ⟨i, hi, hf⟩), fun a b _ _ => Or.inr ⟨by omega, rfl⟩⟩
theorem cl_FW.fin {s L : Nat → Int32} {P m : Nat} (h : cl_FW s P m 0 0 L) (hm : P ≤ m) (hm2 : m ≤ P) : cl_NL s P L ∨ cl_Gd s P P L := by
  have e : m = P := by omega
  subst e
  rcases h with h | ⟨L0, hG, H⟩
  · exact Or.inl h
  · refine Or.inr (hG.same (fun a b ha hb => ?_))
    rcases H a b ha hb with ⟨h, -⟩ | ⟨-, h⟩
    · exfalso; omega
    · exact h
theorem cl_Gd.walk {s L : Nat → Int32} {P b : Nat} (hG : cl_Gd s P P L) (hb : b < P) : ∀ {n r : Nat} {x : Int}, r < P → fw_Wk s P n r b x → ¬ L (10 * r + b) = 1000000000 ∧ (L (10 * r + b)).toInt ≤ 100 * x + n := by
  intro n
  induction n with
  | zero =>
    intro r x hr h
    rw [fw_Wk_0] at h
    obtain ⟨e1, e2⟩ := h
    subst e1; subst e2
    have d2 := hG.2.1 r hr
    exact ⟨hG.diag hr, by omega⟩
  | succ n ih =>
    intro r x hr h
    rw [fw_Wk_s] at h
    obtain ⟨t, ht, hne, ho, h⟩ := h
    obtain ⟨a1, a2⟩ := ih ht h
    obtain ⟨b1, b2⟩ := hG.2.2.1 r t hr ht hne ho
    obtain ⟨c1, c2⟩ := hG.2.2.2 t r b ht ht hr hb b1 a1
    exact ⟨c1, by omega⟩
theorem cl_Gd.nn {s L : Nat → Int32} {P : Nat} (hG : cl_Gd s P P L) : fw_NN s P := fun r k y hr hk h => by
  have h1 := (hG.walk hr hr h).2
  have h2 := hG.2.1 r hr
  omega
theorem fw_Gd.nn {s f g : Nat → Int32} {P : Nat} (hG : fw_Gd s P P f g) : fw_NN s P := fun r k y hr hk h => by
  have h1 := (hG.walk hr hr h).2
  have h2 := (hG.diag hr).2
  omega
theorem fw_Gd.lt {s f g : Nat → Int32} {P a b : Nat} (hG : fw_Gd s P P f g) (hP : P ≤ 10) (ha : a < P) (hb : b < P) (h : ¬ f (10 * a + b) = 100000000) : 0 ≤ (g (10 * a + b)).toInt ∧ (g (10 * a + b)).toInt ≤ 1024 ∧ fw_Wk s P (g (10 * a + b)).toInt.toNat a b (f (10 * a + b)).toInt := by
  obtain ⟨b1, b2⟩ := hG.1 a b ha hb
  have h1 := b1.of h
  have h2 := fw_pw_le P (by omega)
  exact ⟨h1.2.2.1, by omega, b2 h⟩
/-- two good tables are one -/
theorem fw_Gd.uq {s f g f2 g2 : Nat → Int32} {P a b : Nat} (h : fw_Gd s P P f g) (h2 : fw_Gd s P P f2 g2) (hP : P ≤ 10) (ha : a < P) (hb : b < P) : f (10 * a + b) = f2 (10 * a + b) ∧ (¬ f (10 * a + b) = 100000000 → g (10 * a + b) = g2 (10 * a + b)) := by
  by_cases c : f (10 * a + b) = 100000000
  · by_cases c2 : f2 (10 * a + b) = 100000000
    · exact ⟨c.trans c2.symm, fun q => absurd c q⟩
    · exact absurd c (h.walk hb ha (h2.lt hP ha hb c2).2.2).1
  · obtain ⟨p1, p2, p3⟩ := h.lt hP ha hb c
    obtain ⟨c2, q1⟩ := h2.walk hb ha p3
    obtain ⟨r1, r2, r3⟩ := h2.lt hP ha hb c2
    have q2 := (h.walk hb ha r3).2
    unfold fw_ky at q1 q2
    have e1 : (f (10 * a + b)).toInt = (f2 (10 * a + b)).toInt := by omega
    have e2 : (g (10 * a + b)).toInt = (g2 (10 * a + b)).toInt := by omega
    exact ⟨Int32.toInt_inj.mp e1, fun _ => Int32.toInt_inj.mp e2⟩
/-- miles and ways out of the class's length -/
def clF (x : Int32) : Int32 := if x = 1000000000 then 100000000 else Int32.ofInt (x.toInt / 100)
def clG (x : Int32) : Int32 := if x = 1000000000 then 1 else Int32.ofInt (x.toInt % 100)
theorem ofI {x : Int} (h1 : -2147483648 ≤ x) (h2 : x ≤ 2147483647) : (Int32.ofInt x).toInt = x := by
  have hs : Int32.size = 4294967296 := rfl
  rw [Int32.toInt_ofInt, hs, Int.bmod_eq_of_le (by omega) (by omega)]
theorem cl_Gd.ent {s L : Nat → Int32} {P a b : Nat} (hG : cl_Gd s P P L) (hP : P ≤ 10) (ha : a < P) (hb : b < P) (h : ¬ L (10 * a + b) = 1000000000) : ∃ (n : Nat) (x : Int), n < P ∧ fw_Wk s P n a b x ∧ (L (10 * a + b)).toInt = 100 * x + n := by
  obtain ⟨n, x, h1, h2⟩ := (hG.1 a b ha hb).2 h
  obtain ⟨n2, x2, a1, a2, a3, a4⟩ := hG.nn.short hP n n a b x (Nat.le_refl _) ha h1
  have h3 := (hG.walk hb ha a4).2
  exact ⟨n2, x2, a1, a4, by omega⟩
theorem cl_fg {x : Int32} {n : Nat} {y : Int} (h : ¬ x = 1000000000) (hn : n < 100) (hy : -100000 ≤ y ∧ y ≤ 100000) (e : x.toInt = 100 * y + n) : (clF x).toInt = y ∧ (clG x).toInt = n := by
  unfold clF clG
  rw [if_neg h, if_neg h, e]
  rw [show (100 * y + (n : Int)) / 100 = y by omega, show (100 * y + (n : Int)) % 100 = n by omega]
  exact ⟨ofI (by omega) (by omega), ofI (by omega) (by omega)⟩
theorem cl_Gd.fw {s L : Nat → Int32} {P : Nat} (hG : cl_Gd s P P L) (hP : P ≤ 10) (hM : MB s P) : fw_Gd s P P (fun j => clF (L j)) (fun j => clG (L j)) := by
  have hNO := cl_NO
  have hN := fw_NOT
  have hpw : ∀ m : Nat, m < 11 → (m : Int) ≤ fw_pw m := by decide
  have key : ∀ a b, a < P → b < P → ¬ L (10 * a + b) = 1000000000 → ∃ (n : Nat) (y : Int), n < P ∧ fw_Wk s P n a b y ∧ (L (10 * a + b)).toInt = 100 * y + n ∧ (clF (L (10 * a + b))).toInt = y ∧ (clG (L (10 * a + b))).toInt = n ∧ -(999 * (n : Int)) ≤ y ∧ y ≤ 999 * (n : Int) := by
    intro a b ha hb h
    obtain ⟨n, y, h1, h2, h3⟩ := hG.ent hP ha hb h
    have h4 := fw_Wk.le hM ha h2
    obtain ⟨h5, h6⟩ := cl_fg h (by omega) (by omega) h3
    exact ⟨n, y, h1, h2, h3, h5, h6, h4⟩
  have nt : ∀ a b, a < P → b < P → ¬ L (10 * a + b) = 1000000000 → ¬ clF (L (10 * a + b)) = 100000000 := by
    intro a b ha hb h q
    obtain ⟨n, y, h1, h2, h3, h4, h5, h6⟩ := key a b ha hb h
    rw [q, hN] at h4
    omega
  have tn : ∀ a b, a < P → b < P → ¬ clF (L (10 * a + b)) = 100000000 → ¬ L (10 * a + b) = 1000000000 := by
    intro a b ha hb h q
    exact h (if_pos q)
  refine ⟨?_, ?_, ?_, ?_⟩
  · intro a b ha hb
    show fw_bdn (fw_pw P) (clF (L (10 * a + b))) (clG (L (10 * a + b))) ∧ (¬ clF (L (10 * a + b)) = 100000000 → fw_Wk s P (clG (L (10 * a + b))).toInt.toNat a b (clF (L (10 * a + b))).toInt)
    by_cases h : L (10 * a + b) = 1000000000
    · have e : clF (L (10 * a + b)) = 100000000 := if_pos h
      exact ⟨Or.inl e, fun q => absurd e q⟩
    · obtain ⟨n, y, h1, h2, h3, h4, h5, h6⟩ := key a b ha hb h
      have hp := hpw P (by omega)
      refine ⟨Or.inr (by omega), fun _ => ?_⟩
      rw [h4, h5, show ((n : Int)).toNat = n by omega]
      exact h2
  · intro a ha
    show (clF (L (10 * a + a))).toInt = 0 ∧ (clG (L (10 * a + a))).toInt = 0
    have h0 := hG.2.1 a ha
    exact cl_fg (n := 0) (y := 0) (hG.diag ha) (by omega) (by omega) (by omega)
  · intro a b ha hb hn ho
    show ¬ clF (L (10 * a + b)) = 100000000 ∧ 4096 * (clF (L (10 * a + b))).toInt + (clG (L (10 * a + b))).toInt ≤ 4096 * (s (13 + 10 * a + b)).toInt + 1
    obtain ⟨d1, d2⟩ := hG.2.2.1 a b ha hb hn ho
    obtain ⟨n, y, h1, h2, h3, h4, h5, h6⟩ := key a b ha hb d1
    exact ⟨nt a b ha hb d1, by omega⟩
  · intro k a b hk hkP ha hb hak hkb
    have hak := tn a k ha hkP hak
    have hkb := tn k b hkP hb hkb
    show ¬ clF (L (10 * a + b)) = 100000000 ∧ 4096 * (clF (L (10 * a + b))).toInt + (clG (L (10 * a + b))).toInt ≤ (4096 * (clF (L (10 * a + k))).toInt + (clG (L (10 * a + k))).toInt) + (4096 * (clF (L (10 * k + b))).toInt + (clG (L (10 * k + b))).toInt)
    obtain ⟨d1, d2⟩ := hG.2.2.2 k a b hk hkP ha hb hak hkb
    obtain ⟨n, y, h1, h2, h3, h4, h5, h6⟩ := key a b ha hb d1
    obtain ⟨n2, y2, g1, g2, g3, g4, g5, g6⟩ := key a k ha hkP hak
    obtain ⟨n3, y3, k1, k2, k3, k4, k5, k6⟩ := key k b hkP hb hkb
    exact ⟨nt a b ha hb d1, by omega⟩
/-! the one table, and whether there is a loop -/
def Lp (l o : Nat → Int32) (P : Nat) : Prop := ∃ (i n : Nat) (x : Int), i < P ∧ fw_Wk (rowL l o) P n i i x ∧ x < 0
theorem fw_NN.nl {l o : Nat → Int32} {P : Nat} (h : fw_NN (rowL l o) P) (hP : P ≤ 10) : ¬ Lp l o P := fun ⟨i, n, x, h1, h2, h3⟩ => by
  have := h.all hP n n i x (Nat.le_refl _) h1 h2
  omega
noncomputable def tFG (l o : Nat → Int32) (P : Nat) : (Nat → Int32) × (Nat → Int32) := @dite _ (∃ t : (Nat → Int32) × (Nat → Int32), fw_Gd (rowL l o) P P t.1 t.2) (Classical.propDecidable _) (fun h => Classical.choose h) (fun _ => (fun _ => 0, fun _ => 0))
noncomputable abbrev tF (l o : Nat → Int32) (P : Nat) : Nat → Int32 := (tFG l o P).1
noncomputable abbrev tG (l o : Nat → Int32) (P : Nat) : Nat → Int32 := (tFG l o P).2
theorem tFG_ok {l o f g : Nat → Int32} {P : Nat} (h : fw_Gd (rowL l o) P P f g) : fw_Gd (rowL l o) P P (tF l o P) (tG l o P) := by
  have hx : ∃ t : (Nat → Int32) × (Nat → Int32), fw_Gd (rowL l o) P P t.1 t.2 := ⟨(f, g), h⟩
  have e : tFG l o P = Classical.choose hx := by
    unfold tFG
    exact dif_pos hx
  show fw_Gd (rowL l o) P P (tFG l o P).1 (tFG l o P).2
  rw [e]
  exact Classical.choose_spec hx
theorem fw_Gd.tF {l o f g : Nat → Int32} {P a b : Nat} (h : fw_Gd (rowL l o) P P f g) (hP : P ≤ 10) (ha : a < P) (hb : b < P) : f (10 * a + b) = (tFG l o P).1 (10 * a + b) ∧ (¬ f (10 * a + b) = 100000000 → g (10 * a + b) = (tFG l o P).2 (10 * a + b)) := h.uq (tFG_ok h) hP ha hb
/-- the class's answer: a loop, or the one table -/
theorem cl_loop {l o L : Nat → Int32} {P : Nat} (h : cl_NL (rowL l o) P L ∨ cl_Gd (rowL l o) P P L) (hP : P ≤ 10) (q : ∃ i, i < P ∧ L (10 * i + i) < 0) : Lp l o P := by
  rcases h with ⟨i, hi, -, n, x, h1, h2⟩ | h
  · exact ⟨i, n, x, hi, h1, by omega⟩
  · obtain ⟨i, hi, hf⟩ := q
    rw [lt_iff9, h.2.1 i hi, z0I] at hf
    omega
theorem cl_good {l o L : Nat → Int32} {P : Nat} (h : cl_NL (rowL l o) P L ∨ cl_Gd (rowL l o) P P L) (q : ∀ i, i < P → ¬ L (10 * i + i) < 0) : cl_Gd (rowL l o) P P L := by
  rcases h with ⟨i, hi, hf, -⟩ | h
  · exact absurd hf (q i hi)
  · exact h
/-- the reference's -/
theorem rw_FR {P : Nat} {s e l u o rn rp k wn wp t sl : Nat → Int32} (h : FR P s e l u o rn rp k wn wp t sl) {Q : Nat} (hQ : Q ≤ 10) : rw_E s (rowL l o) Q := by
  intro a r ha hr
  rw [rowL_o, rowL_l (by omega) (by omega), show 213 + 10 * a + r = 213 + (10 * a + r) by omega, show 13 + 10 * a + r = 13 + (10 * a + r) by omega]
  exact ⟨(h.2.1 _ (by omega)).2.2.1.symm, (h.2.1 _ (by omega)).1.symm⟩
theorem fin_1 {P : Nat} {s e l u o rn rp k wn wp t sl f g : Nat → Int32} {b : Int32} (h : FR P s e l u o rn rp k wn wp t sl) (hP : P ≤ 10) (hF : fw_Fin s P b f g) (hb : ¬ b = 0) : Lp l o P := by
  rcases hF with ⟨-, i, hi, -, n, x, h1, h2⟩ | ⟨h0, -⟩
  · exact ⟨i, n, x, hi, h1.cg (rw_FR h hP) hi, h2⟩
  · exact absurd h0 hb
theorem fin_0 {P : Nat} {s e l u o rn rp k wn wp t sl f g : Nat → Int32} {b : Int32} (h : FR P s e l u o rn rp k wn wp t sl) (hP : P ≤ 10) (hF : fw_Fin s P b f g) (hb : b = 0) : fw_Gd (rowL l o) P P f g := (hF.g hb).cg (rw_FR h hP)
theorem MB_of {l o : Nat → Int32} {P : Nat} (h : ∀ j, j < 100 → -99 ≤ (l j).toInt ∧ (l j).toInt ≤ 999) (hP : P ≤ 10) : MB (rowL l o) P := fun a r ha hr => by
  rw [rowL_l (by omega) (by omega)]; exact h _ (by omega)
/-! far and what leans on it: quotients towards below -/
theorem owL_n {l o : Nat → Int32} {a b : Nat} (h : ¬ o (10 * a + b) = 1) : owL l o a b = 1000000000 := if_neg h
theorem xr_s {p : Int32} : 0 ≤ p ^^^ 100 ↔ 0 ≤ p.toInt := by
  have h : (p ^^^ 100).toBitVec.msb = p.toBitVec.msb := by
    rw [Int32.toBitVec_xor, BitVec.msb_xor, show (100 : Int32).toBitVec.msb = false by decide, Bool.xor_false]
  rw [BitVec.msb_eq_toInt, BitVec.msb_eq_toInt] at h
  have h2 := decide_eq_decide.mp h
  rw [Int32.le_iff_toInt_le, z0I]
  show 0 ≤ (p ^^^ 100).toBitVec.toInt ↔ 0 ≤ p.toBitVec.toInt
  omega
theorem td_p {x : Int} (h : 0 ≤ x) : x.tdiv 100 = x / 100 := Int.tdiv_eq_ediv_of_nonneg h
theorem td_m {x : Int} (h : x < 0) : x.tdiv 100 = -((-x) / 100) := by
  have e : x = - -x := by omega
  conv => lhs; rw [e]
  rw [Int.neg_tdiv, Int.tdiv_eq_ediv_of_nonneg (by omega)]
theorem i100 : (100 : Int32).toInt = 100 := by decide
theorem Ib (p : Int32) : -2147483648 ≤ p.toInt ∧ p.toInt ≤ 2147483647 := by
  have h1 := Int32.le_toInt p
  have h2 := Int32.toInt_lt p
  omega
theorem fd_t {p x : Int32} (e : x = p / 100) : x.toInt = p.toInt.tdiv 100 ∧ (x * 100).toInt = p.toInt.tdiv 100 * 100 := by
  have hb := Ib p
  have h0 : x.toInt = p.toInt.tdiv 100 := by
    rw [e, Int32.toInt_div, i100]
    by_cases h : 0 ≤ p.toInt
    · rw [td_p h, Int.bmod_eq_of_le (by omega) (by omega)]
    · rw [td_m (by omega), Int.bmod_eq_of_le (by omega) (by omega)]
  refine ⟨h0, ?_⟩
  rw [Int32.toInt_mul, h0, i100]
  by_cases h : 0 ≤ p.toInt
  · rw [td_p h, Int.bmod_eq_of_le (by omega) (by omega)]
  · rw [td_m (by omega), Int.bmod_eq_of_le (by omega) (by omega)]
def fqv (p : Int32) : Int32 := Int32.ofInt (p.toInt / 100)
def frv (p : Int32) : Int32 := Int32.ofInt (p.toInt % 100)
theorem fqv_I (p : Int32) : (fqv p).toInt = p.toInt / 100 := by
  have hb := Ib p
  exact ofI (by omega) (by omega)
theorem frv_I (p : Int32) : (frv p).toInt = p.toInt % 100 := ofI (by omega) (by omega)
theorem fd_p {p x : Int32} (e : x = p / 100) (h : 0 ≤ p ^^^ 100) : x = fqv p := by
  have h1 := xr_s.mp h
  rw [← Int32.toInt_inj, fqv_I, (fd_t e).1, td_p h1]
theorem fd_e {p x : Int32} (e : x = p / 100) (h : x * 100 = p) : x = fqv p := by
  have h2 := (fd_t e).2
  have h1 := (fd_t e).1
  rw [h] at h2
  rw [← Int32.toInt_inj, fqv_I, h1]
  omega
theorem fd_m {p x : Int32} (e : x = p / 100) (h : ¬ 0 ≤ p ^^^ 100) (h2 : ¬ x * 100 = p) : x - 1 = fqv p := by
  have hb := Ib p
  have h1 : ¬ 0 ≤ p.toInt := fun q => h (xr_s.mpr q)
  obtain ⟨e1, e2⟩ := fd_t e
  rw [td_m (by omega)] at e1 e2
  have h3 : ¬ -((-p.toInt) / 100) * 100 = p.toInt := fun q => h2 (Int32.toInt_inj.mp (e2.trans q))
  have hs : (x - 1).toInt = x.toInt - 1 := by
    rw [Int32.toInt_sub, show (1 : Int32).toInt = 1 by decide, Int.bmod_eq_of_le (by omega) (by omega)]
  rw [← Int32.toInt_inj, fqv_I, hs, e1]
  omega
theorem fm_t {p x : Int32} (e : x = p - p / 100 * 100) : x.toInt = p.toInt - p.toInt.tdiv 100 * 100 := by
  have hb := Ib p
  have h2 := (fd_t (p := p) rfl).2
  rw [e, Int32.toInt_sub, h2]
  by_cases h : 0 ≤ p.toInt
  · rw [td_p h, Int.bmod_eq_of_le (by omega) (by omega)]
  · rw [td_m (by omega), Int.bmod_eq_of_le (by omega) (by omega)]
theorem fm_p {p x : Int32} (e : x = p - p / 100 * 100) (h : 0 ≤ p ^^^ 100) : x = frv p := by
  have h1 := xr_s.mp h
  rw [← Int32.toInt_inj, frv_I, fm_t e, td_p h1]
  omega
theorem fm_e {p x : Int32} (e : x = p - p / 100 * 100) (h : x = 0) : x = frv p := by
  have h2 := fm_t e
  have h1 : x.toInt = 0 := by rw [h]; decide
  rw [← Int32.toInt_inj, frv_I, h1]
  omega
theorem fm_m {p x : Int32} (e : x = p - p / 100 * 100) (h : ¬ 0 ≤ p ^^^ 100) (h2 : ¬ x = 0) : x + 100 = frv p := by
  have hb := Ib p
  have h1 : ¬ 0 ≤ p.toInt := fun q => h (xr_s.mpr q)
  have e1 := fm_t e
  rw [td_m (by omega)] at e1
  have h3 : ¬ x.toInt = 0 := fun q => h2 (Int32.toInt_inj.mp (q.trans z0I.symm))
  rw [← Int32.toInt_inj, frv_I, fw_addI (by rw [i100]; omega) (by rw [i100]; omega), i100]
  omega
/-! what the class tells of its table -/
def clN (x : Int32) : Int32 := if x = 1000000000 then 1000000000 else fqv x
theorem clN_y {x : Int32} (h : x = 1000000000) : (1000000000 : Int32) = clN x := (if_pos h).symm
theorem clN_n {x : Int32} (h : ¬ x = 1000000000) : fqv x = clN x := (if_neg h).symm
def clW (x : Int32) : Int32 := if x = 1000000000 then -1 else frv x
theorem clW_y {x : Int32} (h : x = 1000000000) : (-1 : Int32) = clW x := (if_pos h).symm
theorem clW_n {x : Int32} (h : ¬ x = 1000000000) : frv x = clW x := (if_neg h).symm
def lon (x : Int32) : Int32 := if x = 1000000000 then -1000000004 else x
theorem lon_y {x : Int32} (h : x = 1000000000) : (-1000000004 : Int32) = lon x := (if_pos h).symm
theorem lon_n {x : Int32} (h : ¬ x = 1000000000) : x = lon x := (if_neg h).symm
theorem jn_y {L : Nat → Int32} {h : Int32} {p m q : Nat} (c : ¬ L (10 * p + q) ≤ tog h (L (10 * m + q))) {x : Int32} {f : Nat → Int32} (ex : x = if tog h (L (10 * m + q)) < -100000000 then -100000000 else tog h (L (10 * m + q))) (ef : f = upd L (10 * p + q) x) : cl_JN L h p m q f := Or.inl ⟨Int32.not_le.mp c, by rw [ef, ex]⟩
theorem jn_n {L : Nat → Int32} {h : Int32} {p m q : Nat} (c : L (10 * p + q) ≤ tog h (L (10 * m + q))) : cl_JN L h p m q L := Or.inr ⟨Int32.not_lt.mpr c, rfl⟩
theorem nl_s {L : Nat → Int32} {i : Nat} (h : ∀ j, j < i → ¬ L (10 * j + j) < 0) (h2 : 0 ≤ L (10 * i + i)) : ∀ j, j < i + 1 → ¬ L (10 * j + j) < 0 := fun j hj => by
  by_cases e : j = i
  · subst e; exact Int32.not_lt.mpr h2
  · exact h j (by omega)
/-- far of the one table, against the class's -/
theorem cl_FN {l o L : Nat → Int32} {P j k : Nat} (hG : cl_Gd (rowL l o) P P L) (hP : P ≤ 10) (hM : MB (rowL l o) P) (hj : j < P) (hk : k < P) : (L (10 * j + k) = 1000000000 ∧ clN (L (10 * j + k)) = 1000000000 ∧ tF l o P (10 * j + k) = 100000000) ∨ (¬ L (10 * j + k) = 1000000000 ∧ ¬ clN (L (10 * j + k)) = 1000000000 ∧ ¬ tF l o P (10 * j + k) = 100000000 ∧ clN (L (10 * j + k)) = tF l o P (10 * j + k) ∧ frv (L (10 * j + k)) = tG l o P (10 * j + k)) := by
  obtain ⟨t1, t2⟩ := (hG.fw hP hM).tF hP hj hk
  have t1 : clF (L (10 * j + k)) = tF l o P (10 * j + k) := t1
  have t2 : ¬ clF (L (10 * j + k)) = 100000000 → clG (L (10 * j + k)) = tG l o P (10 * j + k) := t2
  by_cases h : L (10 * j + k) = 1000000000
  · exact Or.inl ⟨h, (clN_y h).symm, t1.symm.trans (if_pos h)⟩
  · obtain ⟨n, x, h1, h2, h3⟩ := hG.ent hP hj hk h
    have h4 := fw_Wk.le hM hj h2
    obtain ⟨h5, h6⟩ := cl_fg h (by omega) (by omega) h3
    have e1 : clF (L (10 * j + k)) = fqv (L (10 * j + k)) := if_neg h
    have e2 : clN (L (10 * j + k)) = fqv (L (10 * j + k)) := if_neg h
    have n1 : ¬ clF (L (10 * j + k)) = 100000000 := fun q => by rw [q, fw_NOT] at h5; omega
    have n2 : ¬ clN (L (10 * j + k)) = 1000000000 := fun q => by rw [e2, ← e1] at q; rw [q, cl_NO] at h5; omega
    refine Or.inr ⟨h, n2, fun q => n1 (t1.trans q), (e2.trans e1.symm).trans t1, ?_⟩
    rw [← t2 n1]
    exact (if_neg h).symm
/-! answers of two places -/
noncomputable def pr2 (P : Nat) (a b : Int32) (l o : Nat → Int32) (V : Nat → Nat → Int32) : Int32 := cif (isP P a ∧ isP P b) (cif (Lp l o P) (-1000000005) (V a.toNatClampNeg b.toNatClampNeg)) (-1000000001)
theorem pr2_no {P : Nat} {a b : Int32} {l o : Nat → Int32} {V : Nat → Nat → Int32} (h : ¬ (isP P a ∧ isP P b)) : (-1000000001 : Int32) = pr2 P a b l o V := (cif_neg h).symm
theorem pr2_lp {P j k : Nat} {l o : Nat → Int32} {V : Nat → Nat → Int32} (hP : P ≤ 10) (hj : j < P) (hk : k < P) (h : Lp l o P) : (-1000000005 : Int32) = pr2 P (nI j) (nI k) l o V := ((cif_pos ⟨isP_nI (by omega) hj, isP_nI (by omega) hk⟩).trans (cif_pos h)).symm
theorem pr2_y {P j k : Nat} {l o : Nat → Int32} {V : Nat → Nat → Int32} (hP : P ≤ 10) (hj : j < P) (hk : k < P) (h : ¬ Lp l o P) {x : Int32} (e : x = V j k) : x = pr2 P (nI j) (nI k) l o V := by
  unfold pr2
  rw [cif_pos ⟨isP_nI (by omega) hj, isP_nI (by omega) hk⟩, cif_neg h, nI_clamp (by omega), nI_clamp (by omega)]
  exact e
noncomputable def pr1 (P : Nat) (a : Int32) (l o : Nat → Int32) (V : Nat → Int32) : Int32 := cif (isP P a) (cif (Lp l o P) (-1000000005) (V a.toNatClampNeg)) (-1000000001)
theorem pr1_no {P : Nat} {a : Int32} {l o : Nat → Int32} {V : Nat → Int32} (h : ¬ isP P a) : (-1000000001 : Int32) = pr1 P a l o V := (cif_neg h).symm
theorem pr1_lp {P j : Nat} {l o : Nat → Int32} {V : Nat → Int32} (hP : P ≤ 10) (hj : j < P) (h : Lp l o P) : (-1000000005 : Int32) = pr1 P (nI j) l o V := ((cif_pos (isP_nI (by omega) hj)).trans (cif_pos h)).symm
theorem pr1_y {P j : Nat} {l o : Nat → Int32} {V : Nat → Int32} (hP : P ≤ 10) (hj : j < P) (h : ¬ Lp l o P) {x : Int32} (e : x = V j) : x = pr1 P (nI j) l o V := by
  unfold pr1
  rw [cif_pos (isP_nI (by omega) hj), cif_neg h, nI_clamp (by omega)]
  exact e
noncomputable def pr0 (P : Nat) (l o : Nat → Int32) (V : Int32) : Int32 := cif (Lp l o P) (-1000000005) V
theorem pr0_lp {P : Nat} {l o : Nat → Int32} {V : Int32} (h : Lp l o P) : (-1000000005 : Int32) = pr0 P l o V := (cif_pos h).symm
theorem pr0_y {P : Nat} {l o : Nat → Int32} {V : Int32} (h : ¬ Lp l o P) {x : Int32} (e : x = V) : x = pr0 P l o V := e.trans (cif_neg h).symm
/-! far, longer -/
noncomputable def faV (l o : Nat → Int32) (P j k : Nat) : Int32 := if tF l o P (10 * j + k) = 100000000 then -1000000004 else tF l o P (10 * j + k)
noncomputable def lgV (l o : Nat → Int32) (P j k : Nat) : Int32 := if tF l o P (10 * j + k) = 100000000 ∨ tF l o P (10 * k + j) = 100000000 then -1000000004 else tF l o P (10 * j + k) - tF l o P (10 * k + j)
section cls
variable {l o L : Nat → Int32} {P j k : Nat}
theorem fa_cl (hG : cl_Gd (rowL l o) P P L) (hP : P ≤ 10) (hM : MB (rowL l o) P) (hj : j < P) (hk : k < P) : lon (clN (L (10 * j + k))) = faV l o P j k := by
  unfold faV
  rcases cl_FN hG hP hM hj hk with ⟨-, h2, h3⟩ | ⟨-, h2, h3, h4, -⟩
  · rw [if_pos h3]; exact if_pos h2
  · rw [if_neg h3]; exact (if_neg h2).trans h4
theorem lg_n1 (hG : cl_Gd (rowL l o) P P L) (hP : P ≤ 10) (hM : MB (rowL l o) P) (hj : j < P) (hk : k < P) (h : clN (L (10 * j + k)) = 1000000000) : (-1000000004 : Int32) = lgV l o P j k := by
  rcases cl_FN hG hP hM hj hk with ⟨-, h2, h3⟩ | ⟨-, h2, -⟩
  · exact (if_pos (Or.inl h3)).symm
  · exact absurd h h2
theorem lg_n2 (hG : cl_Gd (rowL l o) P P L) (hP : P ≤ 10) (hM : MB (rowL l o) P) (hj : j < P) (hk : k < P) (h : clN (L (10 * k + j)) = 1000000000) : (-1000000004 : Int32) = lgV l o P j k := by
  rcases cl_FN hG hP hM hk hj with ⟨-, h2, h3⟩ | ⟨-, h2, -⟩
  · exact (if_pos (Or.inr h3)).symm
  · exact absurd h h2
theorem lg_y (hG : cl_Gd (rowL l o) P P L) (hP : P ≤ 10) (hM : MB (rowL l o) P) (hj : j < P) (hk : k < P) (h : ¬ clN (L (10 * j + k)) = 1000000000) (h' : ¬ clN (L (10 * k + j)) = 1000000000) : clN (L (10 * j + k)) - clN (L (10 * k + j)) = lgV l o P j k := by
  rcases cl_FN hG hP hM hj hk with ⟨-, h2, -⟩ | ⟨-, -, h3, h4, -⟩
  · exact absurd h2 h
  rcases cl_FN hG hP hM hk hj with ⟨-, h2, -⟩ | ⟨-, -, h5, h6, -⟩
  · exact absurd h2 h'
  rw [h4, h6]
  exact (if_neg (fun q => q.elim h3 h5)).symm
end cls
section ref
variable {l o f g : Nat → Int32} {P j k : Nat}
theorem fa_rn (hG : fw_Gd (rowL l o) P P f g) (hP : P ≤ 10) (hj : j < P) (hk : k < P) (h : f (10 * j + k) = 100000000) : (-1000000004 : Int32) = faV l o P j k := (if_pos ((hG.tF hP hj hk).1.symm.trans h)).symm
theorem fa_ry (hG : fw_Gd (rowL l o) P P f g) (hP : P ≤ 10) (hj : j < P) (hk : k < P) (h : ¬ f (10 * j + k) = 100000000) : f (10 * j + k) = faV l o P j k := by
  have e := (hG.tF hP hj hk).1
  unfold faV
  rw [if_neg (fun q => h (e.trans q))]
  exact e
theorem lg_rn (hG : fw_Gd (rowL l o) P P f g) (hP : P ≤ 10) (hj : j < P) (hk : k < P) (h : f (10 * j + k) = 100000000 ∨ f (10 * k + j) = 100000000) : (-1000000004 : Int32) = lgV l o P j k := by
  have e := (hG.tF hP hj hk).1
  have e2 := (hG.tF hP hk hj).1
  exact (if_pos (h.imp e.symm.trans e2.symm.trans)).symm
theorem lg_ry (hG : fw_Gd (rowL l o) P P f g) (hP : P ≤ 10) (hj : j < P) (hk : k < P) (h : ¬ f (10 * j + k) = 100000000) (h2 : ¬ f (10 * k + j) = 100000000) : f (10 * j + k) - f (10 * k + j) = lgV l o P j k := by
  have e := (hG.tF hP hj hk).1
  have e2 := (hG.tF hP hk hj).1
  unfold lgV
  rw [if_neg (fun q => q.elim (fun q => h (e.trans q)) (fun q => h2 (e2.trans q)))]
  exact congr (congrArg _ e) e2
theorem fw_Gd.nl {l o f g : Nat → Int32} {P : Nat} (hG : fw_Gd (rowL l o) P P f g) (hP : P ≤ 10) : ¬ Lp l o P := (fw_Gd.nn hG).nl hP
end ref
/-! trips and homes -/
def tS (s x : Int32) : Int32 := if s = 100000000 ∨ x = 100000000 then 100000000 else s + x
theorem tS_l {s x : Int32} (h : s = 100000000) : (100000000 : Int32) = tS s x := (if_pos (Or.inl h)).symm
theorem tS_r {s x : Int32} (h : x = 100000000) : (100000000 : Int32) = tS s x := (if_pos (Or.inr h)).symm
theorem tS_y {s x : Int32} (h : ¬ s = 100000000) (h2 : ¬ x = 100000000) : s + x = tS s x := (if_neg (fun q => q.elim h h2)).symm
def trX (f e : Nat → Int32) (a i : Nat) : Int32 := if f (10 * a + i) = 100000000 ∨ f (10 * i + a) = 100000000 then 100000000 else e i * (f (10 * a + i) + f (10 * i + a))
theorem trX_l {f e : Nat → Int32} {a i : Nat} (h : f (10 * a + i) = 100000000) : (100000000 : Int32) = trX f e a i := (if_pos (Or.inl h)).symm
theorem trX_r {f e : Nat → Int32} {a i : Nat} (h : f (10 * i + a) = 100000000) : (100000000 : Int32) = trX f e a i := (if_pos (Or.inr h)).symm
theorem trX_y {f e : Nat → Int32} {a i : Nat} (h : ¬ f (10 * a + i) = 100000000) (h2 : ¬ f (10 * i + a) = 100000000) : e i * (f (10 * a + i) + f (10 * i + a)) = trX f e a i := (if_neg (fun q => q.elim h h2)).symm
def trS (f e : Nat → Int32) (a : Nat) : Nat → Int32
  | 0 => 0
  | i + 1 => if e i ≤ 0 then trS f e a i else tS (trS f e a i) (trX f e a i)
theorem trS_n {f e : Nat → Int32} {a i : Nat} (h : e i ≤ 0) : trS f e a (i + 1) = trS f e a i := if_pos h
theorem trS_s {f e : Nat → Int32} {a i : Nat} (h : ¬ e i ≤ 0) : trS f e a (i + 1) = tS (trS f e a i) (trX f e a i) := if_neg h
theorem trS_y {f e : Nat → Int32} {a i : Nat} {u X : Int32} (hv : u = trS f e a i) (h : ¬ e i ≤ 0) (hX : X = trX f e a i) : tS u X = trS f e a (i + 1) := by rw [hv, hX]; exact (if_neg h).symm
def agS (q : Nat → Int32) : Nat → Int32 × Int32
  | 0 => (-1, 100000000)
  | i + 1 => if q i < (agS q i).2 then (nI i, q i) else agS q i
theorem ag_y {q : Nat → Int32} {i : Nat} {t : Int32} (ht : t = (agS q i).2) (c : ¬ t ≤ q i) : nI i = (agS q (i + 1)).1 ∧ q i = (agS q (i + 1)).2 := by
  have e : agS q (i + 1) = (nI i, q i) := if_pos (by rw [← ht]; exact Int32.not_le.mp c)
  rw [e]; exact ⟨rfl, rfl⟩
theorem ag_n {q : Nat → Int32} {i : Nat} {x t : Int32} (hx : x = (agS q i).1) (ht : t = (agS q i).2) (c : t ≤ q i) : x = (agS q (i + 1)).1 ∧ t = (agS q (i + 1)).2 := by
  have e : agS q (i + 1) = agS q i := if_neg (by rw [← ht]; exact Int32.not_lt.mpr c)
  rw [e]; exact ⟨hx, ht⟩
theorem ag_p {P : Nat} {x H : Int32} (h : x = -1 ∨ ∃ y, y < P ∧ x = nI y) (e : x = H) : (x = -1 ∧ H = -1) ∨ ∃ y, x = nI y ∧ y < P ∧ H = nI y := by
  rcases h with h | ⟨y, h1, h2⟩
  · exact Or.inl ⟨h, e.symm.trans h⟩
  · exact Or.inr ⟨y, h2, h1, e.symm.trans h2⟩
theorem agS_cg {q r : Nat → Int32} : ∀ {i : Nat}, (∀ j, j < i → q j = r j) → agS q i = agS r i
  | 0, _ => rfl
  | i + 1, h => by
    have ih := agS_cg (i := i) (fun j hj => h j (by omega))
    unfold agS
    rw [ih, h i (by omega)]
theorem trS_cg {f g e : Nat → Int32} {a : Nat} : ∀ {i : Nat}, (∀ j, j < i → f (10 * a + j) = g (10 * a + j) ∧ f (10 * j + a) = g (10 * j + a)) → trS f e a i = trS g e a i
  | 0, _ => rfl
  | i + 1, h => by
    have ih := trS_cg (e := e) (i := i) (fun j hj => h j (by omega))
    obtain ⟨h1, h2⟩ := h i (by omega)
    unfold trS trX
    rw [ih, h1, h2]
/-- how great a number of the table is -/
def FB (f : Nat → Int32) (P : Nat) : Prop := ∀ a b, a < P → b < P → ¬ f (10 * a + b) = 100000000 → -8991 ≤ (f (10 * a + b)).toInt ∧ (f (10 * a + b)).toInt ≤ 8991
theorem fw_Gd.fb {s f g : Nat → Int32} {P : Nat} (hG : fw_Gd s P P f g) (hP : P ≤ 10) (hM : MB s P) : FB f P := fun a b ha hb h => by
  obtain ⟨p1, p2, p3⟩ := hG.lt hP ha hb h
  obtain ⟨n2, x2, q1, q2, q3, q4⟩ := hG.nn.short hP _ _ a b _ (Nat.le_refl _) ha p3
  obtain ⟨-, r1⟩ := hG.walk hb ha q4
  unfold fw_ky at r1
  have r2 := fw_Wk.le hM ha q4
  omega
def EB (e : Nat → Int32) : Prop := ∀ i, i < 10 → 0 ≤ (e i).toInt ∧ (e i).toInt ≤ 99
theorem EB.zero : EB (fun _ => 0) := fun _ _ => by show 0 ≤ (0 : Int32).toInt ∧ (0 : Int32).toInt ≤ 99; decide
theorem EB.put {e : Nat → Int32} {k : Nat} {v : Int32} (h : EB e) (hv : 0 ≤ v.toInt ∧ v.toInt ≤ 99) : EB (upd e k v) := fun i hi => by
  by_cases q : i = k
  · subst q; rw [pk_us]; exact hv
  · rw [pk_un q]; exact h i hi
theorem EB.pl {e : Nat → Int32} {P : Nat} (h : EB e) : EB (plE P e) := by
  unfold plE
  by_cases c : P < 10
  · rw [if_pos c]; exact h.put (by decide)
  · rw [if_neg c]; exact h
theorem EB.er {e : Nat → Int32} {P : Nat} {p v : Int32} (h : EB e) : EB (erE P e p v) := by
  unfold erE
  by_cases c : okEr P p v
  · rw [if_pos c]
    obtain ⟨c1, c2⟩ := c.2
    rw [lt_iff9, z0I] at c1
    rw [lt_iff9, show (99 : Int32).toInt = 99 by decide] at c2
    exact h.put (by omega)
  · rw [if_neg c]; exact h
theorem EB.un {b : Int32} {e e2 : Nat → Int32} (h : EB e) (h2 : EB e2) : EB (unF b e e2) := by
  unfold unF
  by_cases c : b = 0
  · rw [if_pos c]; exact h
  · rw [if_neg c]; exact h2
theorem EB_st {b : Nat → Int32} {z u P W v : Nat} {e : Nat → Int32} (h : EB e) (hi : spItem b z u P W = .inr v) : EB (stE b z u P W e) := by
  unfold stE eSt
  by_cases w0 : tW b z u 0
  · rw [cif_pos w0]
    unfold spItem at hi
    rw [cif_pos w0] at hi
    unfold spPl at hi
    have h2 := (cif_inr hi).2
    refine h.put ?_
    unfold spEv
    by_cases w3 : tW b z (nx b z u) 3
    · rw [cif_pos w3]
      unfold spE at h2
      rw [cif_pos w3] at h2
      have h3 := (cif_inr h2).1
      have h4 := h3.2
      rw [lt_iff9, show (99 : Int32).toInt = 99 by decide, nI_toInt (Nat.lt_of_le_of_lt (show tC b z (nx b z (nx b z u)) ≤ 10000 from cv_le) (by decide))] at h4
      rw [nI_toInt (Nat.lt_of_le_of_lt (show tC b z (nx b z (nx b z u)) ≤ 10000 from cv_le) (by decide))]
      omega
    · rw [cif_neg w3]; decide
  · rw [cif_neg w0]; exact h
theorem EB_lz {b : Nat → Int32} {z : Nat} : ∀ (q u P W : Nat) (e : Nat → Int32), EB e → EB (spLz b z (stE b z) q u P W e)
  | 0, _, _, _, _, h => h
  | q + 1, u, P, W, e, h => by
    rw [spLz]
    cases hi : spItem b z u P W with
    | inl v => exact h
    | inr v =>
      have h1 := EB_st (W := W) h hi
      show EB (cif (tK b z v = 3) (spLz b z (stE b z) q (nx b z v) (spP b z u P) (spW b z u W) (stE b z u P W e)) (stE b z u P W e))
      by_cases c : tK b z v = 3
      · rw [cif_pos c]; exact EB_lz q _ _ _ _ h1
      · rw [cif_neg c]; exact h1
theorem EB.ld {b : Nat → Int32} {z P W : Nat} {e : Nat → Int32} {r : Nat ⊕ (Nat × Nat × Nat)} (h : EB e) : EB (spLF r e (spLz b z (stE b z) 120 0 P W e)) := by
  cases r with
  | inl v => exact h
  | inr x => exact EB_lz 120 0 P W e h
/-- a sum is as it should be -/
def sB (i : Nat) (x : Int32) : Prop := -(1780218 * (i : Int)) ≤ x.toInt ∧ x.toInt ≤ 1780218 * (i : Int)
theorem sB.ne {i : Nat} {x : Int32} (h : sB i x) (hi : i ≤ 10) : ¬ x = 100000000 := fun q => by
  unfold sB at h; rw [q, fw_NOT] at h; omega
theorem trX_bd {f e : Nat → Int32} {P a i : Nat} (hF : FB f P) (hE : EB e) (hP : P ≤ 10) (ha : a < P) (hi : i < P) (h1 : ¬ f (10 * a + i) = 100000000) (h2 : ¬ f (10 * i + a) = 100000000) : (e i * (f (10 * a + i) + f (10 * i + a))).toInt = (e i).toInt * ((f (10 * a + i)).toInt + (f (10 * i + a)).toInt) ∧ -1780218 ≤ (e i).toInt * ((f (10 * a + i)).toInt + (f (10 * i + a)).toInt) ∧ (e i).toInt * ((f (10 * a + i)).toInt + (f (10 * i + a)).toInt) ≤ 1780218 := by
  have b1 := hF a i ha hi h1
  have b2 := hF i a hi ha h2
  have b3 := hE i (by omega)
  have e1 : (f (10 * a + i) + f (10 * i + a)).toInt = (f (10 * a + i)).toInt + (f (10 * i + a)).toInt := fw_addI (by omega) (by omega)
  have hy : -17982 ≤ (f (10 * a + i)).toInt + (f (10 * i + a)).toInt ∧ (f (10 * a + i)).toInt + (f (10 * i + a)).toInt ≤ 17982 := by omega
  generalize (f (10 * a + i)).toInt + (f (10 * i + a)).toInt = y at e1 hy ⊢
  generalize hx : (e i).toInt = x at b3
  have l1 : x * y ≤ x * 17982 := Int.mul_le_mul_of_nonneg_left hy.2 b3.1
  have l2 : x * (-17982) ≤ x * y := Int.mul_le_mul_of_nonneg_left hy.1 b3.1
  have hb : -1780218 ≤ x * y ∧ x * y ≤ 1780218 := by omega
  refine ⟨?_, hb⟩
  rw [Int32.toInt_mul, e1, hx, Int.bmod_eq_of_le (by omega) (by omega)]
theorem trS_bd {f e : Nat → Int32} {P a : Nat} (hF : FB f P) (hE : EB e) (hP : P ≤ 10) (ha : a < P) : ∀ i, i ≤ P → trS f e a i = 100000000 ∨ sB i (trS f e a i)
  | 0, _ => Or.inr (by unfold sB; show -(1780218 * ((0 : Nat) : Int)) ≤ (0 : Int32).toInt ∧ (0 : Int32).toInt ≤ _; rw [z0I]; omega)
  | i + 1, hi => by
    have ih := trS_bd hF hE hP ha i (by omega)
    by_cases c : e i ≤ 0
    · rw [trS_n c]
      refine ih.imp id (fun h => ?_)
      unfold sB at h ⊢
      omega
    · rw [trS_s c]
      rcases ih with ih | ih
      · exact Or.inl (tS_l ih).symm
      · by_cases h1 : f (10 * a + i) = 100000000
        · exact Or.inl (tS_r (trX_l h1).symm).symm
        by_cases h2 : f (10 * i + a) = 100000000
        · exact Or.inl (tS_r (trX_r h2).symm).symm
        obtain ⟨q1, q2⟩ := trX_bd hF hE hP ha (show i < P by omega) h1 h2
        have q3 := trX_y (e := e) h1 h2
        right
        unfold sB at ih ⊢
        have n1 : ¬ trX f e a i = 100000000 := fun q => by rw [← q3] at q; rw [q, fw_NOT] at q1; omega
        have n0 : ¬ trS f e a i = 100000000 := fun q => by rw [q, fw_NOT] at ih; omega
        rw [← tS_y n0 n1, ← q3, fw_addI (by omega) (by omega), q1]
        omega
/-- not there, as the class says it -/
def nO (x : Int32) : Int32 := if x = 100000000 then 1000000000 else x
theorem nO_lt {x y : Int32} {i j : Nat} (hi : i ≤ 10) (hj : j ≤ 10) (hx : x = 100000000 ∨ sB i x) (hy : y = 100000000 ∨ sB j y) : nO x < nO y ↔ x < y := by
  unfold nO
  rcases hx with hx | hx
  · rw [if_pos hx, hx]
    rcases hy with hy | hy
    · rw [if_pos hy, hy]; decide
    · rw [if_neg (hy.ne hj), lt_iff9, lt_iff9, cl_NO, fw_NOT]
      unfold sB at hy
      omega
  · rw [if_neg (hx.ne hi)]
    rcases hy with hy | hy
    · rw [if_pos hy, hy, lt_iff9, lt_iff9, cl_NO, fw_NOT]
      unfold sB at hx
      omega
    · rw [if_neg (hy.ne hj)]
/-- what the class needs of its table -/
def cT (l o L : Nat → Int32) (Q : Nat) : Prop := cl_Gd (rowL l o) Q Q L ∧ MB (rowL l o) Q ∧ Q ≤ 10
theorem cT.fb {l o L : Nat → Int32} {Q : Nat} (h : cT l o L Q) : FB (tF l o Q) Q := fw_Gd.fb (tFG_ok (h.1.fw h.2.2 h.2.1)) h.2.2 h.2.1
theorem cT.far {l o L : Nat → Int32} {Q j k : Nat} (h : cT l o L Q) (hj : j < Q) (hk : k < Q) : clN (L (10 * j + k)) = nO (tF l o Q (10 * j + k)) ∧ (clN (L (10 * j + k)) = 1000000000 ↔ tF l o Q (10 * j + k) = 100000000) := by
  rcases cl_FN h.1 h.2.2 h.2.1 hj hk with ⟨-, h2, h3⟩ | ⟨-, h2, h3, h4, -⟩
  · rw [h2, h3]; exact ⟨rfl, fun _ => rfl, fun _ => rfl⟩
  · refine ⟨h4.trans (if_neg h3).symm, fun q => absurd q h2, fun q => absurd q h3⟩
/-- both ways of a place, in the class's sum -/
theorem cT.both {l o L : Nat → Int32} {Q j k : Nat} (h : cT l o L Q) (hj : j < Q) (hk : k < Q) : (tog (clN (L (10 * j + k))) (clN (L (10 * k + j))) = 1000000000 ∧ (tF l o Q (10 * j + k) = 100000000 ∨ tF l o Q (10 * k + j) = 100000000)) ∨ (¬ tog (clN (L (10 * j + k))) (clN (L (10 * k + j))) = 1000000000 ∧ ¬ tF l o Q (10 * j + k) = 100000000 ∧ ¬ tF l o Q (10 * k + j) = 100000000 ∧ tog (clN (L (10 * j + k))) (clN (L (10 * k + j))) = tF l o Q (10 * j + k) + tF l o Q (10 * k + j)) := by
  obtain ⟨a1, a2⟩ := h.far hj hk
  obtain ⟨b1, b2⟩ := h.far hk hj
  by_cases c1 : tF l o Q (10 * j + k) = 100000000
  · exact Or.inl ⟨(tog_l (a2.mpr c1)).symm, Or.inl c1⟩
  by_cases c2 : tF l o Q (10 * k + j) = 100000000
  · exact Or.inl ⟨(tog_r (b2.mpr c2)).symm, Or.inr c2⟩
  have f1 := h.fb j k hj hk c1
  have f2 := h.fb k j hk hj c2
  have e : tog (clN (L (10 * j + k))) (clN (L (10 * k + j))) = tF l o Q (10 * j + k) + tF l o Q (10 * k + j) := by
    rw [← tog_y (fun q => c1 (a2.mp q)) (fun q => c2 (b2.mp q)), a1, b1]
    unfold nO
    rw [if_neg c1, if_neg c2]
  refine Or.inr ⟨fun q => ?_, c1, c2, e⟩
  rw [e] at q
  have := fw_addI (x := tF l o Q (10 * j + k)) (y := tF l o Q (10 * k + j)) (by omega) (by omega)
  rw [q, cl_NO] at this
  omega
def tI (f e : Nat → Int32) (j i : Nat) (u : Int32) : Prop := u = trS f e j i ∧ sB i u
theorem tI.zero {f e : Nat → Int32} {j : Nat} : tI f e j 0 0 := ⟨rfl, by unfold sB; rw [z0I]; omega⟩
theorem tI.n {f e : Nat → Int32} {j i : Nat} {u : Int32} (h : tI f e j i u) (c : e i ≤ 0) : tI f e j (i + 1) u := ⟨h.1.trans (trS_n c).symm, by have := h.2; unfold sB at this ⊢; omega⟩
theorem tI.y {l o L e : Nat → Int32} {Q j i : Nat} {u : Int32} (h : tI (tF l o Q) e j i u) (hT : cT l o L Q) (hE : EB e) (hj : j < Q) (hi : i < Q) (c : ¬ e i ≤ 0) (c2 : ¬ tog (clN (L (10 * j + i))) (clN (L (10 * i + j))) = 1000000000) : tI (tF l o Q) e j (i + 1) (u + e i * tog (clN (L (10 * j + i))) (clN (L (10 * i + j)))) := by
  rcases hT.both hj hi with ⟨a, -⟩ | ⟨-, h1, h2, h3⟩
  · exact absurd a c2
  have hP := hT.2.2
  obtain ⟨q1, q2⟩ := trX_bd hT.fb hE hP hj hi h1 h2
  have q3 := trX_y (e := e) h1 h2
  have hs := h.2
  have n0 := hs.ne (by omega)
  have n1 : ¬ trX (tF l o Q) e j i = 100000000 := fun q => by rw [← q3] at q; rw [q, fw_NOT] at q1; omega
  rw [h3]
  refine ⟨?_, ?_⟩
  · rw [trS_s c, ← h.1, ← tS_y n0 n1, ← q3]
  · unfold sB at hs ⊢
    rw [fw_addI (by omega) (by omega), q1]
    omega
theorem trS_not {f e : Nat → Int32} {a i : Nat} (h : trS f e a i = 100000000) : ∀ k, trS f e a (i + k) = 100000000
  | 0 => h
  | k + 1 => by
    have ih := trS_not h k
    show trS f e a (i + k + 1) = 100000000
    by_cases c : e (i + k) ≤ 0
    · rw [trS_n c]; exact ih
    · rw [trS_s c]; exact (tS_l ih).symm
theorem tI.no {l o L e : Nat → Int32} {Q j i : Nat} (hT : cT l o L Q) (hj : j < Q) (hi : i < Q) (c : ¬ e i ≤ 0) (c2 : tog (clN (L (10 * j + i))) (clN (L (10 * i + j))) = 1000000000) : (1000000000 : Int32) = nO (trS (tF l o Q) e j Q) := by
  rcases hT.both hj hi with ⟨-, a⟩ | ⟨a, -⟩
  · have h1 : trS (tF l o Q) e j (i + 1) = 100000000 := by
      rw [trS_s c]
      exact (tS_r (a.elim (fun q => (trX_l q).symm) (fun q => (trX_r q).symm))).symm
    have h2 := trS_not h1 (Q - (i + 1))
    rw [show i + 1 + (Q - (i + 1)) = Q by omega] at h2
    exact (if_pos h2).symm
  · exact absurd c2 a
theorem tI.fin {f e : Nat → Int32} {Q j i : Nat} {u : Int32} (h : tI f e j i u) (hQ : Q ≤ 10) (h1 : i = Q) : u = nO (trS f e j Q) := by
  subst h1
  rw [← h.1]
  exact (if_neg (h.2.ne hQ)).symm
/-- the class's home: least as the class says it -/
theorem agS_bd {q : Nat → Int32} (hq : ∀ j, q j = 100000000 ∨ sB 10 (q j)) : ∀ i, (agS q i).2 = 100000000 ∨ sB 10 (agS q i).2
  | 0 => Or.inl rfl
  | i + 1 => by
    by_cases c : q i < (agS q i).2
    · have e : agS q (i + 1) = (nI i, q i) := if_pos c
      rw [e]; exact hq i
    · have e : agS q (i + 1) = agS q i := if_neg c
      rw [e]; exact agS_bd hq i
def bdQ (q : Nat → Int32) (n : Nat) : Prop := ∀ j, j < n → q j = 100000000 ∨ sB 10 (q j)
theorem agS_bd2 {q : Nat → Int32} : ∀ {i : Nat}, bdQ q i → ((agS q i).2 = 100000000 ∨ sB 10 (agS q i).2)
  | 0, _ => Or.inl rfl
  | i + 1, hq => by
    by_cases c : q i < (agS q i).2
    · have e : agS q (i + 1) = (nI i, q i) := if_pos c
      rw [e]; exact hq i (by omega)
    · have e : agS q (i + 1) = agS q i := if_neg c
      rw [e]; exact agS_bd2 (fun j hj => hq j (by omega))
theorem cag_y {q : Nat → Int32} {i Q : Nat} {t : Int32} (hb : bdQ q Q) (hi : i < Q) (ht : t = nO (agS q i).2) (c : ¬ t ≤ nO (q i)) : nI i = (agS q (i + 1)).1 ∧ nO (q i) = nO (agS q (i + 1)).2 := by
  have h1 := hb i hi
  have h2 := agS_bd2 (i := i) (fun j hj => hb j (by omega))
  rw [ht, Int32.not_le, nO_lt (by omega) (by omega) h1 h2] at c
  have e : agS q (i + 1) = (nI i, q i) := if_pos c
  rw [e]; exact ⟨rfl, rfl⟩
theorem cag_n {q : Nat → Int32} {i Q : Nat} {x t : Int32} (hb : bdQ q Q) (hi : i < Q) (hx : x = (agS q i).1) (ht : t = nO (agS q i).2) (c : t ≤ nO (q i)) : x = (agS q (i + 1)).1 ∧ t = nO (agS q (i + 1)).2 := by
  have h1 := hb i hi
  have h2 := agS_bd2 (i := i) (fun j hj => hb j (by omega))
  rw [ht, ← Int32.not_lt, nO_lt (by omega) (by omega) h1 h2] at c
  have e : agS q (i + 1) = agS q i := if_neg c
  rw [e]; exact ⟨hx, ht⟩
theorem cT.tr {l o L e : Nat → Int32} {Q : Nat} (h : cT l o L Q) (hE : EB e) : bdQ (fun j => trS (tF l o Q) e j Q) Q := fun j hj => by
  show trS (tF l o Q) e j Q = 100000000 ∨ sB 10 (trS (tF l o Q) e j Q)
  refine (trS_bd h.fb hE h.2.2 hj Q (Nat.le_refl _)).imp id (fun q => ?_)
  have := h.2.2
  unfold sB at q ⊢
  omega
noncomputable def hmV (l o e : Nat → Int32) (P : Nat) : Int32 := (agS (fun j => trS (tF l o P) e j P) P).1
/-! what both tell -/
noncomputable def trV (l o e : Nat → Int32) (P j : Nat) : Int32 := if trS (tF l o P) e j P = 100000000 then -1000000004 else trS (tF l o P) e j P
noncomputable def liV (l o e : Nat → Int32) (P : Nat) : Int32 := if hmV l o e P < 0 then -1000000004 else hmV l o e P
theorem tr_cl {l o e : Nat → Int32} {P j : Nat} : lon (nO (trS (tF l o P) e j P)) = trV l o e P j ∨ ¬ (trS (tF l o P) e j P = 100000000 ∨ sB 10 (trS (tF l o P) e j P)) := by
  by_cases c : trS (tF l o P) e j P = 100000000
  · left; unfold trV nO; rw [if_pos c, if_pos c]; rfl
  · by_cases c2 : sB 10 (trS (tF l o P) e j P)
    · left
      unfold trV nO
      rw [if_neg c, if_neg c]
      refine if_neg (fun q => ?_)
      unfold sB at c2
      rw [q, cl_NO] at c2
      omega
    · exact Or.inr (fun q => q.elim c c2)
theorem tr_c {l o L e : Nat → Int32} {P j : Nat} (h : cT l o L P) (hE : EB e) (hj : j < P) : lon (nO (trS (tF l o P) e j P)) = trV l o e P j := tr_cl.resolve_right (fun q => q (h.tr hE j hj))
theorem li_n {l o e : Nat → Int32} {P : Nat} (h : hmV l o e P = -1) : (-1000000004 : Int32) = liV l o e P := (if_pos (by rw [h]; decide)).symm
theorem li_y {l o e : Nat → Int32} {P y : Nat} (h : hmV l o e P = nI y) (hy : y < P) (hP : P ≤ 10) : nI y = liV l o e P := by
  unfold liV
  rw [h, if_neg]
  rw [lt_iff9, nI_toInt (by omega), z0I]
  omega
theorem gd_tr {l o f g e : Nat → Int32} {P j : Nat} (hG : fw_Gd (rowL l o) P P f g) (hP : P ≤ 10) (hj : j < P) : trS f e j P = trS (tF l o P) e j P := trS_cg (fun k hk => ⟨(hG.tF hP hj hk).1, (hG.tF hP hk hj).1⟩)
theorem gd_hm {l o f g e : Nat → Int32} {P : Nat} (hG : fw_Gd (rowL l o) P P f g) (hP : P ≤ 10) : (agS (fun j => trS f e j P) P).1 = hmV l o e P := congrArg Prod.fst (agS_cg (fun j hj => gd_tr hG hP hj))
theorem tr_n {l o f g e : Nat → Int32} {P j : Nat} (hG : fw_Gd (rowL l o) P P f g) (hP : P ≤ 10) (hj : j < P) (h : trS f e j P = 100000000) : (-1000000004 : Int32) = trV l o e P j := (if_pos ((gd_tr hG hP hj).symm.trans h)).symm
theorem tr_y {l o f g e : Nat → Int32} {P j : Nat} (hG : fw_Gd (rowL l o) P P f g) (hP : P ≤ 10) (hj : j < P) (h : ¬ trS f e j P = 100000000) : trS f e j P = trV l o e P j := by
  have q := gd_tr (e := e) hG hP hj
  unfold trV
  rw [if_neg (fun c => h (q.trans c))]
  exact q
/-! where two meet -/
def mtP (f : Nat → Int32) (a b c : Nat) (w : Int32) : Int32 := if f (10 * a + c) = 100000000 ∨ f (10 * b + c) = 100000000 ∨ (w = 2 ∧ (f (10 * c + a) = 100000000 ∨ f (10 * c + b) = 100000000)) then 100000000 else if w = 0 then f (10 * a + c) + f (10 * b + c) else if w = 1 then (if f (10 * a + c) ≤ f (10 * b + c) then f (10 * b + c) else f (10 * a + c)) else f (10 * a + c) + f (10 * b + c) + f (10 * c + a) + f (10 * c + b)
def kB (n : Int) (x : Int32) : Prop := x = 100000000 ∨ (-n ≤ x.toInt ∧ x.toInt ≤ n)
theorem kB.ne {n : Int} {x : Int32} (h : -n ≤ x.toInt ∧ x.toInt ≤ n) (hn : n < 100000000) : ¬ x = 100000000 := fun q => by rw [q, fw_NOT] at h; omega
theorem kB.ts {n m : Int} {a b : Int32} (ha : kB n a) (hb : kB m b) (h : n + m < 100000000) (h1 : 0 ≤ n) (h2 : 0 ≤ m) : kB (n + m) (tS a b) := by
  rcases ha with ha | ha
  · exact Or.inl (tS_l ha).symm
  rcases hb with hb | hb
  · exact Or.inl (tS_r hb).symm
  refine Or.inr ?_
  rw [← tS_y (kB.ne ha (by omega)) (kB.ne hb (by omega)), fw_addI (by omega) (by omega)]
  omega
theorem nO_n {x : Int32} (h : ¬ x = 100000000) : nO x = x := if_neg h
theorem nO_p {x : Int32} (h : x = 100000000) : nO x = 1000000000 := if_pos h
theorem kB.no {n : Int} {x : Int32} (h : kB n x) (hn : n < 100000000) : nO x = 1000000000 ↔ x = 100000000 := by
  rcases h with h | h
  · rw [nO_p h]; exact ⟨fun _ => h, fun _ => rfl⟩
  · rw [nO_n (kB.ne h hn)]
    refine ⟨fun q => ?_, fun q => absurd q (kB.ne h hn)⟩
    rw [q, cl_NO] at h; omega
theorem tog_nO {n m : Int} {a b : Int32} (ha : kB n a) (hb : kB m b) (h : n + m < 100000000) (h1 : 0 ≤ n) (h2 : 0 ≤ m) : tog (nO a) (nO b) = nO (tS a b) := by
  have ia := ha.no (by omega)
  have ib := hb.no (by omega)
  by_cases c1 : a = 100000000
  · rw [← tog_l (ia.mpr c1), ← tS_l c1]; rfl
  by_cases c2 : b = 100000000
  · rw [← tog_r (ib.mpr c2), ← tS_r c2]; rfl
  have k := kB.ts ha hb h h1 h2
  rw [← tS_y c1 c2] at k ⊢
  have nn : ¬ a + b = 100000000 := fun q => by
    have a1 := ha.resolve_left c1
    have b1 := hb.resolve_left c2
    have e := fw_addI (x := a) (y := b) (by omega) (by omega)
    rw [q, fw_NOT] at e; omega
  rw [nO_n nn, ← tog_y (fun q => c1 (ia.mp q)) (fun q => c2 (ib.mp q)), nO_n c1, nO_n c2]
theorem FB.k {f : Nat → Int32} {P a b : Nat} (h : FB f P) (ha : a < P) (hb : b < P) : kB 8991 (f (10 * a + b)) := by
  by_cases c : f (10 * a + b) = 100000000
  · exact Or.inl c
  · exact Or.inr (h a b ha hb c)
section mts
variable {l o L : Nat → Int32} {Q j k w : Nat} {p : Int32}
theorem mt_0 (hT : cT l o L Q) (hj : j < Q) (hk : k < Q) (hw : w < Q) (h : p = 0) : tog (clN (L (10 * j + w))) (clN (L (10 * k + w))) = nO (mtP (tF l o Q) j k w p) := by
  rw [(hT.far hj hw).1, (hT.far hk hw).1, tog_nO (hT.fb.k hj hw) (hT.fb.k hk hw) (by omega) (by omega) (by omega)]
  subst h
  unfold mtP tS
  by_cases c1 : tF l o Q (10 * j + w) = 100000000
  · rw [if_pos (Or.inl c1), if_pos (Or.inl c1)]
  by_cases c2 : tF l o Q (10 * k + w) = 100000000
  · rw [if_pos (Or.inr c2), if_pos (Or.inr (Or.inl c2))]
  rw [if_neg (fun q => q.elim c1 c2), if_neg (fun q => q.elim c1 (fun q => q.elim c2 (fun q => absurd q.1 (by decide)))), if_pos rfl]
theorem mt_1 (hT : cT l o L Q) (hj : j < Q) (hk : k < Q) (hw : w < Q) (h : p = 1) : (if clN (L (10 * j + w)) < clN (L (10 * k + w)) then clN (L (10 * k + w)) else clN (L (10 * j + w))) = nO (mtP (tF l o Q) j k w p) := by
  rw [(hT.far hj hw).1, (hT.far hk hw).1]
  subst h
  have ka := hT.fb.k hj hw
  have kb := hT.fb.k hk hw
  unfold mtP
  by_cases c1 : tF l o Q (10 * j + w) = 100000000
  · rw [if_pos (Or.inl c1), nO_p c1]
    by_cases c2 : tF l o Q (10 * k + w) = 100000000
    · rw [nO_p c2, if_neg (by decide)]; rfl
    · have b1 := kb.resolve_left c2
      rw [nO_n c2, if_neg (by rw [lt_iff9, cl_NO]; omega)]; rfl
  by_cases c2 : tF l o Q (10 * k + w) = 100000000
  · have a1 := ka.resolve_left c1
    rw [if_pos (Or.inr (Or.inl c2)), nO_p c2, nO_n c1, if_pos (by rw [lt_iff9, cl_NO]; omega)]; rfl
  have R : (if tF l o Q (10 * j + w) = 100000000 ∨ tF l o Q (10 * k + w) = 100000000 ∨ ((1 : Int32) = 2 ∧ (tF l o Q (10 * w + j) = 100000000 ∨ tF l o Q (10 * w + k) = 100000000)) then 100000000 else if (1 : Int32) = 0 then tF l o Q (10 * j + w) + tF l o Q (10 * k + w) else if (1 : Int32) = 1 then (if tF l o Q (10 * j + w) ≤ tF l o Q (10 * k + w) then tF l o Q (10 * k + w) else tF l o Q (10 * j + w)) else tF l o Q (10 * j + w) + tF l o Q (10 * k + w) + tF l o Q (10 * w + j) + tF l o Q (10 * w + k)) = if tF l o Q (10 * j + w) ≤ tF l o Q (10 * k + w) then tF l o Q (10 * k + w) else tF l o Q (10 * j + w) := by
    rw [if_neg (fun q => q.elim c1 (fun q => q.elim c2 (fun q => absurd q.1 (by decide)))), if_neg (by decide), if_pos rfl]
  rw [R, nO_n c1, nO_n c2]
  have a1 := ka.resolve_left c1
  have b1 := kb.resolve_left c2
  by_cases c3 : tF l o Q (10 * j + w) < tF l o Q (10 * k + w)
  · rw [if_pos c3, if_pos (Int32.le_of_lt c3), nO_n c2]
  · rw [if_neg c3]
    by_cases c4 : tF l o Q (10 * j + w) ≤ tF l o Q (10 * k + w)
    · rw [if_pos c4, nO_n c2]
      rw [lt_iff9] at c3
      rw [Int32.le_iff_toInt_le] at c4
      exact Int32.toInt_inj.mp (by omega)
    · rw [if_neg c4, nO_n c1]
theorem x_w3 {p : Int32} (h0 : ¬ p = 0) (h1 : ¬ p = 1) (h2 : ¬ p < 0) (h3 : ¬ 2 < p) : p = 2 := by
  rw [lt_iff9, z0I] at h2
  rw [lt_iff9, show (2 : Int32).toInt = 2 by decide] at h3
  have n0 : ¬ p.toInt = 0 := fun q => h0 (Int32.toInt_inj.mp (q.trans z0I.symm))
  have n1 : ¬ p.toInt = 1 := fun q => h1 (Int32.toInt_inj.mp (q.trans (show (1 : Int32).toInt = 1 by decide).symm))
  exact Int32.toInt_inj.mp (show p.toInt = 2 by omega)
theorem mt_2 (hT : cT l o L Q) (hj : j < Q) (hk : k < Q) (hw : w < Q) (h0 : ¬ p = 0) (h1 : ¬ p = 1) (h2 : ¬ p < 0) (h3 : ¬ 2 < p) : tog (tog (clN (L (10 * j + w))) (clN (L (10 * k + w)))) (tog (clN (L (10 * w + j))) (clN (L (10 * w + k)))) = nO (mtP (tF l o Q) j k w p) := by
  have e := x_w3 h0 h1 h2 h3
  subst e
  have ka := hT.fb.k hj hw
  have kb := hT.fb.k hk hw
  have kc := hT.fb.k hw hj
  have kd := hT.fb.k hw hk
  rw [(hT.far hj hw).1, (hT.far hk hw).1, (hT.far hw hj).1, (hT.far hw hk).1, tog_nO ka kb (by omega) (by omega) (by omega), tog_nO kc kd (by omega) (by omega) (by omega), tog_nO (kB.ts ka kb (by omega) (by omega) (by omega)) (kB.ts kc kd (by omega) (by omega) (by omega)) (by omega) (by omega) (by omega)]
  unfold mtP
  by_cases c1 : tF l o Q (10 * j + w) = 100000000
  · rw [if_pos (Or.inl c1), ← tS_l (tS_l c1).symm]
  by_cases c2 : tF l o Q (10 * k + w) = 100000000
  · rw [if_pos (Or.inr (Or.inl c2)), ← tS_l (tS_r c2).symm]
  by_cases c3 : tF l o Q (10 * w + j) = 100000000
  · rw [if_pos (Or.inr (Or.inr ⟨rfl, Or.inl c3⟩)), ← tS_r (tS_l c3).symm]
  by_cases c4 : tF l o Q (10 * w + k) = 100000000
  · rw [if_pos (Or.inr (Or.inr ⟨rfl, Or.inr c4⟩)), ← tS_r (tS_r c4).symm]
  have a1 := ka.resolve_left c1
  have b1 := kb.resolve_left c2
  have d1 := kc.resolve_left c3
  have d2 := kd.resolve_left c4
  have s1 := fw_addI (x := tF l o Q (10 * j + w)) (y := tF l o Q (10 * k + w)) (by omega) (by omega)
  have s2 := fw_addI (x := tF l o Q (10 * w + j)) (y := tF l o Q (10 * w + k)) (by omega) (by omega)
  rw [if_neg (fun q => q.elim c1 (fun q => q.elim c2 (fun q => q.2.elim c3 c4))), if_neg (by decide), if_neg (by decide), ← tS_y c1 c2, ← tS_y c3 c4]
  rw [← tS_y (fun q => by rw [q, fw_NOT] at s1; omega) (fun q => by rw [q, fw_NOT] at s2; omega), ← Int32.add_assoc]
theorem mt_bd (hT : cT l o L Q) (hj : j < Q) (hk : k < Q) (h2 : ¬ p < 0) (h3 : ¬ 2 < p) : bdQ (fun c => mtP (tF l o Q) j k c p) Q := fun c hc => by
  show mtP (tF l o Q) j k c p = 100000000 ∨ sB 10 (mtP (tF l o Q) j k c p)
  have ka := hT.fb.k hj hc
  have kb := hT.fb.k hk hc
  have kc := hT.fb.k hc hj
  have kd := hT.fb.k hc hk
  unfold mtP
  by_cases c1 : tF l o Q (10 * j + c) = 100000000
  · rw [if_pos (Or.inl c1)]; exact Or.inl rfl
  by_cases c2 : tF l o Q (10 * k + c) = 100000000
  · rw [if_pos (Or.inr (Or.inl c2))]; exact Or.inl rfl
  have a1 := ka.resolve_left c1
  have b1 := kb.resolve_left c2
  have s1 := fw_addI (x := tF l o Q (10 * j + c)) (y := tF l o Q (10 * k + c)) (by omega) (by omega)
  by_cases c5 : p = 2 ∧ (tF l o Q (10 * c + j) = 100000000 ∨ tF l o Q (10 * c + k) = 100000000)
  · rw [if_pos (Or.inr (Or.inr c5))]; exact Or.inl rfl
  rw [if_neg (fun q => q.elim c1 (fun q => q.elim c2 c5))]
  by_cases p0 : p = 0
  · rw [if_pos p0]; right; unfold sB; rw [s1]; omega
  rw [if_neg p0]
  by_cases p1 : p = 1
  · rw [if_pos p1]; right; unfold sB; split <;> omega
  rw [if_neg p1]
  have e := x_w3 p0 p1 h2 h3
  have c3 : ¬ tF l o Q (10 * c + j) = 100000000 := fun q => c5 ⟨e, Or.inl q⟩
  have c4 : ¬ tF l o Q (10 * c + k) = 100000000 := fun q => c5 ⟨e, Or.inr q⟩
  have d1 := kc.resolve_left c3
  have d2 := kd.resolve_left c4
  have s2 := fw_addI (x := tF l o Q (10 * j + c) + tF l o Q (10 * k + c)) (y := tF l o Q (10 * c + j)) (by omega) (by omega)
  have s3 := fw_addI (x := tF l o Q (10 * j + c) + tF l o Q (10 * k + c) + tF l o Q (10 * c + j)) (y := tF l o Q (10 * c + k)) (by omega) (by omega)
  right; unfold sB; rw [s3]; omega
end mts
/-! what both tell of it -/
noncomputable def mtH (l o : Nat → Int32) (P j k : Nat) (p : Int32) : Int32 := (agS (fun c => mtP (tF l o P) j k c p) P).1
noncomputable def mtV (l o : Nat → Int32) (P j k : Nat) (p : Int32) : Int32 := if mtH l o P j k p < 0 then -1000000004 else mtH l o P j k p
noncomputable def mtR (P : Nat) (a b p : Int32) (l o : Nat → Int32) : Int32 := cif (isP P a ∧ isP P b ∧ (¬ p < 0 ∧ ¬ 2 < p)) (cif (Lp l o P) (-1000000005) (mtV l o P a.toNatClampNeg b.toNatClampNeg p)) (-1000000001)
theorem mt_no {P : Nat} {a b p : Int32} {l o : Nat → Int32} (h : ¬ (isP P a ∧ isP P b ∧ (¬ p < 0 ∧ ¬ 2 < p))) : (-1000000001 : Int32) = mtR P a b p l o := (cif_neg h).symm
theorem mt_lp {P j k : Nat} {p : Int32} {l o : Nat → Int32} (hP : P ≤ 10) (hj : j < P) (hk : k < P) (hp : ¬ p < 0 ∧ ¬ 2 < p) (h : Lp l o P) : (-1000000005 : Int32) = mtR P (nI j) (nI k) p l o := ((cif_pos ⟨isP_nI (by omega) hj, isP_nI (by omega) hk, hp⟩).trans (cif_pos h)).symm
theorem mt_y {P j k : Nat} {p : Int32} {l o : Nat → Int32} (hP : P ≤ 10) (hj : j < P) (hk : k < P) (hp : ¬ p < 0 ∧ ¬ 2 < p) (h : ¬ Lp l o P) {x : Int32} (e : x = mtV l o P j k p) : x = mtR P (nI j) (nI k) p l o := by
  unfold mtR
  rw [cif_pos ⟨isP_nI (by omega) hj, isP_nI (by omega) hk, hp⟩, cif_neg h, nI_clamp (by omega), nI_clamp (by omega)]
  exact e
theorem mv_n {l o : Nat → Int32} {P j k : Nat} {p : Int32} (h : mtH l o P j k p = -1) : (-1000000004 : Int32) = mtV l o P j k p := (if_pos (by rw [h]; decide)).symm
theorem mv_y {l o : Nat → Int32} {P j k y : Nat} {p : Int32} (h : mtH l o P j k p = nI y) (hy : y < P) (hP : P ≤ 10) : nI y = mtV l o P j k p := by
  unfold mtV
  rw [h, if_neg]
  rw [lt_iff9, nI_toInt (by omega), z0I]
  omega
theorem mv_rn {l o : Nat → Int32} {P j k : Nat} {p x : Int32} (e : x = mtH l o P j k p) (h : ¬ 0 ≤ x) : (-1000000004 : Int32) = mtV l o P j k p := (if_pos (by rw [← e]; exact Int32.not_le.mp h)).symm
theorem mv_ry {l o : Nat → Int32} {P j k : Nat} {p x : Int32} (e : x = mtH l o P j k p) (h : 0 ≤ x) : x = mtV l o P j k p := e.trans (if_neg (by rw [← e]; exact Int32.not_lt.mpr h)).symm
theorem gd_mt {l o f g : Nat → Int32} {P j k : Nat} {p : Int32} (hG : fw_Gd (rowL l o) P P f g) (hP : P ≤ 10) (hj : j < P) (hk : k < P) : (agS (fun c => mtP f j k c p) P).1 = mtH l o P j k p := congrArg Prod.fst (agS_cg (fun c hc => by
  show mtP f j k c p = mtP (tF l o P) j k c p
  unfold mtP
  rw [(hG.tF hP hj hc).1, (hG.tF hP hk hc).1, (hG.tF hP hc hj).1, (hG.tF hP hc hk).1]))
/-! the reference's price -/
section mtr
variable {f : Nat → Int32} {a b c : Nat} {w : Int32}
theorem mp_n1 (h : f (10 * a + c) = 100000000) : (100000000 : Int32) = mtP f a b c w := (if_pos (Or.inl h)).symm
theorem mp_n2 (h : f (10 * b + c) = 100000000) : (100000000 : Int32) = mtP f a b c w := (if_pos (Or.inr (Or.inl h))).symm
theorem mp_n3 (hw : w = 2) (h : f (10 * c + a) = 100000000) : (100000000 : Int32) = mtP f a b c w := (if_pos (Or.inr (Or.inr ⟨hw, Or.inl h⟩))).symm
theorem mp_n4 (hw : w = 2) (h : f (10 * c + b) = 100000000) : (100000000 : Int32) = mtP f a b c w := (if_pos (Or.inr (Or.inr ⟨hw, Or.inr h⟩))).symm
theorem mp_0 (h1 : ¬ f (10 * a + c) = 100000000) (h2 : ¬ f (10 * b + c) = 100000000) (h : w = 0) : f (10 * a + c) + f (10 * b + c) = mtP f a b c w := by
  subst h
  unfold mtP
  rw [if_neg (fun q => q.elim h1 (fun q => q.elim h2 (fun q => absurd q.1 (by decide)))), if_pos rfl]
theorem mp_1 (h1 : ¬ f (10 * a + c) = 100000000) (h2 : ¬ f (10 * b + c) = 100000000) (h : w = 1) (hl : f (10 * a + c) ≤ f (10 * b + c)) : f (10 * b + c) = mtP f a b c w := by
  subst h
  unfold mtP
  rw [if_neg (fun q => q.elim h1 (fun q => q.elim h2 (fun q => absurd q.1 (by decide)))), if_neg (by decide), if_pos rfl, if_pos hl]
theorem mp_1n (h1 : ¬ f (10 * a + c) = 100000000) (h2 : ¬ f (10 * b + c) = 100000000) (h : w = 1) (hl : ¬ f (10 * a + c) ≤ f (10 * b + c)) : f (10 * a + c) = mtP f a b c w := by
  subst h
  unfold mtP
  rw [if_neg (fun q => q.elim h1 (fun q => q.elim h2 (fun q => absurd q.1 (by decide)))), if_neg (by decide), if_pos rfl, if_neg hl]
theorem mp_2 (h1 : ¬ f (10 * a + c) = 100000000) (h2 : ¬ f (10 * b + c) = 100000000) (h3 : ¬ (w = 2 ∧ (f (10 * c + a) = 100000000 ∨ f (10 * c + b) = 100000000))) (h0 : ¬ w = 0) (h4 : ¬ w = 1) : f (10 * a + c) + f (10 * b + c) + f (10 * c + a) + f (10 * c + b) = mtP f a b c w := by
  unfold mtP
  rw [if_neg (fun q => q.elim h1 (fun q => q.elim h2 h3)), if_neg h0, if_neg h4]
end mtr
/-! by which places -/
def bcT (l o : Nat → Int32) (P k y r : Nat) : Prop := r ≠ y ∧ o (10 * y + r) = 1 ∧ ¬ tF l o P (10 * r + k) = 100000000 ∧ l (10 * y + r) + tF l o P (10 * r + k) = tF l o P (10 * y + k) ∧ tG l o P (10 * r + k) + 1 = tG l o P (10 * y + k)
noncomputable def lsF (p : Nat → Prop) : Nat → Nat → Nat
  | 0, i => i
  | n + 1, i => cif (p i) i (lsF p n (i + 1))
theorem lsF_eq {p : Nat → Prop} {z : Nat} (hp : p z) : ∀ n i, i ≤ z → z < i + n → (∀ r, i ≤ r → r < z → ¬ p r) → lsF p n i = z
  | 0, i, h1, h2, _ => by omega
  | n + 1, i, h1, h2, hn => by
    rw [lsF]
    by_cases e : i = z
    · subst e; exact cif_pos hp
    · rw [cif_neg (hn i (Nat.le_refl _) (by omega))]
      exact lsF_eq hp n (i + 1) (by omega) (by omega) (fun r h3 h4 => hn r (by omega) h4)
noncomputable def nx9 (l o : Nat → Int32) (P k y : Nat) : Nat := lsF (bcT l o P k y) P 0
theorem nx_c {l o : Nat → Int32} {P k y i : Nat} (hi : i < P) (h : bcT l o P k y i) (hn : ∀ r, r < i → ¬ bcT l o P k y r) : i = nx9 l o P k y := (lsF_eq h P 0 (Nat.zero_le _) (by omega) (fun r _ h2 => hn r h2)).symm
noncomputable def st9 (l o : Nat → Int32) (P k y : Nat) : Nat → Nat
  | 0 => y
  | i + 1 => nx9 l o P k (st9 l o P k y i)
theorem st_s {l o : Nat → Int32} {P k y i z w : Nat} (h : z = nx9 l o P k w) (e : w = st9 l o P k y i) : z = st9 l o P k y (i + 1) := by rw [h, e]; rfl
theorem st_e {l o : Nat → Int32} {P k y i z w : Nat} (e : w = st9 l o P k y i) (h : i = z) : w = st9 l o P k y z := by rw [e, h]
/-- whether one step more is to be gone -/
def bs9 (l o : Nat → Int32) (P k w i y : Nat) : Prop := y < P ∧ ¬ tF l o P (10 * y + k) = 100000000 ∧ (w : Int) ≤ (i : Int) + (tG l o P (10 * y + k)).toInt
theorem gd_t {l o f g : Nat → Int32} {P : Nat} (h : fw_Gd (rowL l o) P P f g) : fw_Gd (rowL l o) P P (tF l o P) (tG l o P) := tFG_ok h
theorem cT.g {l o L : Nat → Int32} {Q : Nat} (h : cT l o L Q) : fw_Gd (rowL l o) Q Q (tF l o Q) (tG l o Q) := tFG_ok (h.1.fw h.2.2 h.2.1)
theorem tG_bd {l o : Nat → Int32} {P a b : Nat} (hG : fw_Gd (rowL l o) P P (tF l o P) (tG l o P)) (hM : MB (rowL l o) P) (hP : P ≤ 10) (ha : a < P) (hb : b < P) (h : ¬ tF l o P (10 * a + b) = 100000000) : 0 ≤ (tG l o P (10 * a + b)).toInt ∧ (tG l o P (10 * a + b)).toInt < 10 := by
  obtain ⟨p1, p2, p3⟩ := hG.lt hP ha hb h
  obtain ⟨n2, x2, q1, q2, q3, q4⟩ := hG.nn.short hP _ _ a b _ (Nat.le_refl _) ha p3
  obtain ⟨-, r1⟩ := hG.walk hb ha q4
  unfold fw_ky at r1
  omega
theorem bs_ne {l o : Nat → Int32} {P k w i y : Nat} (hG : fw_Gd (rowL l o) P P (tF l o P) (tG l o P)) (h : bs9 l o P k w i y) (hi : i < w) : y ≠ k := by
  intro e
  subst e
  have h1 := (hG.2.1 y h.1).2
  have h2 := h.2.2
  omega
theorem bs_next {l o : Nat → Int32} {P k w i y z : Nat} (hG : fw_Gd (rowL l o) P P (tF l o P) (tG l o P)) (hM : MB (rowL l o) P) (hP : P ≤ 10) (hk : k < P) (h : bs9 l o P k w i y) (hz : z < P) (hb : bcT l o P k y z) : bs9 l o P k w (i + 1) z := by
  obtain ⟨b1, b2, b3, b4, b5⟩ := hb
  have g1 := tG_bd hG hM hP hz hk b3
  have e := fw_addI (x := tG l o P (10 * z + k)) (y := 1) (by rw [show (1 : Int32).toInt = 1 by decide]; omega) (by rw [show (1 : Int32).toInt = 1 by decide]; omega)
  rw [b5, show (1 : Int32).toInt = 1 by decide] at e
  have h2 := h.2.2
  exact ⟨hz, b3, by omega⟩
theorem bs_start {l o : Nat → Int32} {P k w j : Nat} (hj : j < P) (hf : ¬ tF l o P (10 * j + k) = 100000000) (h : (w : Int) ≤ (tG l o P (10 * j + k)).toInt) : bs9 l o P k w 0 j := ⟨hj, hf, by omega⟩
/-- there is a next stop -/
theorem bc_ex {l o : Nat → Int32} {P a b : Nat} (hG : fw_Gd (rowL l o) P P (tF l o P) (tG l o P)) (hM : MB (rowL l o) P) (hP : P ≤ 10) (ha : a < P) (hb : b < P) (hab : a ≠ b) (hf : ¬ tF l o P (10 * a + b) = 100000000) : ∃ r, r < P ∧ bcT l o P b a r := by
  have g0 := tG_bd hG hM hP ha hb hf
  have f0 := fw_Gd.fb hG hP hM a b ha hb hf
  obtain ⟨b1, w1⟩ := hG.1 a b ha hb
  have w1 := w1 hf
  obtain ⟨n, hn⟩ : ∃ n, (tG l o P (10 * a + b)).toInt.toNat = n := ⟨_, rfl⟩
  rw [hn] at w1
  cases n with
  | zero => rw [fw_Wk_0] at w1; exact absurd w1.1 hab
  | succ n =>
    rw [fw_Wk_s] at w1
    obtain ⟨r, hr, hne, ho, hw⟩ := w1
    obtain ⟨c1, c2⟩ := hG.walk hb hr hw
    obtain ⟨e1, e2⟩ := hG.2.2.1 a r ha hr hne ho
    obtain ⟨-, d2⟩ := hG.2.2.2 r a b hr hr ha hb e1 c1
    have g1 := tG_bd hG hM hP hr hb c1
    have f1 := fw_Gd.fb hG hP hM r b hr hb c1
    have hm := hM a r ha hr
    have h1 : (1 : Int32).toInt = 1 := by decide
    rw [rowL_o] at ho
    rw [rowL_l (by omega) (by omega)] at hm hw c2 e2
    unfold fw_ky at c2 e2 d2
    refine ⟨r, hr, hne, ho, c1, ?_, ?_⟩
    · rw [← Int32.toInt_inj, fw_addI (by omega) (by omega)]
      omega
    · rw [← Int32.toInt_inj, fw_addI (by omega) (by omega)]
      omega
/-- the class's question is the same -/
theorem bc_c {l o L : Nat → Int32} {Q j k i : Nat} (hT : cT l o L Q) (hj : j < Q) (hi : i < Q) (hk : k < Q) (hne : i ≠ j) (hf : ¬ tF l o Q (10 * j + k) = 100000000) : tog (owL l o j i) (L (10 * i + k)) = L (10 * j + k) ↔ bcT l o Q k j i := by
  obtain ⟨hG, hM, hP⟩ := hT
  have hT : cT l o L Q := ⟨hG, hM, hP⟩
  have hNO := cl_NO
  have i1 : (1 : Int32).toInt = 1 := by decide
  have key : ∀ a b, a < Q → b < Q → ¬ tF l o Q (10 * a + b) = 100000000 → ¬ L (10 * a + b) = 1000000000 ∧ (L (10 * a + b)).toInt = 100 * (tF l o Q (10 * a + b)).toInt + (tG l o Q (10 * a + b)).toInt := by
    intro a b ha hb h
    rcases cl_FN hG hP hM ha hb with ⟨-, -, h3⟩ | ⟨h1, -, -, h4, h5⟩
    · exact absurd h3 h
    · have e1 : clN (L (10 * a + b)) = fqv (L (10 * a + b)) := if_neg h1
      rw [e1] at h4
      have a1 := fqv_I (L (10 * a + b))
      have a2 := frv_I (L (10 * a + b))
      rw [h4] at a1
      rw [h5] at a2
      exact ⟨h1, by omega⟩
  obtain ⟨n1, v1⟩ := key j k hj hk hf
  have f1 := hT.fb j k hj hk hf
  have g1 := tG_bd hT.g hM hP hj hk hf
  have hm := hM j i hj hi
  rw [rowL_l (by omega) (by omega)] at hm
  constructor
  · intro h
    by_cases ho : o (10 * j + i) = 1
    · by_cases hf2 : tF l o Q (10 * i + k) = 100000000
      · exfalso
        rcases cl_FN hG hP hM hi hk with ⟨h1, -⟩ | ⟨-, -, h3, -⟩
        · rw [← tog_r h1] at h; exact n1 h.symm
        · exact h3 hf2
      · obtain ⟨n2, v2⟩ := key i k hi hk hf2
        have f2 := hT.fb i k hi hk hf2
        have g2 := tG_bd hT.g hM hP hi hk hf2
        have e3 := owL_I hm
        rw [owL_y ho] at h
        have n3 : ¬ 100 * l (10 * j + i) + 1 = 1000000000 := fun q => by rw [q, hNO] at e3; omega
        rw [← tog_y n3 n2] at h
        have e4 := congrArg Int32.toInt h
        rw [fw_addI (by omega) (by omega)] at e4
        refine ⟨hne, ho, hf2, ?_, ?_⟩
        · rw [← Int32.toInt_inj, fw_addI (by omega) (by omega)]; omega
        · rw [← Int32.toInt_inj, fw_addI (by omega) (by omega)]; omega
    · exfalso
      rw [owL_n ho, ← tog_l rfl] at h
      exact n1 h.symm
  · intro ⟨_, ho, hf2, b4, b5⟩
    obtain ⟨n2, v2⟩ := key i k hi hk hf2
    have f2 := hT.fb i k hi hk hf2
    have g2 := tG_bd hT.g hM hP hi hk hf2
    have e3 := owL_I hm
    have n3 : ¬ 100 * l (10 * j + i) + 1 = 1000000000 := fun q => by rw [q, hNO] at e3; omega
    have c4 := congrArg Int32.toInt b4
    have c5 := congrArg Int32.toInt b5
    rw [fw_addI (by omega) (by omega)] at c4 c5
    rw [owL_y ho, ← tog_y n3 n2, ← Int32.toInt_inj, fw_addI (by omega) (by omega)]
    omega
/-- the reference's question is the same -/
theorem bc_r {P : Nat} {s e l u o rn rp kk wn wp t sl f g : Nat → Int32} {y k r : Nat} (h : FR P s e l u o rn rp kk wn wp t sl) (hG : fw_Gd (rowL l o) P P f g) (hP : P ≤ 10) (hy : y < P) (hk : k < P) (hr : r < P) (hf : ¬ f (10 * y + k) = 100000000) : fw_BC s f g y k r ↔ bcT l o P k y r := by
  obtain ⟨t1, t2⟩ := hG.tF hP hy hk
  obtain ⟨t3, t4⟩ := hG.tF hP hr hk
  have t1 : f (10 * y + k) = tF l o P (10 * y + k) := t1
  have t2 : ¬ f (10 * y + k) = 100000000 → g (10 * y + k) = tG l o P (10 * y + k) := t2
  have t3 : f (10 * r + k) = tF l o P (10 * r + k) := t3
  have t4 : ¬ f (10 * r + k) = 100000000 → g (10 * r + k) = tG l o P (10 * r + k) := t4
  have e1 : s (213 + 10 * y + r) = o (10 * y + r) := by
    rw [show 213 + 10 * y + r = 213 + (10 * y + r) by omega]; exact (h.2.1 _ (by omega)).2.2.1
  have e2 : s (13 + 10 * y + r) = l (10 * y + r) := by
    rw [show 13 + 10 * y + r = 13 + (10 * y + r) by omega]; exact (h.2.1 _ (by omega)).1
  unfold fw_BC bcT
  rw [e1, e2, t3, t1, t2 hf]
  constructor
  · intro ⟨a1, a2, a3, a4, a5⟩
    exact ⟨a1, a2, a3, a4, by rw [← t4 (by rw [t3]; exact a3)]; exact a5⟩
  · intro ⟨a1, a2, a3, a4, a5⟩
    exact ⟨a1, a2, a3, a4, by rw [t4 (by rw [t3]; exact a3)]; exact a5⟩
/-- the search for the next stop, from above down to n: the least so far -/
def fw_BZ (s f g : Nat → Int32) (P y k n : Nat) (x : Int32) : Prop := (x = -1 ∧ ∀ r, n ≤ r → r < P → ¬ fw_BC s f g y k r) ∨ ∃ z, n ≤ z ∧ z < P ∧ x = nI z ∧ fw_BC s f g y k z ∧ ∀ r, n ≤ r → r < z → ¬ fw_BC s f g y k r
theorem fw_BZ.start {s f g : Nat → Int32} {P y k n : Nat} (h : P ≤ n) : fw_BZ s f g P y k n (-1) := Or.inl ⟨rfl, fun r _ _ => by omega⟩
theorem fw_BZ.no {s f g : Nat → Int32} {P y k n z : Nat} {x : Int32} (h : fw_BZ s f g P y k n x) (e : z + 1 = n) (hz : ¬ fw_BC s f g y k z) : fw_BZ s f g P y k z x := by
  have st : ∀ {m : Nat}, (∀ r, n ≤ r → r < m → ¬ fw_BC s f g y k r) → ∀ r, z ≤ r → r < m → ¬ fw_BC s f g y k r := fun h2 r h3 h4 => by
    by_cases q : r = z
    · subst q; exact hz
    · exact h2 r (by omega) h4
  rcases h with ⟨h1, h2⟩ | ⟨w, h1, h2, h3, h4, h5⟩
  · exact Or.inl ⟨h1, st h2⟩
  · exact Or.inr ⟨w, by omega, h2, h3, h4, st h5⟩
theorem fw_BZ.yes {s f g : Nat → Int32} {P y k n z : Nat} (e : z + 1 = n) (hz : z < P) (h : fw_BC s f g y k z) : fw_BZ s f g P y k z (nI z) := Or.inr ⟨z, Nat.le_refl _, hz, rfl, h, fun r h1 h2 => by omega⟩
theorem fw_BZ.bx {s f g : Nat → Int32} {P y k n : Nat} {x : Int32} (h : fw_BZ s f g P y k n x) : fw_BX s f g P y k n x := by
  rcases h with h | ⟨z, _, h1, h2, h3, _⟩
  · exact Or.inl h
  · exact Or.inr ⟨z, h1, h2, h3⟩
theorem fw_BZ.next {P : Nat} {s e l u o rn rp kk wn wp t sl f g : Nat → Int32} {y k n w i : Nat} {x v : Int32} (h : FR P s e l u o rn rp kk wn wp t sl) (hG : fw_Gd s P P f g) (hG2 : fw_Gd (rowL l o) P P f g) (hP : P ≤ 10) (hM : MI s) (hk : k < P) (hy : fw_BS f g P k w i y) (hw : i < w) (hx : fw_BZ s f g P y k n x) (hv : v = nI n - 1) (hn : n ≤ P) (h0 : v < 0) : ∃ z, (z < P ∧ fw_BS f g P k w (i + 1) z ∧ z = nx9 l o P k y) ∧ x = nI z := by
  obtain ⟨z, ⟨h1, h2⟩, h3⟩ := fw_BS.next hG hP hM hk hy hw hx.bx hv hn h0
  refine ⟨z, ⟨h1, h2, ?_⟩, h3⟩
  have hn0 := x_dn0 hv (by omega) h0
  subst hn0
  have hf := hy.2.1
  rcases hx with ⟨e1, -⟩ | ⟨r, -, r2, r3, r4, r5⟩
  · exfalso
    have q := congrArg Int32.toInt (h3.symm.trans e1)
    rw [nI_toInt (by omega)] at q
    have : (-1 : Int32).toInt = -1 := by decide
    omega
  · have er : r = z := by
      have q := congrArg Int32.toInt (r3.symm.trans h3)
      rw [nI_toInt (by omega), nI_toInt (by omega)] at q
      omega
    subst er
    exact nx_c r2 ((bc_r h hG2 hP hy.1 hk r2 hf).mp r4) (fun a ha hb => r5 a (Nat.zero_le _) ha ((bc_r h hG2 hP hy.1 hk (by omega) hf).mpr hb))
/-! what both tell of it -/
noncomputable def byV (l o : Nat → Int32) (P j k : Nat) (p : Int32) : Int32 := if tF l o P (10 * j + k) = 100000000 ∨ tG l o P (10 * j + k) < p then -1000000004 else if p < 0 then tG l o P (10 * j + k) else nI (st9 l o P k j p.toNatClampNeg)
noncomputable def byR (P : Nat) (a b p : Int32) (l o : Nat → Int32) : Int32 := cif (isP P a ∧ isP P b ∧ (¬ p < -1 ∧ ¬ 9 < p)) (cif (Lp l o P) (-1000000005) (byV l o P a.toNatClampNeg b.toNatClampNeg p)) (-1000000001)
theorem by_no {P : Nat} {a b p : Int32} {l o : Nat → Int32} (h : ¬ (isP P a ∧ isP P b ∧ (¬ p < -1 ∧ ¬ 9 < p))) : (-1000000001 : Int32) = byR P a b p l o := (cif_neg h).symm
theorem by_lp {P j k : Nat} {p : Int32} {l o : Nat → Int32} (hP : P ≤ 10) (hj : j < P) (hk : k < P) (hp : ¬ p < -1 ∧ ¬ 9 < p) (h : Lp l o P) : (-1000000005 : Int32) = byR P (nI j) (nI k) p l o := ((cif_pos ⟨isP_nI (by omega) hj, isP_nI (by omega) hk, hp⟩).trans (cif_pos h)).symm
theorem by_y {P j k : Nat} {p : Int32} {l o : Nat → Int32} (hP : P ≤ 10) (hj : j < P) (hk : k < P) (hp : ¬ p < -1 ∧ ¬ 9 < p) (h : ¬ Lp l o P) {x : Int32} (e : x = byV l o P j k p) : x = byR P (nI j) (nI k) p l o := by
  unfold byR
  rw [cif_pos ⟨isP_nI (by omega) hj, isP_nI (by omega) hk, hp⟩, cif_neg h, nI_clamp (by omega), nI_clamp (by omega)]
  exact e
theorem bv_n1 {l o : Nat → Int32} {P j k : Nat} {p : Int32} (h : tF l o P (10 * j + k) = 100000000) : (-1000000004 : Int32) = byV l o P j k p := (if_pos (Or.inl h)).symm
theorem bv_n2 {l o : Nat → Int32} {P j k : Nat} {p : Int32} (h : ¬ p ≤ tG l o P (10 * j + k)) : (-1000000004 : Int32) = byV l o P j k p := (if_pos (Or.inr (Int32.not_le.mp h))).symm
theorem bv_w {l o : Nat → Int32} {P j k : Nat} {p : Int32} (h1 : ¬ tF l o P (10 * j + k) = 100000000) (h2 : p ≤ tG l o P (10 * j + k)) (h3 : p < 0) : tG l o P (10 * j + k) = byV l o P j k p := by
  unfold byV
  rw [if_neg (fun q => q.elim h1 (Int32.not_lt.mpr h2)), if_pos h3]
theorem bv_s {l o : Nat → Int32} {P j k z y : Nat} (h1 : ¬ tF l o P (10 * j + k) = 100000000) (h2 : nI z ≤ tG l o P (10 * j + k)) (hz : z ≤ 9) (e : y = st9 l o P k j z) : nI y = byV l o P j k (nI z) := by
  unfold byV
  rw [if_neg (fun q => q.elim h1 (Int32.not_lt.mpr h2)), if_neg (by rw [lt_iff9, nI_toInt (by omega), z0I]; omega), nI_clamp (by omega), e]
/-- the class's number of ways -/
theorem cl_W {l o L : Nat → Int32} {Q j k : Nat} (hT : cT l o L Q) (hj : j < Q) (hk : k < Q) : (clW (L (10 * j + k)) < 0 ∧ tF l o Q (10 * j + k) = 100000000) ∨ (¬ clW (L (10 * j + k)) < 0 ∧ ¬ tF l o Q (10 * j + k) = 100000000 ∧ clW (L (10 * j + k)) = tG l o Q (10 * j + k)) := by
  rcases cl_FN hT.1 hT.2.2 hT.2.1 hj hk with ⟨h1, -, h3⟩ | ⟨h1, -, h3, -, h5⟩
  · have e : clW (L (10 * j + k)) = -1 := if_pos h1
    rw [e]; exact Or.inl ⟨by decide, h3⟩
  · have e : clW (L (10 * j + k)) = tG l o Q (10 * j + k) := (if_neg h1).trans h5
    have b := tG_bd hT.g hT.2.1 hT.2.2 hj hk h3
    rw [e]
    exact Or.inr ⟨by rw [lt_iff9, z0I]; omega, h3, rfl⟩
section clb
variable {l o L : Nat → Int32} {Q j k : Nat} {p : Int32}
theorem cb_n1 (hT : cT l o L Q) (hj : j < Q) (hk : k < Q) (h : clW (L (10 * j + k)) < 0) : (-1000000004 : Int32) = byV l o Q j k p := by
  rcases cl_W hT hj hk with ⟨-, h2⟩ | ⟨h1, -⟩
  · exact bv_n1 h2
  · exact absurd h h1
theorem cb_n2 (hT : cT l o L Q) (hj : j < Q) (hk : k < Q) (h : ¬ clW (L (10 * j + k)) < 0) (h2 : ¬ p ≤ clW (L (10 * j + k))) : (-1000000004 : Int32) = byV l o Q j k p := by
  rcases cl_W hT hj hk with ⟨h1, -⟩ | ⟨-, -, e⟩
  · exact absurd h1 h
  · rw [e] at h2; exact bv_n2 h2
theorem cb_w (hT : cT l o L Q) (hj : j < Q) (hk : k < Q) (h : ¬ clW (L (10 * j + k)) < 0) (h2 : p ≤ clW (L (10 * j + k))) (h3 : ¬ 0 ≤ p) : clW (L (10 * j + k)) = byV l o Q j k p := by
  rcases cl_W hT hj hk with ⟨h1, -⟩ | ⟨-, f, e⟩
  · exact absurd h1 h
  · rw [e] at h2 ⊢; exact bv_w f h2 (Int32.not_le.mp h3)
theorem cb_f (hT : cT l o L Q) (hj : j < Q) (hk : k < Q) (h : ¬ clW (L (10 * j + k)) < 0) : ¬ tF l o Q (10 * j + k) = 100000000 := by
  rcases cl_W hT hj hk with ⟨h1, -⟩ | ⟨-, f, e⟩
  · exact absurd h1 h
  · exact f
theorem cb_g {z : Nat} (hT : cT l o L Q) (hj : j < Q) (hk : k < Q) (h : ¬ clW (L (10 * j + k)) < 0) (hz : z ≤ 9) (h2 : nI z ≤ clW (L (10 * j + k))) : (z : Int) ≤ (tG l o Q (10 * j + k)).toInt ∧ nI z ≤ tG l o Q (10 * j + k) := by
  rcases cl_W hT hj hk with ⟨h1, -⟩ | ⟨-, f, e⟩
  · exact absurd h1 h
  · rw [e] at h2
    refine ⟨?_, h2⟩
    rw [Int32.le_iff_toInt_le, nI_toInt (by omega)] at h2
    exact h2
end clb
section rfb
variable {l o f g : Nat → Int32} {P j k : Nat} {p : Int32}
theorem rb_n1 (hG : fw_Gd (rowL l o) P P f g) (hP : P ≤ 10) (hj : j < P) (hk : k < P) (h : f (10 * j + k) = 100000000) : (-1000000004 : Int32) = byV l o P j k p := bv_n1 ((hG.tF hP hj hk).1.symm.trans h)
theorem rb_n2 (hG : fw_Gd (rowL l o) P P f g) (hP : P ≤ 10) (hj : j < P) (hk : k < P) (h : ¬ f (10 * j + k) = 100000000) (h2 : ¬ p ≤ g (10 * j + k)) : (-1000000004 : Int32) = byV l o P j k p := by
  have t2 : g (10 * j + k) = tG l o P (10 * j + k) := (hG.tF hP hj hk).2 h
  rw [t2] at h2
  exact bv_n2 h2
theorem rb_w (hG : fw_Gd (rowL l o) P P f g) (hP : P ≤ 10) (hj : j < P) (hk : k < P) (h : ¬ f (10 * j + k) = 100000000) (h2 : p ≤ g (10 * j + k)) (h3 : ¬ 0 ≤ p) : g (10 * j + k) = byV l o P j k p := by
  obtain ⟨t1, t2⟩ := hG.tF hP hj hk
  have t2 : g (10 * j + k) = tG l o P (10 * j + k) := t2 h
  rw [t2] at h2 ⊢
  exact bv_w (fun q => h (t1.trans q)) h2 (Int32.not_le.mp h3)
theorem rb_s {z y : Nat} (hG : fw_Gd (rowL l o) P P f g) (hP : P ≤ 10) (hj : j < P) (hk : k < P) (h : ¬ f (10 * j + k) = 100000000) (h2 : nI z ≤ g (10 * j + k)) (hz : z ≤ 9) (e : y = st9 l o P k j z) : nI y = byV l o P j k (nI z) := by
  obtain ⟨t1, t2⟩ := hG.tF hP hj hk
  have t2 : g (10 * j + k) = tG l o P (10 * j + k) := t2 h
  rw [t2] at h2
  exact bv_s (fun q => h (t1.trans q)) h2 hz e
end rfb
theorem all_s {p : Nat → Prop} {i : Nat} (h : ∀ r, r < i → ¬ p r) (h2 : ¬ p i) : ∀ r, r < i + 1 → ¬ p r := fun r hr => by
  by_cases e : r = i
  · subst e; exact h2
  · exact h r (by omega)
/-! the reader -/
def isPL (P : Nat) (x : Int64) : Prop := ∃ k, k < P ∧ x = lN k
theorem isPL.b {P : Nat} {x : Int64} (h : isPL P x) (hP : P ≤ 10) : 0 ≤ x.toInt ∧ x.toInt < (P : Int) := by
  obtain ⟨k, hk, e⟩ := h
  rw [e, lN_toInt (by omega)]
  omega
theorem z64 : (0 : Int64).toInt = 0 := by decide
theorem w64 (a : Int32) : a.toInt64.toInt = a.toInt := Int32.toInt_toInt64 a
theorem xnL1 {P : Nat} {a : Int64} (hP : P ≤ 10) (h : lg_cmp a 0 < 0) : ¬ isPL P a := fun q => by
  have h1 := (xq_lt _ _).mp h
  rw [Int64.lt_iff_toInt_lt, z64] at h1
  have := q.b hP
  omega
theorem xnL2 {P : Nat} {a : Int64} (hP : P ≤ 10) (h : 0 ≤ lg_cmp a (nI P).toInt64) : ¬ isPL P a := fun q => by
  have h1 := (lg_cmp_ge _ _).mp h
  rw [Int64.le_iff_toInt_le, w64, nI_toInt (by omega)] at h1
  have := q.b hP
  omega
theorem nP1 {P : Nat} {x : Int32} (hP : P ≤ 10) (ex : x = nI P - 1) : x.toInt = (P : Int) - 1 := by
  rw [ex, Int32.toInt_sub, nI_toInt (by omega), show (1 : Int32).toInt = 1 by decide, Int.bmod_eq_of_le (by omega) (by omega)]
theorem xnL3 {P : Nat} {a : Int64} {x : Int32} (hP : P ≤ 10) (ex : x = nI P - 1) (h : a < (0 : Int32).toInt64 ∨ x.toInt64 < a) : ¬ isPL P a := fun q => by
  rw [Int64.lt_iff_toInt_lt, Int64.lt_iff_toInt_lt, w64, w64, z0I, nP1 hP ex] at h
  have := q.b hP
  omega
theorem x_inPL {P : Nat} {a : Int64} {x : Int32} (hP : P ≤ 10) (ex : x = nI P - 1) (h1 : ¬ a < (0 : Int32).toInt64) (h2 : ¬ x.toInt64 < a) : ∃ y, y < P ∧ a = lN y := by
  rw [Int64.lt_iff_toInt_lt, w64, z0I] at h1
  rw [Int64.lt_iff_toInt_lt, w64, nP1 hP ex] at h2
  refine ⟨a.toInt.toNat, by omega, ?_⟩
  rw [← Int64.toInt_inj, lN_toInt (by omega)]
  omega
def pl9 (nu : Nat → Int64) (i : Nat) : Nat := (nu i).toInt32.toNatClampNeg
theorem pl_of {nu : Nat → Int64} {i k : Nat} (h : nu i = lN k) (hk : k < 10) : pl9 nu i = k := by
  unfold pl9
  rw [h, lN_i, nI_clamp (by omega)]
theorem isPL.pl {nu : Nat → Int64} {P i : Nat} (h : isPL P (nu i)) (hP : P ≤ 10) : pl9 nu i < P ∧ nu i = lN (pl9 nu i) := by
  obtain ⟨k, hk, e⟩ := h
  rw [pl_of e (by omega)]
  exact ⟨hk, e⟩
def okN9 (o : Nat → Int32) (nu : Nat → Int64) (P i : Nat) : Prop := isPL P (nu i) ∧ (i = 0 ∨ o (10 * pl9 nu (i - 1) + pl9 nu i) = 1)
def sumR (l : Nat → Int32) (nu : Nat → Int64) : Nat → Int32
  | 0 => 0
  | i + 1 => if i = 0 then sumR l nu i else sumR l nu i + l (10 * pl9 nu (i - 1) + pl9 nu i)
theorem lsF_none {p : Nat → Prop} : ∀ n i, (∀ r, i ≤ r → r < i + n → ¬ p r) → lsF p n i = i + n
  | 0, i, _ => rfl
  | n + 1, i, h => by
    rw [lsF, cif_neg (h i (Nat.le_refl _) (by omega)), lsF_none n (i + 1) (fun r h1 h2 => h r (by omega) (by omega))]
    omega
noncomputable def rdA (l o : Nat → Int32) (nu : Nat → Int64) (P z : Nat) : Int32 := if lsF (fun i => ¬ okN9 o nu P i) z 0 < z then nI (lsF (fun i => ¬ okN9 o nu P i) z 0 + 1) else if z < 2 then 1 else if sumR l nu z = tF l o P (10 * pl9 nu 0 + pl9 nu (z - 1)) then 0 else nI (z + 1)
section rd
variable {l o : Nat → Int32} {nu : Nat → Int64} {P z i : Nat}
theorem rd_bad (hi : i < z) (h : ¬ okN9 o nu P i) (hn : ∀ j, j < i → okN9 o nu P j) : nI (i + 1) = rdA l o nu P z := by
  have e : lsF (fun i => ¬ okN9 o nu P i) z 0 = i := lsF_eq h z 0 (Nat.zero_le _) (by omega) (fun r _ h2 q => q (hn r h2))
  unfold rdA
  rw [e, if_pos hi]
theorem rd_all (hn : ∀ j, j < z → okN9 o nu P j) : ¬ lsF (fun i => ¬ okN9 o nu P i) z 0 < z := by
  rw [lsF_none z 0 (fun r _ h2 q => q (hn r (by omega)))]
  omega
theorem rd_small (hz : z < 2) : (1 : Int32) = rdA l o nu P z := by
  by_cases h : lsF (fun i => ¬ okN9 o nu P i) z 0 < z
  · unfold rdA
    rw [if_pos h, show lsF (fun i => ¬ okN9 o nu P i) z 0 = 0 by omega]; rfl
  · unfold rdA
    rw [if_neg h, if_pos hz]
theorem rd_eq (hn : ∀ j, j < z → okN9 o nu P j) (hz : ¬ z < 2) (h : sumR l nu z = tF l o P (10 * pl9 nu 0 + pl9 nu (z - 1))) : (0 : Int32) = rdA l o nu P z := by
  unfold rdA
  rw [if_neg (rd_all hn), if_neg hz, if_pos h]
theorem rd_ne (hn : ∀ j, j < z → okN9 o nu P j) (hz : ¬ z < 2) (h : ¬ sumR l nu z = tF l o P (10 * pl9 nu 0 + pl9 nu (z - 1))) : nI (z + 1) = rdA l o nu P z := by
  unfold rdA
  rw [if_neg (rd_all hn), if_neg hz, if_neg h]
/-- the loop of the reader -/
def RDI (l o : Nat → Int32) (nu : Nat → Int64) (P i : Nat) (u : Int32) : Prop := (∀ j, j < i → okN9 o nu P j) ∧ u = sumR l nu i
theorem RDI.zero : RDI l o nu P 0 0 := ⟨fun j h => absurd h (Nat.not_lt_zero _), rfl⟩
theorem RDI.s {u : Int32} (h : RDI l o nu P i u) (h2 : okN9 o nu P i) : ∀ j, j < i + 1 → okN9 o nu P j := fun j hj => by
  by_cases e : j = i
  · subst e; exact h2
  · exact h.1 j (by omega)
theorem RDI.first {u : Int32} {k : Nat} (h : RDI l o nu P i u) (hi : i = 0) (hk : k < P) (e : nu i = lN k) : RDI l o nu P (i + 1) u := ⟨h.s ⟨⟨k, hk, e⟩, Or.inl hi⟩, h.2.trans (if_pos hi).symm⟩
theorem RDI.more {u : Int32} {k w : Nat} (h : RDI l o nu P i u) (hP : P ≤ 10) (hi : ¬ i = 0) (hk : k < P) (e : nu i = lN k) (hw : w = pl9 nu (i - 1)) (ho : o (10 * w + k) = 1) : RDI l o nu P (i + 1) (u + l (10 * w + k)) := by
  have e2 := pl_of e (show k < 10 by omega)
  refine ⟨h.s ⟨⟨k, hk, e⟩, Or.inr (by rw [e2, ← hw]; exact ho)⟩, ?_⟩
  have q : sumR l nu (i + 1) = sumR l nu i + l (10 * pl9 nu (i - 1) + pl9 nu i) := if_neg hi
  rw [q, e2, ← hw, ← h.2]
theorem RDI.bad1 {u : Int32} (h : RDI l o nu P i u) (hi : i < z) (hn : ¬ isPL P (nu i)) : nI (i + 1) = rdA l o nu P z := rd_bad hi (fun q => hn q.1) h.1
theorem RDI.bad2 {u : Int32} {k w : Nat} (h : RDI l o nu P i u) (hP : P ≤ 10) (hi : i < z) (h0 : ¬ i = 0) (hk : k < P) (e : nu i = lN k) (hw : w = pl9 nu (i - 1)) (ho : ¬ o (10 * w + k) = 1) : nI (i + 1) = rdA l o nu P z := rd_bad hi (fun q => by
  rcases q.2 with q | q
  · exact h0 q
  · rw [pl_of e (show k < 10 by omega), ← hw] at q; exact ho q) h.1
theorem RDI.pv {u : Int32} {j : Nat} (h : RDI l o nu P i u) (hP : P ≤ 10) (hj : j < i) : pl9 nu j < P ∧ nu j = lN (pl9 nu j) := (h.1 j hj).1.pl hP
theorem sum_bd (hL : ∀ j, j < 100 → -99 ≤ (l j).toInt ∧ (l j).toInt ≤ 999) (hP : P ≤ 10) : ∀ {i : Nat}, i ≤ 40 → (∀ j, j < i → okN9 o nu P j) → -(99 * (i : Int)) ≤ (sumR l nu i).toInt ∧ (sumR l nu i).toInt ≤ 999 * (i : Int)
  | 0, _, _ => by show _ ≤ (0 : Int32).toInt ∧ (0 : Int32).toInt ≤ _; rw [z0I]; omega
  | i + 1, hi, h => by
    have ih := sum_bd hL hP (i := i) (by omega) (fun j hj => h j (by omega))
    by_cases c : i = 0
    · have q : sumR l nu (i + 1) = sumR l nu i := if_pos c
      rw [q]; omega
    · have q : sumR l nu (i + 1) = sumR l nu i + l (10 * pl9 nu (i - 1) + pl9 nu i) := if_neg c
      have p1 := ((h i (by omega)).1.pl hP).1
      have p2 := ((h (i - 1) (by omega)).1.pl hP).1
      have b := hL (10 * pl9 nu (i - 1) + pl9 nu i) (by omega)
      rw [q, fw_addI (by omega) (by omega)]
      omega
/-- the sum is far, as the class asks -/
theorem RDI.cf {L : Nat → Int32} {u : Int32} {a b : Nat} (h : RDI l o nu P z u) (hL : ∀ j, j < 100 → -99 ≤ (l j).toInt ∧ (l j).toInt ≤ 999) (hT : cT l o L P) (hz : z ≤ 40) (ha : a < P) (hb : b < P) : u = clN (L (10 * a + b)) ↔ sumR l nu z = tF l o P (10 * a + b) := by
  rw [h.2]
  have b1 := sum_bd hL hT.2.2 hz h.1
  rw [(hT.far ha hb).1]
  by_cases c : tF l o P (10 * a + b) = 100000000
  · rw [nO_p c, c]
    constructor
    · intro q; rw [q, cl_NO] at b1; omega
    · intro q; rw [q, fw_NOT] at b1; omega
  · rw [nO_n c]
theorem RDI.y {L : Nat → Int32} {u : Int32} {a b : Nat} (h : RDI l o nu P z u) (hL : ∀ j, j < 100 → -99 ≤ (l j).toInt ∧ (l j).toInt ≤ 999) (hT : cT l o L P) (hz : z ≤ 40) (hz2 : ¬ z < 2) (ha : a = pl9 nu 0) (hb : b = pl9 nu (z - 1)) (q : u = clN (L (10 * a + b))) : (0 : Int32) = rdA l o nu P z := by
  have p1 := (h.pv hT.2.2 (show 0 < z by omega)).1
  have p2 := (h.pv hT.2.2 (show z - 1 < z by omega)).1
  have r := (h.cf hL hT hz (by omega) (by omega)).mp q
  rw [ha, hb] at r
  exact rd_eq h.1 hz2 r
theorem RDI.n {L : Nat → Int32} {u : Int32} {a b : Nat} (h : RDI l o nu P z u) (hL : ∀ j, j < 100 → -99 ≤ (l j).toInt ∧ (l j).toInt ≤ 999) (hT : cT l o L P) (hz : z ≤ 40) (hz2 : ¬ z < 2) (ha : a = pl9 nu 0) (hb : b = pl9 nu (z - 1)) (q : ¬ u = clN (L (10 * a + b))) : nI (z + 1) = rdA l o nu P z := by
  have p1 := (h.pv hT.2.2 (show 0 < z by omega)).1
  have p2 := (h.pv hT.2.2 (show z - 1 < z by omega)).1
  refine rd_ne h.1 hz2 (fun r => q ((h.cf hL hT hz (by omega) (by omega)).mpr ?_))
  rw [ha, hb]; exact r
theorem RDI.ry {f g : Nat → Int32} {u : Int32} {a b : Nat} (h : RDI l o nu P z u) (hP : P ≤ 10) (hG : fw_Gd (rowL l o) P P f g) (hz2 : ¬ z < 2) (ha : a = pl9 nu 0) (hb : b = pl9 nu (z - 1)) (q : u = f (10 * a + b)) : (0 : Int32) = rdA l o nu P z := by
  have p1 := (h.pv hP (show 0 < z by omega)).1
  have p2 := (h.pv hP (show z - 1 < z by omega)).1
  refine rd_eq h.1 hz2 ?_
  rw [← h.2, q, ha, hb]
  exact (hG.tF hP p1 p2).1
theorem RDI.rn {f g : Nat → Int32} {u : Int32} {a b : Nat} (h : RDI l o nu P z u) (hP : P ≤ 10) (hG : fw_Gd (rowL l o) P P f g) (hz2 : ¬ z < 2) (ha : a = pl9 nu 0) (hb : b = pl9 nu (z - 1)) (q : ¬ u = f (10 * a + b)) : nI (z + 1) = rdA l o nu P z := by
  have p1 := (h.pv hP (show 0 < z by omega)).1
  have p2 := (h.pv hP (show z - 1 < z by omega)).1
  refine rd_ne h.1 hz2 (fun r => q ?_)
  rw [h.2, r, ha, hb]
  exact (hG.tF hP p1 p2).1.symm
theorem cmp_0 {x y : Int64} (h : lg_cmp x y = 0) : x = y := by
  have h1 : ¬ x < y := fun q => by
    have := (xq_lt x y).mpr q
    rw [h] at this
    exact absurd this (by decide)
  have h2 : ¬ y < x := fun q => by
    have := (xq_gt x y).mpr q
    rw [h] at this
    exact absurd this (by decide)
  rw [Int64.lt_iff_toInt_lt] at h1 h2
  exact Int64.toInt_inj.mp (by omega)
theorem RDI.bad3 {u : Int32} {k : Nat} (h : RDI l o nu P i u) (hP : P ≤ 10) (hi : i < z) (h0 : ¬ i = 0) (hk : k < P) (e : nu i = lN k) (hd : o (10 * k + k) = 0) (q : lg_cmp (nu i) (nI (pl9 nu (i - 1))).toInt64 = 0) : nI (i + 1) = rdA l o nu P z := by
  have p2 := (h.pv hP (show i - 1 < i by omega)).1
  have e1 := congrArg Int64.toInt (cmp_0 q)
  rw [e, lN_toInt (by omega), w64, nI_toInt (by omega)] at e1
  have e2 : pl9 nu (i - 1) = k := by omega
  refine h.bad2 hP hi h0 hk e e2.symm (fun w => ?_)
  rw [hd] at w
  exact absurd w (by decide)
theorem hf_0 {k : Nat} (e : nu i = lN k) (hk : k < 10) (hi : i = 0) : i + 1 = 0 ∨ (k = pl9 nu 0 ∧ k = pl9 nu (i + 1 - 1)) := by
  subst hi
  exact Or.inr ⟨(pl_of e hk).symm, (pl_of e hk).symm⟩
theorem hf_s {k y1 y2 : Nat} (h : i = 0 ∨ (y1 = pl9 nu 0 ∧ y2 = pl9 nu (i - 1))) (hi : ¬ i = 0) (e : nu i = lN k) (hk : k < 10) : i + 1 = 0 ∨ (y1 = pl9 nu 0 ∧ k = pl9 nu (i + 1 - 1)) := Or.inr ⟨(h.resolve_left hi).1, (pl_of e hk).symm⟩
end rd
noncomputable def rdR (l o : Nat → Int32) (nu : Nat → Int64) (P z : Nat) (b : Int32) : Int32 := if b = 0 then -1000000006 else cif (Lp l o P) (-1000000005) (rdA l o nu P z)
theorem rd_m {l o : Nat → Int32} {nu : Nat → Int64} {P z : Nat} {b : Int32} (h : b = 0) : (-1000000006 : Int32) = rdR l o nu P z b := (if_pos h).symm
theorem rd_lp {l o : Nat → Int32} {nu : Nat → Int64} {P z : Nat} {b : Int32} (h : ¬ b = 0) (q : Lp l o P) : (-1000000005 : Int32) = rdR l o nu P z b := ((if_neg h).trans (cif_pos q)).symm
theorem rd_y {l o : Nat → Int32} {nu : Nat → Int64} {P z : Nat} {b x : Int32} (h : ¬ b = 0) (q : ¬ Lp l o P) (e : x = rdA l o nu P z) : x = rdR l o nu P z b := e.trans ((if_neg h).trans (cif_neg q)).symm
