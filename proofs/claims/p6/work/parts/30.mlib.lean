/-- which numbers may stand where in the reference's row -/
def okS (j : Nat) (v : Int32) : Prop := (∀ r i, r < 8 → i < 6 → j = 313 + 8 * r + 2 + i → ∃ y, y < 10 ∧ v = nI y) ∧ (∀ r, r < 8 → j = 313 + 8 * r + 1 → ∃ q, q < 7 ∧ v = nI q) ∧ (∀ w i, w < 8 → i < 6 → j = 377 + 9 * w + 3 + i → ∃ y, y < 10 ∧ v = nI y) ∧ (∀ w, w < 8 → j = 377 + 9 * w → ∃ q, q < 7 ∧ v = nI q)
def SI (s : Nat → Int32) : Prop := ∀ j, okS j (s j)
theorem SI.upd {s : Nat → Int32} {k : Nat} {v : Int32} (h : SI s) (hv : okS k v) : SI (upd s k v) := by
  intro j
  by_cases e : j = k
  · subst e; rw [pk_us]; exact hv
  · rw [pk_un e]; exact h j
theorem okS.low {k : Nat} {v : Int32} (h : k < 313) : okS k v := ⟨fun r i _ _ e => by omega, fun r _ e => by omega, fun r i _ _ e => by omega, fun r _ e => by omega⟩
theorem okS.kind {k r : Nat} {v : Int32} (h : r < 8) (e : k = 313 + 8 * r) : okS k v := ⟨fun r i _ _ e => by omega, fun r _ e => by omega, fun r i _ _ e => by omega, fun r _ e => by omega⟩
theorem okS.rl {k r q : Nat} (h : r < 8) (e : k = 313 + 8 * r + 1) (hq : q < 7) : okS k (nI q) := ⟨fun r i _ _ e => by omega, fun r _ e => ⟨q, hq, rfl⟩, fun r i _ _ e => by omega, fun r _ e => by omega⟩
theorem okS.rs {k r i y : Nat} (h : r < 8) (hi : i < 6) (e : k = 313 + 8 * r + 2 + i) (hy : y < 10) : okS k (nI y) := ⟨fun r i _ _ e => ⟨y, hy, rfl⟩, fun r _ e => by omega, fun r i _ _ e => by omega, fun r _ e => by omega⟩
theorem okS.wl {k w q : Nat} (h : w < 8) (e : k = 377 + 9 * w) (hq : q < 7) : okS k (nI q) := ⟨fun r i _ _ e => by omega, fun r _ e => by omega, fun r i _ _ e => by omega, fun r _ e => ⟨q, hq, rfl⟩⟩
theorem okS.wt {k w : Nat} {v : Int32} (h : w < 8) (e : k = 377 + 9 * w + 1 ∨ k = 377 + 9 * w + 2) : okS k v := ⟨fun r i _ _ e => by omega, fun r _ e => by omega, fun r i _ _ e => by omega, fun r _ e => by omega⟩
theorem okS.ws {k w i y : Nat} (h : w < 8) (hi : i < 6) (e : k = 377 + 9 * w + 3 + i) (hy : y < 10) : okS k (nI y) := ⟨fun r i _ _ e => by omega, fun r _ e => by omega, fun r i _ _ e => ⟨y, hy, rfl⟩, fun r _ e => by omega⟩
theorem SI.rs {s : Nat → Int32} (h : SI s) {j : Nat} (r i : Nat) (hr : r < 8) (hi : i < 6) (e : j = 313 + 8 * r + 2 + i) : ∃ y, y < 10 ∧ s j = nI y := (h j).1 r i hr hi e
theorem SI.rl {s : Nat → Int32} (h : SI s) {j : Nat} (r : Nat) (hr : r < 8) (e : j = 313 + 8 * r + 1) : ∃ y, y < 7 ∧ s j = nI y := (h j).2.1 r hr e
theorem SI.ws {s : Nat → Int32} (h : SI s) {j : Nat} (w i : Nat) (hr : w < 8) (hi : i < 6) (e : j = 377 + 9 * w + 3 + i) : ∃ y, y < 10 ∧ s j = nI y := (h j).2.2.1 w i hr hi e
theorem SI.wl {s : Nat → Int32} (h : SI s) {j : Nat} (w : Nat) (hr : w < 8) (e : j = 377 + 9 * w) : ∃ y, y < 7 ∧ s j = nI y := (h j).2.2.2 w hr e
theorem SI.zero : SI (fun _ => 0) := fun j => ⟨fun _ _ _ _ _ => ⟨0, by decide, rfl⟩, fun _ _ _ => ⟨0, by decide, rfl⟩, fun _ _ _ _ _ => ⟨0, by decide, rfl⟩, fun _ _ _ => ⟨0, by decide, rfl⟩⟩
theorem SI.same {s t : Nat → Int32} (h : SI s) (e : ∀ j, j < 449 → t j = s j) : SI t := by
  intro j
  by_cases q : j < 449
  · rw [e j q]; exact h j
  · exact ⟨fun r i _ _ e => by omega, fun r _ e => by omega, fun r i _ _ e => by omega, fun r _ e => by omega⟩
/-- the least miles -/
def okM (j : Nat) (v : Int32) : Prop := 13 ≤ j → j < 113 → -99 ≤ v.toInt ∧ v.toInt ≤ 999
def MI (s : Nat → Int32) : Prop := ∀ j, okM j (s j)
theorem MI.upd {s : Nat → Int32} {k : Nat} {v : Int32} (h : MI s) (hv : okM k v) : MI (upd s k v) := by
  intro j
  by_cases e : j = k
  · subst e; rw [pk_us]; exact hv
  · rw [pk_un e]; exact h j
theorem okM.out {k : Nat} {v : Int32} (h : k < 13 ∨ 113 ≤ k) : okM k v := fun _ _ => by omega
theorem MI.zero : MI (fun _ => 0) := fun j _ _ => by show -99 ≤ (0 : Int32).toInt ∧ (0 : Int32).toInt ≤ 999; decide
/-- a round that is there has one stop or more -/
def okR (j : Nat) (v : Int32) : Prop := ∀ r, r < 8 → j = 313 + 8 * r + 1 → ∃ q, 1 ≤ q ∧ q < 7 ∧ v = nI q
def RI (R : Nat) (s : Nat → Int32) : Prop := R ≤ 8 → ∀ r, r < R → ∃ q, 1 ≤ q ∧ q < 7 ∧ s (313 + 8 * r + 1) = nI q
theorem RI.upd {R k : Nat} {s : Nat → Int32} {v : Int32} (h : RI R s) (hv : okR k v) : RI R (upd s k v) := by
  intro hR r hr
  by_cases e : 313 + 8 * r + 1 = k
  · subst e; rw [pk_us]; exact hv r (by omega) rfl
  · rw [pk_un e]; exact h hR r hr
theorem RI.more {R : Nat} {s : Nat → Int32} (h : RI R s) (h1 : ∃ q, 1 ≤ q ∧ q < 7 ∧ s (313 + 8 * R + 1) = nI q) : RI (R + 1) s := by
  intro hR r hr
  by_cases e : r = R
  · subst e; exact h1
  · exact h (by omega) r (by omega)
theorem RI.zero {s : Nat → Int32} : RI 0 s := fun _ r hr => by omega
theorem RI.same {R : Nat} {s t : Nat → Int32} (h : RI R s) (e : ∀ j, j < 449 → t j = s j) : RI R t := fun hR r hr => by rw [e _ (by omega)]; exact h hR r hr
theorem SI.rs2 {s : Nat → Int32} (h : SI s) {j : Nat} (r i : Nat) (hr : r < 8) (hi : i < 6) (e : j = 313 + 8 * r + 2 + i) : ∃ y, s j = nI y ∧ y < 10 := by
  obtain ⟨y, a, b⟩ := SI.rs h r i hr hi e; exact ⟨y, b, a⟩
theorem SI.rl2 {s : Nat → Int32} (h : SI s) {j : Nat} (r : Nat) (hr : r < 8) (e : j = 313 + 8 * r + 1) : ∃ y, s j = nI y ∧ y < 7 := by
  obtain ⟨y, a, b⟩ := SI.rl h r hr e; exact ⟨y, b, a⟩
theorem SI.ws2 {s : Nat → Int32} (h : SI s) {j : Nat} (w i : Nat) (hr : w < 8) (hi : i < 6) (e : j = 377 + 9 * w + 3 + i) : ∃ y, s j = nI y ∧ y < 10 := by
  obtain ⟨y, a, b⟩ := SI.ws h w i hr hi e; exact ⟨y, b, a⟩
theorem SI.wl2 {s : Nat → Int32} (h : SI s) {j : Nat} (w : Nat) (hr : w < 8) (e : j = 377 + 9 * w) : ∃ y, s j = nI y ∧ y < 7 := by
  obtain ⟨y, a, b⟩ := SI.wl h w hr e; exact ⟨y, b, a⟩
theorem RI.len {R : Nat} {s : Nat → Int32} (h : RI R s) {j : Nat} (r : Nat) (hR : R ≤ 8) (hr : r < R) (e : j = 313 + 8 * r + 1) : ∃ q, s j = nI q ∧ 1 ≤ q ∧ q < 7 := by
  obtain ⟨y, a, b, c⟩ := h hR r hr; subst e; exact ⟨y, c, a, b⟩
theorem xm1 (x : Int32) : x + (-1) = x - 1 := (Int32.sub_eq_add_neg ..).symm
theorem MI.same {s t : Nat → Int32} (h : MI s) (e : ∀ j, j < 449 → t j = s j) : MI t := fun j h1 h2 => by rw [e j (by omega)]; exact h j h1 h2
theorem x_pl {a x : Int32} {P : Nat} (hP : P ≤ 10) (ex : x = nI P - 1) (h1 : ¬ a < 0) (h2 : ¬ x < a) : ∃ k : Nat, (1 : Int32) = 1 ∧ a = nI k ∧ k < P := by
  obtain ⟨k, hk, rfl⟩ := nI_of h1
  refine ⟨k, rfl, rfl, ?_⟩
  subst ex
  by_cases h0 : P = 0
  · subst h0
    exfalso
    apply h2
    rw [Int32.lt_iff_toInt_lt, nI_toInt hk]
    have : (nI 0 - 1).toInt = -1 := by decide
    omega
  · have e : nI P - 1 = nI (P - 1) := pk_sub (a := P) (b := 1) (by omega)
    rw [e] at h2
    have := xn_nlt (a := P - 1) (b := k) (by omega) hk h2
    omega
theorem x_ends {a : Int32} (h1 : ¬ a < (-99)) (h2 : ¬ 999 < a) : -99 ≤ a.toInt ∧ a.toInt ≤ 999 := by
  rw [Int32.lt_iff_toInt_lt] at h1 h2
  have e1 : (-99 : Int32).toInt = -99 := by decide
  have e2 : (999 : Int32).toInt = 999 := by decide
  omega
theorem x_endsL {a : Int64} (h1 : ¬ a < (-99 : Int32).toInt64) (h2 : ¬ (999 : Int32).toInt64 < a) : -99 ≤ a.toInt32.toInt ∧ a.toInt32.toInt ≤ 999 := by
  rw [Int64.lt_iff_toInt_lt] at h1 h2
  have e1 : ((-99 : Int32).toInt64).toInt = -99 := by decide
  have e2 : ((999 : Int32).toInt64).toInt = 999 := by decide
  have e3 : a.toInt32.toInt = a.toInt := by
    rw [Int64.toInt_toInt32, Int.bmod_eq_of_le (by omega) (by omega)]
  omega
theorem FR.lb {P : Nat} {s e l u o rn rp k wn wp t sl : Nat → Int32} (h : FR P s e l u o rn rp k wn wp t sl) (hm : MI s) {x : Nat} (hx : x < 100) : -99 ≤ (l x).toInt ∧ (l x).toInt ≤ 999 := by
  have h1 := hm (13 + x) (by omega) (by omega)
  rw [(h.2.1 x hx).1] at h1
  exact h1
