/-! what ends are: of a way that is there; no way leads to where it begins -/
def EI (l u o : Nat → Int32) : Prop := (∀ j, j < 100 → ¬ o j = 0 → ends (l j) (u j)) ∧ ∀ p, p < 10 → o (10 * p + p) = 0
theorem EI.zero : EI (fun _ => 0) (fun _ => 0) (fun _ => 0) := ⟨fun _ _ h => absurd rfl h, fun _ _ => rfl⟩
theorem EI.put {l u o : Nat → Int32} {a b : Nat} {lo hi : Int32} (h : EI l u o) (ha : a < 10) (hb : b < 10) (hn : a ≠ b) (he : ends lo hi) : EI (upd l (10 * a + b) lo) (upd u (10 * a + b) hi) (upd o (10 * a + b) 1) := by
  refine ⟨fun j hj h0 => ?_, fun p hp => ?_⟩
  · by_cases q : j = 10 * a + b
    · subst q; rw [pk_us, pk_us]; exact he
    · rw [pk_un q] at h0; rw [pk_un q, pk_un q]; exact h.1 j hj h0
  · rw [pk_un (by omega)]; exact h.2 p hp
theorem isP_of {P : Nat} {a : Int32} (hP : P ≤ 10) (h : isP P a) : ∃ k, k < P ∧ a = nI k := by
  obtain ⟨k, hk, rfl⟩ := nI_of h.1
  exact ⟨k, xn_lt (a := k) (b := P) hk (by omega) h.2, rfl⟩
theorem EI.wy {l u o : Nat → Int32} {P : Nat} {a b lo hi : Int32} (h : EI l u o) (hP : P ≤ 10) : EI (wyF P a b lo hi lo l) (wyF P a b lo hi hi u) (wyF P a b lo hi 1 o) := by
  unfold wyF
  by_cases c : okWy P a b lo hi
  · rw [if_pos c, if_pos c, if_pos c]
    obtain ⟨j, hj, rfl⟩ := isP_of hP c.1.1
    obtain ⟨k, hk, rfl⟩ := isP_of hP c.1.2.1
    rw [at10_nI (by omega) (by omega)]
    exact h.put (by omega) (by omega) (fun e => c.1.2.2 (by rw [e])) c.2
  · rw [if_neg c, if_neg c, if_neg c]; exact h
theorem EI.sh {l u o : Nat → Int32} {P : Nat} {a b v : Int32} (h : EI l u o) : EI l u (shF P a b v o) := by
  unfold shF
  by_cases c : twoP P a b ∧ ¬ o (at10 a b) = 0
  · rw [if_pos c]
    refine ⟨fun j hj h0 => ?_, fun p hp => ?_⟩
    · by_cases q : j = at10 a b
      · subst q; exact h.1 _ hj c.2
      · rw [pk_un q] at h0; exact h.1 j hj h0
    · by_cases q : 10 * p + p = at10 a b
      · exact absurd (q ▸ h.2 p hp) c.2
      · rw [pk_un q]; exact h.2 p hp
  · rw [if_neg c]; exact h
theorem EI_nw {o : Nat → Int32} {way : Nat → Nat} {n i : Nat} {tt sl : Int32} {S : LSr} (h : EI S.1 S.2.1 o) (q : nwOk way n i tt sl S) : EI (nwS way n i tt sl S).1 (nwS way n i tt sl S).2.1 o := by
  unfold nwS
  by_cases c : lnT way (way i) n = 1
  · rw [if_pos c]
    have he := q c
    refine ⟨fun j hj h0 => ?_, h.2⟩
    show ends (upd S.1 (way i) (lnY way n i tt sl S.1 S.2.1) j) (upd S.2.1 (way i) (lnX way n i tt sl S.1 S.2.1) j)
    by_cases e : j = way i
    · subst e; rw [pk_us, pk_us]; exact he
    · rw [pk_un e, pk_un e]; exact h.1 j hj h0
  · rw [if_neg c]; exact h
theorem EI_blv {o : Nat → Int32} {way : Nat → Nat} {n : Nat} {tt sl : Int32} : ∀ (m i : Nat) (S : LSr), EI S.1 S.2.1 o → EI (blv way n tt sl m i S).2.1 (blv way n tt sl m i S).2.2.1 o
  | 0, _, S, h => h
  | m + 1, i, S, h => by
    rw [blv]
    by_cases c : nwOk way n i tt sl S
    · rw [cif_pos c]; exact EI_blv m (i + 1) _ (EI_nw h c)
    · rw [cif_neg c]; exact h
theorem EI_bel {o wn wp t sl : Nat → Int32} {k : Nat} {S : LSr} (h : EI S.1 S.2.1 o) : EI (bel o wn wp t sl k S).2.1 (bel o wn wp t sl k S).2.2.1 o := by
  unfold bel
  by_cases c : ∀ i, i < wyN wn k → ¬ o (wyO wp k i) = 0
  · rw [cif_pos c]; exact EI_blv _ _ _ h
  · rw [cif_neg c]; exact h
theorem EI_rnd {o wn wp t sl : Nat → Int32} : ∀ (m k : Nat) (S : LSr) (y : Int32), EI S.1 S.2.1 o → EI (rnd o wn wp t sl m k S y).1.1 (rnd o wn wp t sl m k S y).1.2.1 o
  | 0, _, S, _, h => h
  | m + 1, k, S, y, h => by
    rw [rnd]; exact EI_rnd m (k + 1) _ _ (EI_bel h)
theorem EI_lrn {o wn wp t sl : Nat → Int32} {W : Nat} : ∀ (m c : Nat) (l u : Nat → Int32) (y : Int32), EI l u o → EI (lrn o wn wp t sl W m c l u y).2.1 (lrn o wn wp t sl W m c l u y).2.2.1 o
  | 0, _, _, _, _, h => h
  | m + 1, c, l, u, y, h => by
    have h1 := EI_rnd (wn := wn) (wp := wp) (t := t) (sl := sl) W 0 (l, u, 0) y h
    rw [lrn]
    by_cases q : (rnd o wn wp t sl W 0 (l, u, 0) y).1.2.2 = 0
    · rw [cif_pos q]; exact h1
    · rw [cif_neg q]; exact EI_lrn m (c + 1) _ _ _ h1
theorem x_l2i {v : Int64} (h1 : ¬ v < (-99 : Int64)) (h2 : ¬ (999 : Int64) < v) : ends v.toInt32 v.toInt32 := by
  rw [Int64.lt_iff_toInt_lt] at h1 h2
  have e1 : (-99 : Int64).toInt = -99 := by decide
  have e2 : (999 : Int64).toInt = 999 := by decide
  have e3 : v.toInt32.toInt = v.toInt := by
    rw [Int64.toInt_toInt32, Int.bmod_eq_of_le (by omega) (by omega)]
  have f1 : (-99 : Int32).toInt = -99 := by decide
  have f2 : (999 : Int32).toInt = 999 := by decide
  refine ⟨fun q => ?_, fun q => ?_, fun q => ?_⟩ <;> (rw [lt_iff9] at q; omega)
theorem EI_ly {nu : Nat → Int64} {P x : Nat} {l u o : Nat → Int32} (hP : P ≤ 10) (hx : x < 10) (h : EI l u o) : ∀ n, EI (lyF nu P x l n) (lyF nu P x u n) (lyO nu P x o n)
  | 0 => h
  | n + 1 => by
    have ih := EI_ly (nu := nu) hP hx h n
    by_cases c : lyOk nu P x n
    · rw [(ly_y c).1, (ly_y c).1, (ly_y c).2.1]
      exact ih.put hx (by have := c.1; omega) (fun e => c.2.1 e.symm) (x_l2i c.2.2.1 c.2.2.2)
    · rw [(ly_n c).1, (ly_n c).1, (ly_n c).2.1]; exact ih
theorem EI.la {nu : Nat → Int64} {P z : Nat} {b p : Int32} {l u o : Nat → Int32} (h : EI l u o) (hP : P ≤ 10) : EI (laF P z b p nu l) (laF P z b p nu u) (laO P z b p nu o) := by
  unfold laF laO
  by_cases c : okLa P b p
  · rw [if_pos c, if_pos c, if_pos c]
    obtain ⟨k, hk, rfl⟩ := isP_of hP c.2
    rw [nI_clamp (by omega)]
    exact EI_ly hP (by omega) h z
  · rw [if_neg c, if_neg c, if_neg c]; exact h
theorem EI.un {b : Int32} {l u o l2 u2 o2 : Nat → Int32} (h : EI l u o) (h2 : EI l2 u2 o2) : EI (unF b l l2) (unF b u u2) (unF b o o2) := by
  unfold unF
  by_cases c : b = 0
  · rw [if_pos c, if_pos c, if_pos c]; exact h
  · rw [if_neg c, if_neg c, if_neg c]; exact h2
theorem cif_inr {p : Prop} {x : PR} {u v : Nat} (h : cif p x (.inl u) = .inr v) : p ∧ x = .inr v := by
  by_cases c : p
  · rw [cif_pos c] at h; exact ⟨c, h⟩
  · rw [cif_neg c] at h; cases h
theorem spM_inr {b : Nat → Int32} {z u v : Nat} {lo hi : Int32} {k : Nat → PR} (h : spM b z u lo hi k = .inr v) : okMi b z u lo hi ∧ k (nx b z (mSt b z u)) = .inr v := cif_inr h
theorem spBk_inr {b : Nat → Int32} {z u v : Nat} (h : spBk b z u = .inr v) (h5 : tW b z u 5) : okMi b z (nx b z u) (-99) 999 := by
  unfold spBk at h
  rw [cif_pos h5] at h
  exact (spM_inr h).1
theorem spWay_inr {b : Nat → Int32} {z u P v : Nat} (hP : P ≤ 10) (h : spWay b z u P = .inr v) : wyFr b z u < P ∧ wyTo b z u < P ∧ ¬ wyTo b z u = wyFr b z u ∧ okMi b z (wyM1 b z u) (-99) 999 ∧ (tW b z (wyV1 b z u) 4 → okMi b z (nx b z (wyV1 b z u)) (mV b z (wyM1 b z u)) 999) ∧ (tW b z (wyV2 b z u) 5 → okMi b z (nx b z (wyV2 b z u)) (-99) 999) := by
  unfold spWay at h
  obtain ⟨h1, h2⟩ := cif_inr h
  unfold spWay1 at h2
  obtain ⟨h3, h4⟩ := cif_inr h2
  unfold spWay2 at h4
  obtain ⟨h5, h6⟩ := spM_inr h4
  refine ⟨okNu_lt hP h1, okNu_lt hP h3.1, h3.2, h5, ?_, ?_⟩
  · intro h7
    unfold spTo at h6
    rw [cif_pos h7] at h6
    exact (spM_inr h6).1
  · intro h8
    by_cases h7 : tW b z (wyV1 b z u) 4
    · unfold spTo at h6
      rw [cif_pos h7] at h6
      rw [wyV2_p h7] at h8 ⊢
      exact spBk_inr (spM_inr h6).2 h8
    · unfold spTo at h6
      rw [cif_neg h7] at h6
      rw [wyV2_n h7] at h8 ⊢
      exact spBk_inr h6 h8
theorem ends_mi {b : Nat → Int32} {z u : Nat} (h : okMi b z u (-99) 999) : ends (mV b z u) (mV b z u) := ⟨h.2.1, Int32.lt_irrefl, h.2.2⟩
theorem EI_st {b : Nat → Int32} {z u P W v : Nat} {l u2 o : Nat → Int32} (h : EI l u2 o) (hP : P ≤ 10) (hi : spItem b z u P W = .inr v) : EI (stL b z u P W l) (stU b z u P W u2) (stO b z u P W o) := by
  unfold stL stU stO
  by_cases w1 : tW b z u 1
  · rw [cif_pos w1, cif_pos w1, cif_pos w1]
    have w0 : ¬ tW b z u 0 := tW_ne w1 (show xLen.getD 1 0 ≠ xLen.getD 0 0 by decide)
    unfold spItem at hi
    rw [cif_neg w0, cif_pos w1] at hi
    obtain ⟨h1, h2, h3, h4, h5, h6⟩ := spWay_inr hP hi
    have he : ends (mV b z (wyM1 b z u)) (wyHi b z u) := by
      by_cases h7 : tW b z (wyV1 b z u) 4
      · rw [← wyHi_p h7]
        have q := h5 h7
        exact ⟨h4.2.1, q.2.1, q.2.2⟩
      · rw [← wyHi_n h7]; exact ends_mi h4
    unfold wy2
    by_cases w5 : tW b z (wyV2 b z u) 5
    · rw [cif_pos w5, cif_pos w5, cif_pos w5]
      exact (h.put (by omega) (by omega) (fun e => h3 e.symm) he).put (by omega) (by omega) h3 (ends_mi (h6 w5))
    · rw [cif_neg w5, cif_neg w5, cif_neg w5]
      exact h.put (by omega) (by omega) (fun e => h3 e.symm) he
  · rw [cif_neg w1, cif_neg w1, cif_neg w1]; exact h
theorem spP_le {b : Nat → Int32} {z u P W v : Nat} (hP : P ≤ 10) (hi : spItem b z u P W = .inr v) : spP b z u P ≤ 10 := by
  unfold spP
  by_cases w0 : tW b z u 0
  · rw [cif_pos w0]
    unfold spItem at hi
    rw [cif_pos w0] at hi
    unfold spPl at hi
    have := (cif_inr hi).1
    omega
  · rw [cif_neg w0]; exact hP
theorem EI_lz {b : Nat → Int32} {z : Nat} : ∀ (q u P W : Nat) (l u2 o : Nat → Int32), EI l u2 o → P ≤ 10 → EI (spLz b z (stL b z) q u P W l) (spLz b z (stU b z) q u P W u2) (spLz b z (stO b z) q u P W o)
  | 0, _, _, _, _, _, _, h, _ => h
  | q + 1, u, P, W, l, u2, o, h, hP => by
    rw [spLz, spLz, spLz]
    cases hi : spItem b z u P W with
    | inl v => exact h
    | inr v =>
      have h1 := EI_st (W := W) h hP hi
      show EI (cif (tK b z v = 3) (spLz b z (stL b z) q (nx b z v) (spP b z u P) (spW b z u W) (stL b z u P W l)) (stL b z u P W l)) (cif (tK b z v = 3) (spLz b z (stU b z) q (nx b z v) (spP b z u P) (spW b z u W) (stU b z u P W u2)) (stU b z u P W u2)) (cif (tK b z v = 3) (spLz b z (stO b z) q (nx b z v) (spP b z u P) (spW b z u W) (stO b z u P W o)) (stO b z u P W o))
      by_cases c : tK b z v = 3
      · rw [cif_pos c, cif_pos c, cif_pos c]; exact EI_lz q _ _ _ _ _ _ h1 (spP_le hP hi)
      · rw [cif_neg c, cif_neg c, cif_neg c]; exact h1
theorem EI.ld {b : Nat → Int32} {z P W : Nat} {l u o : Nat → Int32} {r : Nat ⊕ (Nat × Nat × Nat)} (h : EI l u o) (hP : P ≤ 10) : EI (spLF r l (spLz b z (stL b z) 120 0 P W l)) (spLF r u (spLz b z (stU b z) 120 0 P W u)) (spLF r o (spLz b z (stO b z) 120 0 P W o)) := by
  cases r with
  | inl v => exact h
  | inr x => exact EI_lz 120 0 P W l u o h hP
/-! counts -/
def ctW (o : Nat → Int32) : Nat → Nat
  | 0 => 0
  | n + 1 => if o n = 0 then ctW o n else ctW o n + 1
def cuW (l u o : Nat → Int32) : Nat → Nat
  | 0 => 0
  | n + 1 => if ¬ o n = 0 ∧ l n < u n then cuW l u o n + 1 else cuW l u o n
def abW (l u o : Nat → Int32) : Nat → Int32
  | 0 => 0
  | n + 1 => if o n = 0 then abW l u o n else abW l u o n + (u n - l n)
def suE (e : Nat → Int32) : Nat → Int32
  | 0 => 0
  | n + 1 => suE e n + e n
theorem ctW_z {o : Nat → Int32} {n : Nat} (h : o n = 0) : ctW o (n + 1) = ctW o n := if_pos h
theorem ctW_y {o : Nat → Int32} {n : Nat} (h : ¬ o n = 0) : ctW o (n + 1) = ctW o n + 1 := if_neg h
theorem cuW_y {l u o : Nat → Int32} {n : Nat} (h : ¬ o n = 0) (h2 : l n < u n) : cuW l u o (n + 1) = cuW l u o n + 1 := if_pos ⟨h, h2⟩
theorem cuW_n {l u o : Nat → Int32} {n : Nat} (h : ¬ (¬ o n = 0 ∧ l n < u n)) : cuW l u o (n + 1) = cuW l u o n := if_neg h
theorem abW_z {l u o : Nat → Int32} {n : Nat} (h : o n = 0) : abW l u o (n + 1) = abW l u o n := if_pos h
theorem abW_y {l u o : Nat → Int32} {n : Nat} (h : ¬ o n = 0) : abW l u o (n + 1) = abW l u o n + (u n - l n) := if_neg h
theorem ends_sub {a b : Int32} (h : ends a b) : (b - a).toInt = b.toInt - a.toInt := by
  have h1 := ends_lo h
  have h2 := h.2.1
  have h3 := h.2.2
  rw [lt_iff9] at h2 h3
  have e2 : (999 : Int32).toInt = 999 := by decide
  rw [Int32.toInt_sub, Int.bmod_eq_of_le (by omega) (by omega)]
theorem ends_ge {a b : Int32} (h : ends a b) : 0 ≤ b - a := by
  have h2 := h.2.1
  rw [lt_iff9] at h2
  rw [Int32.le_iff_toInt_le, ends_sub h, z0I]
  omega
theorem ends_gt {a b : Int32} (h : ends a b) (q : ¬ b - a ≤ 0) : a < b := by
  rw [Int32.le_iff_toInt_le, ends_sub h, z0I] at q
  rw [lt_iff9]; omega
theorem ends_eq {a b : Int32} (h : ends a b) (q : b - a ≤ 0) : ¬ a < b ∧ b - a = 0 := by
  have h2 := h.2.1
  rw [lt_iff9] at h2
  rw [Int32.le_iff_toInt_le, ends_sub h, z0I] at q
  refine ⟨fun w => ?_, ?_⟩
  · rw [lt_iff9] at w; omega
  · apply Int32.toInt_inj.mp
    rw [ends_sub h, z0I]; omega
def knR (w : Int32) (l u o : Nat → Int32) : Int32 := if w = 0 then nI (ctW o 100) else if w = 1 then nI (cuW l u o 100) else if w = 2 then abW l u o 100 else -1000000001
theorem kn_0 {w : Int32} {l u o : Nat → Int32} (h : w = 0) : nI (ctW o 100) = knR w l u o := (if_pos h).symm
theorem kn_1 {w : Int32} {l u o : Nat → Int32} (h : ¬ w = 0) (h1 : w = 1) : nI (cuW l u o 100) = knR w l u o := ((if_neg h).trans (if_pos h1)).symm
theorem kn_2 {w : Int32} {l u o : Nat → Int32} (h : ¬ w = 0) (h1 : ¬ w = 1) (h2 : w = 2) : abW l u o 100 = knR w l u o := ((if_neg h).trans ((if_neg h1).trans (if_pos h2))).symm
theorem kn_b {w : Int32} {l u o : Nat → Int32} (h : ¬ w = 0) (h1 : ¬ w = 1) (h2 : ¬ w = 2) : (-1000000001 : Int32) = knR w l u o := ((if_neg h).trans ((if_neg h1).trans (if_neg h2))).symm
theorem kn_o {w : Int32} {l u o : Nat → Int32} (h : w < 0 ∨ 2 < w) : (-1000000001 : Int32) = knR w l u o := by
  refine kn_b ?_ ?_ ?_ <;> (intro e; subst e; revert h; decide)
theorem x_w2 {w : Int32} (h1 : ¬ w < 0) (h2 : ¬ 2 < w) (h3 : ¬ w = 0) (h4 : ¬ w = 1) : w = 2 := by
  obtain ⟨k, hk, rfl⟩ := nI_of h1
  have h5 := xn_nlt (a := 2) (b := k) (by omega) hk h2
  rcases (show k = 0 ∨ k = 1 ∨ k = 2 by omega) with rfl | rfl | rfl
  · exact absurd rfl h3
  · exact absurd rfl h4
  · rfl
def coR (w : Int32) (P R W z : Nat) (e o : Nat → Int32) : Int32 := if w = 0 then nI P else if w = 1 then nI (ctW o 100) else if w = 2 then nI R else if w = 3 then nI W else if w = 4 then nI z else if w = 5 then suE e P else -1000000001
theorem co_o {w : Int32} {P R W z : Nat} {e o : Nat → Int32} (h : w.toInt < 0 ∨ 5 < w.toInt) : (-1000000001 : Int32) = coR w P R W z e o := by
  have k : ∀ n : Nat, n ≤ 5 → ¬ w = nI n := fun n hn q => by
    rw [q, nI_toInt (by omega)] at h; omega
  unfold coR
  rw [if_neg (show ¬ w = 0 from k 0 (by omega)), if_neg (show ¬ w = 1 from k 1 (by omega)), if_neg (show ¬ w = 2 from k 2 (by omega)), if_neg (show ¬ w = 3 from k 3 (by omega)), if_neg (show ¬ w = 4 from k 4 (by omega)), if_neg (show ¬ w = 5 from k 5 (by omega))]
/-! paper -/
def paR (P : Nat) (a b : Int32) (l o : Nat → Int32) : Int32 := if twoP P a b then (if o (at10 a b) = 1 ∧ o (at10 b a) = 1 then (l (at10 a b) + l (at10 b a)) / 2 else -1000000004) else -1000000001
theorem pa_b {P : Nat} {a b : Int32} {l o : Nat → Int32} (h : ¬ twoP P a b) : (-1000000001 : Int32) = paR P a b l o := (if_neg h).symm
theorem pa_n {P j k : Nat} {l o : Nat → Int32} (hP : P ≤ 10) (hj : j < P) (hk : k < P) (hn : j ≠ k) (h : ¬ (o (10 * j + k) = 1 ∧ o (10 * k + j) = 1)) : (-1000000004 : Int32) = paR P (nI j) (nI k) l o := by
  unfold paR; rw [if_pos (twoP_nI hP hj hk hn), at10_nI (by omega) (by omega), at10_nI (by omega) (by omega), if_neg h]
theorem pa_y {P j k : Nat} {l o : Nat → Int32} (hP : P ≤ 10) (hj : j < P) (hk : k < P) (hn : j ≠ k) (h : o (10 * j + k) = 1 ∧ o (10 * k + j) = 1) : (l (10 * j + k) + l (10 * k + j)) / 2 = paR P (nI j) (nI k) l o := by
  unfold paR; rw [if_pos (twoP_nI hP hj hk hn), at10_nI (by omega) (by omega), at10_nI (by omega) (by omega), if_pos h]
/-- the most off paper: of one place, of all -/
def wsA (l : Nat → Int32) (a b : Nat) : Int32 := if l (10 * a + b) - (l (10 * a + b) + l (10 * b + a)) / 2 < 0 then 0 - (l (10 * a + b) - (l (10 * a + b) + l (10 * b + a)) / 2) else l (10 * a + b) - (l (10 * a + b) + l (10 * b + a)) / 2
abbrev boB (o : Nat → Int32) (a b : Nat) : Prop := a ≠ b ∧ o (10 * a + b) = 1 ∧ o (10 * b + a) = 1
def wsI (l o : Nat → Int32) (a : Nat) (u : Int32) : Nat → Int32
  | 0 => u
  | n + 1 => if boB o a n then (if wsI l o a u n < wsA l a n then wsA l a n else wsI l o a u n) else wsI l o a u n
def wsO (l o : Nat → Int32) (P : Nat) : Nat → Int32
  | 0 => -1
  | n + 1 => wsI l o n (wsO l o P n) P
theorem wsI_y {l o : Nat → Int32} {a n : Nat} {u : Int32} (h : boB o a n) : wsI l o a u (n + 1) = if wsI l o a u n < wsA l a n then wsA l a n else wsI l o a u n := if_pos h
theorem wsI_n {l o : Nat → Int32} {a n : Nat} {u : Int32} (h : ¬ boB o a n) : wsI l o a u (n + 1) = wsI l o a u n := if_neg h
def wsR (l o : Nat → Int32) (P : Nat) : Int32 := if wsO l o P P < 0 then -1000000004 else wsO l o P P
theorem x_abs {x : Int32} : (if 0 ≤ x then x else 0 - x) = if x < 0 then 0 - x else x := by
  by_cases h : x < 0
  · rw [if_pos h, if_neg (Int32.not_le.mpr h)]
  · rw [if_neg h, if_pos (Int32.not_lt.mp h)]
/-! the nearest -/
def nrN (l o : Nat → Int32) (a : Nat) : Nat → Int32
  | 0 => -1
  | n + 1 => if o (10 * a + n) = 1 ∧ (nrN l o a n < 0 ∨ l (10 * a + n) < l (10 * a + (nrN l o a n).toNatClampNeg)) then nI n else nrN l o a n
theorem nrN_y {l o : Nat → Int32} {a n : Nat} (h : o (10 * a + n) = 1) (h2 : nrN l o a n < 0 ∨ l (10 * a + n) < l (10 * a + (nrN l o a n).toNatClampNeg)) : nrN l o a (n + 1) = nI n := if_pos ⟨h, h2⟩
theorem nrN_n {l o : Nat → Int32} {a n : Nat} (h : ¬ (o (10 * a + n) = 1 ∧ (nrN l o a n < 0 ∨ l (10 * a + n) < l (10 * a + (nrN l o a n).toNatClampNeg)))) : nrN l o a (n + 1) = nrN l o a n := if_neg h
def gsN (l o : Nat → Int32) (P : Nat) (a : Int32) : Nat → Int32
  | 0 => a
  | n + 1 => if gsN l o P a n < 0 then gsN l o P a n else nrN l o (gsN l o P a n).toNatClampNeg P
theorem gsN_n {l o : Nat → Int32} {P n : Nat} {a : Int32} (h : gsN l o P a n < 0) : gsN l o P a (n + 1) = gsN l o P a n := if_pos h
theorem gsN_y {l o : Nat → Int32} {P n : Nat} {a : Int32} (h : ¬ gsN l o P a n < 0) : gsN l o P a (n + 1) = nrN l o (gsN l o P a n).toNatClampNeg P := if_neg h
theorem gsN_st {l o : Nat → Int32} {P n : Nat} {a : Int32} (h : gsN l o P a n < 0) : ∀ d, gsN l o P a (n + d) = gsN l o P a n
  | 0 => rfl
  | d + 1 => by
    have ih := gsN_st h d
    rw [← Nat.add_assoc, gsN_n (by rw [ih]; exact h), ih]
abbrev okGo (P : Nat) (p n : Int32) : Prop := isP P p ∧ (¬ n < 0 ∧ ¬ 1000 < n)
def goR (P : Nat) (p n : Int32) (l o : Nat → Int32) : Int32 := if okGo P p n then (if gsN l o P p n.toNatClampNeg < 0 then -1000000004 else gsN l o P p n.toNatClampNeg) else -1000000001
theorem go_b {P : Nat} {p n : Int32} {l o : Nat → Int32} (h : ¬ okGo P p n) : (-1000000001 : Int32) = goR P p n l o := (if_neg h).symm
theorem go_y {P j n : Nat} {l o : Nat → Int32} (hP : P ≤ 10) (hj : j < P) (hn : n ≤ 1000) : (gsN l o P (nI j) n < 0 → (-1000000004 : Int32) = goR P (nI j) (nI n) l o) ∧ (¬ gsN l o P (nI j) n < 0 → gsN l o P (nI j) n = goR P (nI j) (nI n) l o) := by
  have ok : okGo P (nI j) (nI n) := ⟨isP_nI (by omega) hj, nI_pos (by omega), fun h => by have := xn_lt (a := 1000) (b := n) (by omega) (by omega) h; omega⟩
  have e : goR P (nI j) (nI n) l o = if gsN l o P (nI j) n < 0 then -1000000004 else gsN l o P (nI j) n := by
    unfold goR
    rw [if_pos ok, nI_clamp (show n < 2 ^ 31 by omega)]
  exact ⟨fun h => (e.trans (if_pos h)).symm, fun h => (e.trans (if_neg h)).symm⟩
theorem gs_y {l o : Nat → Int32} {P n y : Nat} {a : Int32} (hg : nI y = gsN l o P a n) (hy : y < 2 ^ 31) : nrN l o y P = gsN l o P a (n + 1) := by
  rw [gsN_y (by rw [← hg]; exact nI_pos hy), ← hg, nI_clamp hy]
theorem nr_lt {l o : Nat → Int32} {a n y : Nat} (hx : nI y = nrN l o a n) (hy : y < 2 ^ 31) : (nrN l o a n < 0 ∨ l (10 * a + n) < l (10 * a + (nrN l o a n).toNatClampNeg)) ↔ l (10 * a + n) < l (10 * a + y) := by
  rw [← hx, nI_clamp hy]
  exact ⟨fun h => h.resolve_left (nI_pos hy), Or.inr⟩
theorem nr_c {l o : Nat → Int32} {a n P : Nat} {x z : Int32} (hx : x = nrN l o a n) (hz : (x = -1 ∧ z = 1000000000) ∨ ∃ y, y < P ∧ x = nI y ∧ z = l (10 * a + y)) (hP : P ≤ 10) (hl : l (10 * a + n) < 1000000000) : l (10 * a + n) < z ↔ (nrN l o a n < 0 ∨ l (10 * a + n) < l (10 * a + (nrN l o a n).toNatClampNeg)) := by
  rcases hz with ⟨h1, h2⟩ | ⟨y, hy, h1, h2⟩
  · rw [← hx, h1, h2]
    exact ⟨fun _ => Or.inl (by decide), fun _ => hl⟩
  · rw [h2]; exact (nr_lt (h1 ▸ hx) (by omega)).symm
theorem EI.el {l u o : Nat → Int32} (h : EI l u o) : ∀ j, j < 100 → o j = 1 → l j < 1000000000 := by
  intro j hj h1
  have he := ends_lo (h.1 j hj (by rw [h1]; decide))
  rw [lt_iff9, show (1000000000 : Int32).toInt = 1000000000 from by decide]
  omega
theorem cnt_0 {P R W z : Nat} {e o : Nat → Int32} : nI P = coR 0 P R W z e o := by unfold coR; rw [if_pos rfl]
theorem cnt_1 {P R W z : Nat} {e o : Nat → Int32} : nI (ctW o 100) = coR 1 P R W z e o := by unfold coR; rw [if_neg (by decide), if_pos rfl]
theorem cnt_2 {P R W z : Nat} {e o : Nat → Int32} : nI R = coR 2 P R W z e o := by unfold coR; rw [if_neg (by decide), if_neg (by decide), if_pos rfl]
theorem cnt_3 {P R W z : Nat} {e o : Nat → Int32} : nI W = coR 3 P R W z e o := by unfold coR; rw [if_neg (by decide), if_neg (by decide), if_neg (by decide), if_pos rfl]
theorem cnt_4 {P R W z : Nat} {e o : Nat → Int32} : nI z = coR 4 P R W z e o := by unfold coR; rw [if_neg (by decide), if_neg (by decide), if_neg (by decide), if_neg (by decide), if_pos rfl]
theorem cnt_5 {P R W z : Nat} {e o : Nat → Int32} : suE e P = coR 5 P R W z e o := by unfold coR; rw [if_neg (by decide), if_neg (by decide), if_neg (by decide), if_neg (by decide), if_neg (by decide), if_pos rfl]
/-! heights -/
def riL (l : Nat → Int32) (a b : Nat) : Int32 := l (10 * a + b) - l (10 * b + a)
theorem boB_sy {o : Nat → Int32} {a b : Nat} (h : boB o a b) : boB o b a := ⟨fun e => h.1 e.symm, h.2.2, h.2.1⟩
/-- n twos, from a to b -/
def hcn (o : Nat → Int32) (P : Nat) : Nat → Nat → Nat → Prop
  | 0, a, b => a = b
  | n + 1, a, b => ∃ r, r < P ∧ boB o r b ∧ hcn o P n a r
def hpt (l o : Nat → Int32) (P : Nat) : Nat → Nat → Nat → Int32 → Prop
  | 0, a, b, x => a = b ∧ x = 0
  | n + 1, a, b, x => ∃ r y, r < P ∧ boB o r b ∧ hpt l o P n a r y ∧ x = y + riL l r b
theorem hpt.cn {l o : Nat → Int32} {P a : Nat} : ∀ {n b : Nat} {x : Int32}, hpt l o P n a b x → hcn o P n a b
  | 0, _, _, h => h.1
  | _ + 1, _, _, ⟨r, _, h1, h2, h3, _⟩ => ⟨r, h1, h2, hpt.cn h3⟩
theorem hcn.front {o : Nat → Int32} {P a r : Nat} (ha : a < P) (hb : boB o a r) : ∀ {n b : Nat}, hcn o P n r b → hcn o P (n + 1) a b
  | 0, b, h => by
    have h : r = b := h
    subst h
    exact ⟨a, ha, hb, rfl⟩
  | n + 1, b, ⟨s, h1, h2, h3⟩ => ⟨s, h1, h2, hcn.front ha hb h3⟩
theorem hcn.sy {o : Nat → Int32} {P a : Nat} : ∀ {n b : Nat}, b < P → hcn o P n a b → hcn o P n b a
  | 0, _, _, h => (show _ = _ from h).symm
  | n + 1, b, hb, ⟨r, h1, h2, h3⟩ => hcn.front hb (boB_sy h2) (hcn.sy h1 h3)
theorem hcn.app {o : Nat → Int32} {P a b n : Nat} (h : hcn o P n a b) : ∀ {m c : Nat}, hcn o P m b c → hcn o P (n + m) a c
  | 0, c, q => by
    have q : b = c := q
    subst q
    exact h
  | m + 1, c, ⟨r, h1, h2, h3⟩ => ⟨r, h1, h2, hcn.app h h3⟩
/-- all heights fit -/
def POT (l o f : Nat → Int32) (P : Nat) : Prop := ∀ a b, a < P → b < P → boB o a b → f b - f a = riL l a b
theorem POT.pt {l o f : Nat → Int32} {P a : Nat} (h : POT l o f P) : ∀ {n b : Nat} {x : Int32}, b < P → hpt l o P n a b x → x = f b - f a
  | 0, b, x, hb, ⟨h1, h2⟩ => by subst h1; rw [h2, Int32.sub_self]
  | n + 1, b, x, hb, ⟨r, y, h1, h2, h3, h4⟩ => by
    rw [h4, h.pt h1 h3, ← h r b h1 hb h2, Int32.add_comm]
    exact (Int32.sub_eq_iff_eq_add.mpr (by rw [Int32.add_assoc, Int32.sub_add_cancel, Int32.sub_add_cancel])).symm
/-- where its foot is -/
def ftL (o : Nat → Int32) (P f v : Nat) : Prop := ∀ w n, w < P → hcn o P n w v → f ≤ w
def HGv (l o h : Nat → Int32) (P v : Nat) : Prop := ∃ f n, f < P ∧ hpt l o P n f v (h v) ∧ ftL o P f v
def HG (l o h : Nat → Int32) (P : Nat) : Prop := ∀ v, v < P → HGv l o h P v
theorem ft_uq {o : Nat → Int32} {P f g v n m : Nat} (h1 : ftL o P f v) (h2 : ftL o P g v) (hf : f < P) (hg : g < P) (c1 : hcn o P n f v) (c2 : hcn o P m g v) : f = g := by
  have a := h1 g m hg c2
  have b := h2 f n hf c1
  omega
theorem HG.pot {l o h f : Nat → Int32} {P : Nat} (H : HG l o h P) (F : POT l o f P) : POT l o h P := fun a b ha hb he => by
  obtain ⟨f1, n1, p1, p2, p3⟩ := H a ha
  obtain ⟨f2, n2, q1, q2, q3⟩ := H b hb
  have c1 : hcn o P (n1 + 1) f1 b := ⟨a, ha, he, p2.cn⟩
  have p4 : ftL o P f1 b := fun w n hw hc => by
    have : hcn o P (n + 1) w a := ⟨b, hb, boB_sy he, hc⟩
    exact p3 w _ hw this
  have e := ft_uq p4 q3 p1 q1 c1 q2.cn
  subst e
  rw [F.pt ha p2, F.pt hb q2, ← F a b ha hb he, Int32.sub_sub, Int32.add_comm (f f1) (f a - f f1), Int32.sub_add_cancel]
theorem HG.uq {l o h g f : Nat → Int32} {P v : Nat} (H : HG l o h P) (G : HG l o g P) (F : POT l o f P) (hv : v < P) : h v = g v := by
  obtain ⟨f1, n1, p1, p2, p3⟩ := H v hv
  obtain ⟨f2, n2, q1, q2, q3⟩ := G v hv
  have e := ft_uq p3 q3 p1 q1 p2.cn q2.cn
  subst e
  rw [F.pt hv p2, F.pt hv q2]
noncomputable def fiR (l o : Nat → Int32) (P : Nat) : Int32 := cif (∃ f, POT l o f P) 1 0
noncomputable def hgF (l o : Nat → Int32) (P : Nat) : Nat → Int32 := @dite _ (∃ h, HG l o h P ∧ POT l o h P) (Classical.propDecidable _) (fun h => Classical.choose h) (fun _ => fun _ => 0)
theorem hgF_eq {l o h : Nat → Int32} {P v : Nat} (H : HG l o h P) (F : POT l o h P) (hv : v < P) : h v = hgF l o P v := by
  have hx : ∃ h, HG l o h P ∧ POT l o h P := ⟨h, H, F⟩
  have e : hgF l o P = Classical.choose hx := by
    unfold hgF
    exact dif_pos hx
  rw [e]
  exact H.uq (Classical.choose_spec hx).1 F hv
theorem fi_1 {l o h : Nat → Int32} {P : Nat} (F : POT l o h P) : (1 : Int32) = fiR l o P := (cif_pos ⟨h, F⟩).symm
theorem fi_0 {l o h : Nat → Int32} {P : Nat} (H : HG l o h P) (F : ¬ POT l o h P) : (0 : Int32) = fiR l o P := (cif_neg (fun ⟨_, q⟩ => F (H.pot q))).symm
noncomputable def heR (P : Nat) (a : Int32) (l o : Nat → Int32) : Int32 := cif (isP P a) (cif (∃ f, POT l o f P) (hgF l o P a.toNatClampNeg) (-1000000005)) (-1000000001)
theorem he_b {P : Nat} {a : Int32} {l o : Nat → Int32} (h : ¬ isP P a) : (-1000000001 : Int32) = heR P a l o := (cif_neg h).symm
theorem he_n {P k : Nat} {l o h : Nat → Int32} (hP : P ≤ 10) (hk : k < P) (H : HG l o h P) (F : ¬ POT l o h P) : (-1000000005 : Int32) = heR P (nI k) l o := ((cif_pos (isP_nI (by omega) hk)).trans (cif_neg (fun ⟨_, q⟩ => F (H.pot q)))).symm
theorem he_y {P k : Nat} {l o h : Nat → Int32} (hP : P ≤ 10) (hk : k < P) (H : HG l o h P) (F : POT l o h P) : h k = heR P (nI k) l o := by
  unfold heR
  rw [cif_pos (isP_nI (by omega) hk), cif_pos ⟨h, F⟩, nI_clamp (by omega)]
  exact hgF_eq H F hk
/-! the class's climb -/
/-- who is reached is reached rightly, and its neighbours too -/
def cmA (l o h c : Nat → Int32) (P : Nat) : Prop := (∀ v, v < P → ¬ c v = 0 → HGv l o h P v) ∧ ∀ a b, a < P → b < P → ¬ c a = 0 → boB o a b → ¬ c b = 0
theorem cmA.zero {l o h c : Nat → Int32} {P : Nat} (H : ∀ v, v < P → c v = 0) : cmA l o h c P := ⟨fun v hv q => absurd (H v hv) q, fun a _ ha _ q => absurd (H a ha) q⟩
theorem cmA.cl {l o h c : Nat → Int32} {P a : Nat} (H : cmA l o h c P) : ∀ {n b : Nat}, a < P → b < P → ¬ c a = 0 → hcn o P n a b → ¬ c b = 0
  | 0, b, _, _, q, h => by
    have h : a = b := h
    subst h; exact q
  | n + 1, b, ha, hb, q, ⟨r, h1, h2, h3⟩ => H.2 r b h1 hb (H.cl ha h1 q h3) h2
/-- no lesser one hangs together with a foot that was not yet reached -/
theorem cmA.foot {l o h c : Nat → Int32} {P f : Nat} (H : cmA l o h c P) (hf : f < P) (hc : ∀ v, v < f → ¬ c v = 0) (h0 : c f = 0) : ftL o P f f := fun w n hw q => by
  by_cases e : w < f
  · exact absurd h0 (H.cl hw hf (hc w e) q)
  · omega
/-- within one climb: from the foot f, what stands in the row of those to be asked -/
def cmQ (l o h c c0 : Nat → Int32) (P f i m : Nat) (Q : Nat → Int32) : Prop := (∀ v, v < P → ¬ c0 v = 0 → ¬ c v = 0) ∧ (∀ v, v < P → ¬ c v = 0 → HGv l o h P v) ∧ (∀ j, j < m → ∃ v, v < P ∧ Q j = nI v ∧ ¬ c v = 0 ∧ ∃ n, hpt l o P n f v (h v)) ∧ (∀ v, v < P → ¬ c v = 0 → (∀ b, b < P → boB o v b → ¬ c b = 0) ∨ ∃ j, i ≤ j ∧ j < m ∧ Q j = nI v) ∧ ¬ c f = 0
def cmI (l o h c c0 : Nat → Int32) (P f i k m : Nat) (Q : Nat → Int32) (a : Nat) : Prop := (∀ v, v < P → ¬ c0 v = 0 → ¬ c v = 0) ∧ (∀ v, v < P → ¬ c v = 0 → HGv l o h P v) ∧ (∀ j, j < m → ∃ v, v < P ∧ Q j = nI v ∧ ¬ c v = 0 ∧ ∃ n, hpt l o P n f v (h v)) ∧ (∀ v, v < P → ¬ c v = 0 → (∀ b, b < P → boB o v b → ¬ c b = 0) ∨ (∃ j, i < j ∧ j < m ∧ Q j = nI v) ∨ (v = a ∧ ∀ b, b < k → boB o a b → ¬ c b = 0)) ∧ ¬ c f = 0 ∧ a < P ∧ ¬ c a = 0 ∧ ∃ n, hpt l o P n f a (h a)
theorem HGv.cg {l o h h2 : Nat → Int32} {P v : Nat} (H : HGv l o h P v) (e : h2 v = h v) : HGv l o h2 P v := by
  obtain ⟨f, n, a1, a2, a3⟩ := H
  exact ⟨f, n, a1, by rw [e]; exact a2, a3⟩
section cm
variable {l o h c c0 Q h2 c2 Q2 : Nat → Int32} {P f i k m a : Nat}
theorem cmQ.start {b : Int32} (H : cmA l o h c P) (hP : P ≤ 10) (hf : f < P) (h0 : c f = 0) (hF : ftL o P f f) (e1 : h2 = upd h f 0) (e2 : c2 = upd c f b) (hb : ¬ b = 0) (e3 : Q2 = upd Q 0 (nI f)) : cmQ l o h2 c2 c P f 0 1 Q2 := by
  have cn : ∀ v, ¬ c v = 0 → ¬ c2 v = 0 := fun v q => by
    rw [e2]
    by_cases e : v = f
    · subst e; rw [pk_us]; exact hb
    · rw [pk_un e]; exact q
  have cf : ¬ c2 f = 0 := by rw [e2, pk_us]; exact hb
  refine ⟨fun v _ q => cn v q, fun v hv q => ?_, fun j hj => ?_, fun v hv q => ?_, cf⟩
  · by_cases e : v = f
    · subst e
      exact ⟨v, 0, hv, ⟨rfl, by rw [e1, pk_us]⟩, hF⟩
    · refine (H.1 v hv ?_).cg (by rw [e1, pk_un e])
      rw [e2, pk_un e] at q; exact q
  · refine ⟨f, hf, ?_, cf, 0, rfl, by rw [e1, pk_us]⟩
    rw [e3, show j = 0 by omega, pk_us]
  · by_cases e : v = f
    · subst e
      exact Or.inr ⟨0, Nat.le_refl _, by omega, by rw [e3, pk_us]⟩
    · rw [e2, pk_un e] at q
      exact Or.inl (fun b hb he => cn b (H.2 v b hv hb q he))
theorem cmQ.head (H : cmQ l o h c c0 P f i m Q) (hi : i < m) (ha : Q i = nI a) (ha2 : a < 10) (hP : P ≤ 10) : cmI l o h c c0 P f i 0 m Q a := by
  obtain ⟨a0, a1, a2, a3, a4⟩ := H
  obtain ⟨v, b1, b2, b3, b4⟩ := a2 i hi
  have e : v = a := xn_eq (by omega) (by omega) (b2.symm.trans ha)
  subst e
  refine ⟨a0, a1, a2, fun w hw q => ?_, a4, b1, b3, b4⟩
  rcases a3 w hw q with h | ⟨j, h1, h2, h3⟩
  · exact Or.inl h
  · by_cases e : j = i
    · subst e
      have : w = v := xn_eq (by omega) (by omega) (h3.symm.trans ha)
      subst this
      exact Or.inr (Or.inr ⟨rfl, fun b hb => absurd hb (Nat.not_lt_zero _)⟩)
    · exact Or.inr (Or.inl ⟨j, by omega, h2, h3⟩)
theorem cmI.skip (H : cmI l o h c c0 P f i k m Q a) (hk : ¬ c k = 0 ∨ ¬ boB o a k) : cmI l o h c c0 P f i (k + 1) m Q a := by
  obtain ⟨a0, a1, a2, a3, a4⟩ := H
  refine ⟨a0, a1, a2, fun w hw q => ?_, a4⟩
  rcases a3 w hw q with h | h | ⟨h, h2⟩
  · exact Or.inl h
  · exact Or.inr (Or.inl h)
  · refine Or.inr (Or.inr ⟨h, fun b hb he => ?_⟩)
    by_cases e : b = k
    · subst e; exact hk.resolve_right (fun q => q he)
    · exact h2 b (by omega) he
theorem cmI.add {x y : Int32} (H : cmI l o h c c0 P f i k m Q a) (hf : f < P) (hF : ftL o P f f) (hi : i < m) (hk : k < P) (h0 : c k = 0) (he : boB o a k) (e1 : h2 = upd h k x) (ex : x = h a + riL l a k) (e2 : c2 = upd c k y) (hy : ¬ y = 0) (e3 : Q2 = upd Q m (nI k)) : cmI l o h2 c2 c0 P f i (k + 1) (m + 1) Q2 a := by
  obtain ⟨a0, a1, a2, a3, a4, a5, a6, n, a7⟩ := H
  have ne : ∀ v, ¬ c v = 0 → v ≠ k := fun v q e => by subst e; exact q h0
  have cn : ∀ v, ¬ c v = 0 → ¬ c2 v = 0 := fun v q => by rw [e2, pk_un (ne v q)]; exact q
  have ck : ¬ c2 k = 0 := by rw [e2, pk_us]; exact hy
  have hn : ∀ v, ¬ c v = 0 → h2 v = h v := fun v q => by rw [e1, pk_un (ne v q)]
  have pk : hpt l o P (n + 1) f k (h2 k) := by
    rw [e1, pk_us, ex]
    exact ⟨a, h a, a5, he, a7, rfl⟩
  refine ⟨fun v hv q => cn v (a0 v hv q), fun v hv q => ?_, fun j hj => ?_, fun v hv q => ?_, cn f a4, a5, cn a a6, n, by rw [hn a a6]; exact a7⟩
  · by_cases e : v = k
    · subst e
      refine ⟨f, n + 1, hf, pk, fun w n2 hw hc => ?_⟩
      exact hF w _ hw (hc.app (hcn.sy hk pk.cn))
    · rw [e2, pk_un e] at q
      exact (a1 v hv q).cg (hn v q)
  · by_cases e : j = m
    · subst e
      exact ⟨k, hk, by rw [e3, pk_us], ck, n + 1, pk⟩
    · obtain ⟨v, b1, b2, b3, n3, b4⟩ := a2 j (by omega)
      exact ⟨v, b1, by rw [e3, pk_un e]; exact b2, cn v b3, n3, by rw [hn v b3]; exact b4⟩
  · by_cases e : v = k
    · subst e
      exact Or.inr (Or.inl ⟨m, hi, by omega, by rw [e3, pk_us]⟩)
    · rw [e2, pk_un e] at q
      rcases a3 v hv q with h | ⟨j, h1, h2, h3⟩ | ⟨h, h3⟩
      · exact Or.inl (fun b hb hbb => cn b (h b hb hbb))
      · exact Or.inr (Or.inl ⟨j, h1, by omega, by rw [e3, pk_un (by omega)]; exact h3⟩)
      · refine Or.inr (Or.inr ⟨h, fun b hb hbb => ?_⟩)
        by_cases e4 : b = k
        · subst e4; exact ck
        · exact cn b (h3 b (by omega) hbb)
theorem cmI.row (H : cmI l o h c c0 P f i k m Q a) (hk : P ≤ k) : cmQ l o h c c0 P f (i + 1) m Q := by
  obtain ⟨a0, a1, a2, a3, a4, a5, a6, -⟩ := H
  refine ⟨a0, a1, a2, fun w hw q => ?_, a4⟩
  rcases a3 w hw q with h | ⟨j, h1, h2, h3⟩ | ⟨h, h2⟩
  · exact Or.inl h
  · exact Or.inr ⟨j, by omega, h2, h3⟩
  · subst h
    exact Or.inl (fun b hb he => h2 b (by omega) he)
theorem cmQ.fin (H : cmQ l o h c c0 P f i m Q) (hi : m ≤ i) : cmA l o h c P ∧ (∀ v, v < P → ¬ c0 v = 0 → ¬ c v = 0) ∧ ¬ c f = 0 := by
  obtain ⟨a0, a1, a2, a3, a4⟩ := H
  refine ⟨⟨a1, fun v b hv hb q he => ?_⟩, a0, a4⟩
  rcases a3 v hv q with h | ⟨j, h1, h2, -⟩
  · exact h b hb he
  · omega
theorem cm_next {v : Nat} (h : ∀ v, v < i → ¬ c v = 0) (hv : i < P) (hm : ∀ v, v < P → ¬ c v = 0 → ¬ c2 v = 0) (hi : ¬ c2 i = 0) : ∀ v, v < i + 1 → ¬ c2 v = 0 := fun v hv2 => by
  by_cases e : v = i
  · subst e; exact hi
  · exact hm v (by omega) (h v (by omega))
end cm
/-! whether they fit -/
def PO2 (l o h : Nat → Int32) (P i k : Nat) : Prop := ∀ a b, a < b → b < P → (a < i ∨ a = i ∧ b < k) → boB o a b → h b - h a = riL l a b
theorem PO2.zero {l o h : Nat → Int32} {P k : Nat} (hk : k ≤ 1) : PO2 l o h P 0 k := fun a b h1 _ h3 => by omega
theorem PO2.row {l o h : Nat → Int32} {P i k : Nat} (H : PO2 l o h P i k) (hk : P ≤ k) : PO2 l o h P (i + 1) (i + 2) := fun a b h1 h2 h3 he => H a b h1 h2 (by omega) he
theorem PO2.in1 {l o h : Nat → Int32} {P i k : Nat} (H : PO2 l o h P i k) (hk : k ≤ i + 1) : PO2 l o h P i (i + 1) := fun a b h1 h2 h3 he => H a b h1 h2 (by omega) he
theorem PO2.s {l o h : Nat → Int32} {P i k : Nat} (H : PO2 l o h P i k) (h1 : ¬ boB o i k ∨ h k - h i = riL l i k) : PO2 l o h P i (k + 1) := fun a b h2 h3 h4 he => by
  by_cases e : a = i ∧ b = k
  · obtain ⟨rfl, rfl⟩ := e
    exact h1.resolve_left (fun q => q he)
  · exact H a b h2 h3 (by omega) he
theorem riL_sy {l : Nat → Int32} {a b : Nat} : riL l a b = -riL l b a := by
  unfold riL
  exact Int32.neg_sub.symm
theorem PO2.fin {l o h : Nat → Int32} {P i k : Nat} (H : PO2 l o h P i k) (hi : P ≤ i) : POT l o h P := fun a b ha hb he => by
  by_cases e : a < b
  · exact H a b e hb (by omega) he
  · have e2 : b < a := by
      have := he.1
      omega
    have q := H b a e2 ha (by omega) (boB_sy he)
    rw [riL_sy, ← q]
    exact Int32.neg_sub.symm
theorem cm_clr {c c2 : Nat → Int32} {i : Nat} {b : Int32} (h : ∀ v, v < i → c v = 0) (e : c2 = upd c i b) (hb : b = 0 := by decide) : ∀ v, v < i + 1 → c2 v = 0 := fun v hv => by
  rw [e]
  by_cases q : v = i
  · subst q; rw [pk_us]; exact hb
  · rw [pk_un q]; exact h v (by omega)
/-! a way of twos is short -/
theorem pgh9 : ∀ (P : Nat) (v : Nat → Nat), (∀ i, i ≤ P → v i < P) → ∃ i j, i < j ∧ j ≤ P ∧ v i = v j
  | 0, v, h => absurd (h 0 (Nat.le_refl _)) (Nat.not_lt_zero _)
  | P + 1, v, h => by
    by_cases q : ∃ i, i ≤ P ∧ v i = v (P + 1)
    · obtain ⟨i, hi, e⟩ := q
      exact ⟨i, P + 1, by omega, Nat.le_refl _, e⟩
    · have hq : ∀ i, i ≤ P → ¬ v i = v (P + 1) := fun i hi e => q ⟨i, hi, e⟩
      have hP := h (P + 1) (Nat.le_refl _)
      obtain ⟨i, j, h1, h2, h3⟩ := pgh9 P (fun i => if v i = P then v (P + 1) else v i) (fun i hi => by
        show (if v i = P then v (P + 1) else v i) < P
        have a := h i (by omega)
        have b := hq i hi
        split <;> omega)
      refine ⟨i, j, h1, by omega, ?_⟩
      have h3 : (if v i = P then v (P + 1) else v i) = (if v j = P then v (P + 1) else v j) := h3
      have b1 := hq i (by omega)
      have b2 := hq j h2
      split at h3 <;> split at h3 <;> omega
theorem hcn.sq {o : Nat → Int32} {P a : Nat} : ∀ {n b : Nat}, hcn o P n a b → ∃ v : Nat → Nat, v 0 = a ∧ v n = b ∧ ∀ i, i < n → v i < P ∧ boB o (v i) (v (i + 1))
  | 0, b, h => ⟨fun _ => a, rfl, h, fun i hi => absurd hi (Nat.not_lt_zero _)⟩
  | n + 1, b, ⟨r, h1, h2, h3⟩ => by
    obtain ⟨v, e0, en, H⟩ := hcn.sq h3
    refine ⟨fun i => if i = n + 1 then b else v i, by show (if 0 = n + 1 then b else v 0) = a; rw [if_neg (by omega)]; exact e0, by show (if n + 1 = n + 1 then b else _) = b; rw [if_pos rfl], fun i hi => ?_⟩
    show (if i = n + 1 then b else v i) < P ∧ boB o (if i = n + 1 then b else v i) (if i + 1 = n + 1 then b else v (i + 1))
    rw [if_neg (by omega)]
    by_cases e : i = n
    · subst e
      rw [if_pos rfl, en]
      exact ⟨h1, h2⟩
    · rw [if_neg (by omega)]
      exact H i (by omega)
theorem hcn.sub {o : Nat → Int32} {P n : Nat} {v : Nat → Nat} (H : ∀ i, i < n → v i < P ∧ boB o (v i) (v (i + 1))) (i : Nat) : ∀ k, i + k ≤ n → hcn o P k (v i) (v (i + k))
  | 0, _ => rfl
  | k + 1, h => ⟨v (i + k), (H (i + k) (by omega)).1, (H (i + k) (by omega)).2, hcn.sub H i k (by omega)⟩
theorem hcn.short {o : Nat → Int32} {P a b : Nat} : ∀ (m n : Nat), n ≤ m → hcn o P n a b → ∃ k, k ≤ P ∧ hcn o P k a b
  | 0, n, hn, h => ⟨n, by omega, h⟩
  | m + 1, n, hn, h => by
    by_cases c : n ≤ P
    · exact ⟨n, c, h⟩
    · obtain ⟨v, e0, en, H⟩ := hcn.sq h
      obtain ⟨i, j, h1, h2, h3⟩ := pgh9 P v (fun i hi => (H i (by omega)).1)
      have p1 := hcn.sub H 0 i (by omega)
      have p2 := hcn.sub H j (n - j) (by omega)
      rw [Nat.zero_add, e0] at p1
      rw [show j + (n - j) = n by omega, en, ← h3] at p2
      exact hcn.short m _ (by omega) (p1.app p2)
/-! the reference's groups -/
def mg1 (l o h c : Nat → Int32) (P : Nat) : Prop := ∀ v, v < P → ¬ c v < 0 → ∃ f, f < P ∧ c v = nI f ∧ (∃ n, hpt l o P n f v (h v)) ∧ ftL o P f v
def mgS (l o h c : Nat → Int32) (P : Nat) : Prop := mg1 l o h c P ∧ ∀ a b, a < P → b < P → ¬ c a < 0 → boB o a b → ¬ c b < 0
def mgP (l o h c : Nat → Int32) (P g : Nat) : Prop := mg1 l o h c P ∧ (∀ a b, a < P → b < P → a ≠ g → ¬ c a < 0 → boB o a b → ¬ c b < 0) ∧ c g = nI g ∧ ftL o P g g ∧ g < P ∧ P ≤ 10
def mgI (l o h c c0 : Nat → Int32) (P g n j k : Nat) : Prop := mg1 l o h c P ∧ (∀ v, v < P → c v = c0 v ∨ (c0 v < 0 ∧ c v = nI g)) ∧ (∀ v m, v < P → m ≤ n → hcn o P m g v → ¬ c v < 0) ∧ (∀ a m b, a < j → a < P → m ≤ n → hcn o P m g a → b < P → boB o a b → ¬ c b < 0) ∧ (∀ m b, m ≤ n → hcn o P m g j → b < k → b < P → boB o j b → ¬ c b < 0)
theorem nI_nn {k : Nat} (h : k < 10) : ¬ nI k < 0 := by rw [lt_iff9, nI_toInt (by omega), z0I]; omega
section mg
variable {l o h c c0 h2 c2 : Nat → Int32} {P g n j k : Nat}
theorem mgP.start (H : mgP l o h c P g) : mgI l o h c c P g 0 0 0 := by
  obtain ⟨a1, a2, a3, a4, a5, a6⟩ := H
  refine ⟨a1, fun v _ => Or.inl rfl, fun v m _ hm q => ?_, fun a m b ha => absurd ha (Nat.not_lt_zero _), fun m b _ _ hb => absurd hb (Nat.not_lt_zero _)⟩
  have e : m = 0 := by omega
  subst e
  have q : g = v := q
  subst q
  rw [a3]; exact nI_nn (by omega)
/-- a grouped one that hangs together with g is of g -/
theorem mg1.of {a m : Nat} (H : mg1 l o h c P) (hF : ftL o P g g) (hg : g < P) (hP : P ≤ 10) (ha : a < P) (hc : ¬ c a < 0) (q : hcn o P m g a) : c a = nI g ∧ ∃ n, hpt l o P n g a (h a) := by
  obtain ⟨f, f1, f2, ⟨n, f3⟩, f4⟩ := H a ha hc
  have gl : ftL o P g a := fun w n2 hw hq => hF w _ hw (hq.app (hcn.sy ha q))
  have e := ft_uq f4 gl f1 hg f3.cn q
  subst e
  exact ⟨f2, n, f3⟩
theorem mgI.skip (H : mgI l o h c c0 P g n j k) (Hp : mgP l o h2 c0 P g) (hj : j < P) (hk : ¬ c j = nI g ∨ ¬ c k < 0 ∨ ¬ boB o j k) : mgI l o h c c0 P g n j (k + 1) := by
  obtain ⟨a1, a2, a3, a4, a5⟩ := H
  refine ⟨a1, a2, a3, a4, fun m b hm q hb hbP he => ?_⟩
  by_cases e : b = k
  · subst e
    rcases hk with hk | hk | hk
    · exact absurd (a1.of Hp.2.2.2.1 Hp.2.2.2.2.1 Hp.2.2.2.2.2 hj (a3 j m hj hm q) q).1 hk
    · exact hk
    · exact absurd he hk
  · exact a5 m b hm q (by omega) hbP he
theorem mgI.add {x y : Int32} (H : mgI l o h c c0 P g n j k) (Hp : mgP l o h2 c0 P g) (hj : j < P) (hk : k < P) (hc : c j = nI g) (h0 : c k < 0) (he : boB o j k) {c3 h3 : Nat → Int32} (e2 : c3 = upd c k y) (hy : y = nI g) (e1 : h3 = upd h k x) (ex : x = h j + l (10 * j + k) - l (10 * k + j)) : mgI l o h3 c3 c0 P g n j (k + 1) := by
  obtain ⟨a1, a2, a3, a4, a5⟩ := H
  obtain ⟨p1, p2, p3, p4, p5, p6⟩ := Hp
  have ne : ∀ v, ¬ c v < 0 → v ≠ k := fun v q e => by subst e; exact q h0
  have ck : ¬ c3 k < 0 := by rw [e2, pk_us, hy]; exact nI_nn (by omega)
  have cn : ∀ v, ¬ c v < 0 → ¬ c3 v < 0 := fun v q => by rw [e2, pk_un (ne v q)]; exact q
  have gj : ¬ c j < 0 := by rw [hc]; exact nI_nn (by omega)
  obtain ⟨f, f1, f2, ⟨m, f3⟩, f4⟩ := a1 j hj gj
  have ef : f = g := xn_eq (by omega) (by omega) (f2.symm.trans hc)
  subst ef
  have pk : hpt l o P (m + 1) f k (h3 k) := by
    rw [e1, pk_us, ex]
    refine ⟨j, h j, hj, he, f3, ?_⟩
    unfold riL
    rw [Int32.sub_eq_add_neg, Int32.sub_eq_add_neg, Int32.add_assoc]
  refine ⟨fun v hv q => ?_, fun v hv => ?_, fun v m2 hv hm q => cn v (a3 v m2 hv hm q), fun a m2 b h4 h5 h6 h7 h8 h9 => cn b (a4 a m2 b h4 h5 h6 h7 h8 h9), fun m2 b h4 h5 h6 h7 h8 => ?_⟩
  · by_cases e : v = k
    · subst e
      exact ⟨f, f1, by rw [e2, pk_us]; exact hy, ⟨m + 1, pk⟩, fun w n2 hw hq => p4 w _ hw (hq.app (hcn.sy hk pk.cn))⟩
    · rw [e2, pk_un e] at q ⊢
      rw [e1, pk_un e]
      exact a1 v hv q
  · by_cases e : v = k
    · subst e
      right
      rcases a2 v hv with q | ⟨q, -⟩
      · exact ⟨by rw [← q]; exact h0, by rw [e2, pk_us]; exact hy⟩
      · exact ⟨q, by rw [e2, pk_us]; exact hy⟩
    · rw [e2, pk_un e]; exact a2 v hv
  · by_cases e : b = k
    · subst e; exact ck
    · exact cn b (a5 m2 b h4 h5 (by omega) h7 h8)
theorem mgI.row (H : mgI l o h c c0 P g n j k) (hk : P ≤ k) : mgI l o h c c0 P g n (j + 1) 0 := by
  obtain ⟨a1, a2, a3, a4, a5⟩ := H
  refine ⟨a1, a2, a3, fun a m b h4 h5 h6 h7 h8 h9 => ?_, fun m b _ _ hb => absurd hb (Nat.not_lt_zero _)⟩
  by_cases e : a = j
  · subst e; exact a5 m b h6 h7 (by omega) h8 h9
  · exact a4 a m b (by omega) h5 h6 h7 h8 h9
theorem mgI.next (H : mgI l o h c c0 P g n j 0) (hj : P ≤ j) : mgI l o h c c0 P g (n + 1) 0 0 := by
  obtain ⟨a1, a2, a3, a4, a5⟩ := H
  refine ⟨a1, a2, fun v m hv hm q => ?_, fun a m b ha => absurd ha (Nat.not_lt_zero _), fun m b _ _ hb => absurd hb (Nat.not_lt_zero _)⟩
  by_cases e : m = n + 1
  · subst e
    obtain ⟨r, r1, r2, r3⟩ := q
    exact a4 r n v (by omega) r1 (Nat.le_refl _) r3 hv r2
  · exact a3 v m hv (by omega) q
theorem mgI.fin (H : mgI l o h2 c2 c P g n 0 0) (Hp : mgP l o h c P g) (hn : P ≤ n) : mgS l o h2 c2 P ∧ ∀ v, v < P → ¬ c v < 0 → ¬ c2 v < 0 := by
  obtain ⟨a1, a2, a3, -, -⟩ := H
  obtain ⟨p1, p2, p3, p4, p5, p6⟩ := Hp
  have mono : ∀ v, v < P → ¬ c v < 0 → ¬ c2 v < 0 := fun v hv q => by
    rcases a2 v hv with e | ⟨e, -⟩
    · rw [e]; exact q
    · exact absurd e q
  refine ⟨⟨a1, fun a b ha hb q he => ?_⟩, mono⟩
  obtain ⟨f, f1, f2, ⟨m, f3⟩, f4⟩ := a1 a ha q
  by_cases e : f = g
  · subst e
    have hq : hcn o P (m + 1) f b := ⟨a, ha, he, f3.cn⟩
    obtain ⟨k2, k3, k4⟩ := hcn.short _ _ (Nat.le_refl _) hq
    exact a3 b k2 hb (by omega) k4
  · have hc : ¬ c a < 0 := by
      rcases a2 a ha with e2 | ⟨-, e2⟩
      · rw [← e2]; exact q
      · exact absurd (xn_eq (by omega) (by omega) (f2.symm.trans e2)) e
    have ag : a ≠ g := fun e3 => by
      subst e3
      rcases a2 a ha with e2 | ⟨e2, -⟩
      · exact e (xn_eq (by omega) (by omega) (f2.symm.trans (e2.trans p3)))
      · exact hc e2
    exact mono b hb (p2 a b ha hb ag hc he)
theorem mgS.zero (H : ∀ v, v < P → c v < 0) : mgS l o h c P := ⟨fun v hv q => absurd (H v hv) q, fun a _ ha _ q => absurd (H a ha) q⟩
theorem mgS.cl {a : Nat} (H : mgS l o h c P) : ∀ {n b : Nat}, a < P → b < P → ¬ c a < 0 → hcn o P n a b → ¬ c b < 0
  | 0, b, _, _, q, h => by
    have h : a = b := h
    subst h; exact q
  | n + 1, b, ha, hb, q, ⟨r, h1, h2, h3⟩ => H.2 r b h1 hb (H.cl ha h1 q h3) h2
/-- a new foot -/
theorem mgS.foot {c3 h3 : Nat → Int32} (H : mgS l o h c P) (hP : P ≤ 10) (hg : g < P) (hc : ∀ v, v < g → ¬ c v < 0) (h0 : c g < 0) (e1 : c3 = upd c g (nI g)) (e2 : h3 = upd h g 0) : mgP l o h3 c3 P g := by
  have ft : ftL o P g g := fun w n2 hw q => by
    by_cases e : w < g
    · exact absurd h0 (H.cl hw hg (hc w e) q)
    · omega
  have ng := nI_nn (show g < 10 by omega)
  refine ⟨fun v hv q => ?_, fun a b ha hb hag q he => ?_, by rw [e1, pk_us], ft, hg, hP⟩
  · by_cases e : v = g
    · subst e
      exact ⟨v, hv, by rw [e1, pk_us], ⟨0, rfl, by rw [e2, pk_us]⟩, ft⟩
    · rw [e1, pk_un e] at q ⊢
      rw [e2, pk_un e]
      exact H.1 v hv q
  · rw [e1, pk_un hag] at q
    have q2 := H.2 a b ha hb q he
    by_cases e : b = g
    · subst e; exact absurd h0 q2
    · rw [e1, pk_un e]; exact q2
theorem mgS.hg (H : mgS l o h c P) (hc : ∀ v, v < P → ¬ c v < 0) : HG l o h P := fun v hv => by
  obtain ⟨f, f1, -, ⟨n, f2⟩, f3⟩ := H.1 v hv (hc v hv)
  exact ⟨f, n, f1, f2, f3⟩
theorem mg_clr {x : Int32} (H : ∀ v, v < j → c v < 0) (e : c2 = upd c j x) (hx : x < 0) : ∀ v, v < j + 1 → c2 v < 0 := fun v hv => by
  rw [e]
  by_cases q : v = j
  · subst q; rw [pk_us]; exact hx
  · rw [pk_un q]; exact H v (by omega)
theorem mg_nx (H : ∀ v, v < j → ¬ c v < 0) (hj : j < P) (hm : ∀ v, v < P → ¬ c v < 0 → ¬ c2 v < 0) (h1 : ¬ c2 j < 0) : ∀ v, v < j + 1 → ¬ c2 v < 0 := fun v hv => by
  by_cases e : v = j
  · subst e; exact h1
  · exact hm v (by omega) (H v (by omega))
/-- whether they fit, so far -/
def FT (l o h : Nat → Int32) (P i k : Nat) (u : Int32) : Prop := (u = 1 ∧ ∀ a b, a < P → b < P → (a < i ∨ a = i ∧ b < k) → boB o a b → h b - h a = riL l a b) ∨ (u = 0 ∧ ¬ POT l o h P)
theorem FT.zero : FT l o h P 0 0 1 := Or.inl ⟨rfl, fun a b _ _ q => by omega⟩
theorem FT.row {u : Int32} (H : FT l o h P j k u) (hk : P ≤ k) : FT l o h P (j + 1) 0 u := H.imp (fun q => ⟨q.1, fun a b ha hb hab he => q.2 a b ha hb (by omega) he⟩) id
theorem FT.bad {u : Int32} (H : FT l o h P j k u) (hu : u = 0) : FT l o h P j (k + 1) 0 := Or.inr ⟨rfl, (H.resolve_left (fun q => by rw [q.1] at hu; exact absurd hu (by decide))).2⟩
theorem FT.ok {u : Int32} (H : FT l o h P j k u) (hu : ¬ u = 0) (h1 : ¬ boB o j k ∨ h k - h j = riL l j k) : FT l o h P j (k + 1) 1 := by
  rcases H with q | q
  · refine Or.inl ⟨rfl, fun a b ha hb hab he => ?_⟩
    by_cases e : a = j ∧ b = k
    · obtain ⟨rfl, rfl⟩ := e
      exact h1.resolve_left (fun w => w he)
    · exact q.2 a b ha hb (by omega) he
  · exact absurd q.1 hu
theorem FT.no (hj : j < P) (hk : k < P) (he : boB o j k) (h1 : ¬ h k - h j = riL l j k) : FT l o h P j (k + 1) 0 := Or.inr ⟨rfl, fun q => h1 (q j k hj hk he)⟩
theorem FT.fin {u : Int32} (H : FT l o h P j 0 u) (hj : P ≤ j) : (u = 1 ∧ POT l o h P) ∨ (u = 0 ∧ ¬ POT l o h P) := H.imp (fun q => ⟨q.1, fun a b ha hb he => q.2 a b ha hb (by omega) he⟩) id
end mg
theorem mg_nx2 {c c1 c2 : Nat → Int32} {P j : Nat} (H : ∀ v, v < j → ¬ c v < 0) (hj : j < P) (hP : P ≤ 10) (e : c1 = upd c j (nI j)) (hm : ∀ v, v < P → ¬ c1 v < 0 → ¬ c2 v < 0) : ∀ v, v < j + 1 → ¬ c2 v < 0 := fun v hv => by
  by_cases q : v = j
  · subst q
    exact hm v hj (by rw [e, pk_us]; exact nI_nn (by omega))
  · exact hm v (by omega) (by rw [e, pk_un q]; exact H v (by omega))
theorem ff_1 {u : Int32} {A B : Prop} (H : (u = 1 ∧ A) ∨ (u = 0 ∧ B)) (h : ¬ u = 0) : A := (H.resolve_right (fun q => h q.1)).2
theorem ff_0 {u : Int32} {A B : Prop} (H : (u = 1 ∧ A) ∨ (u = 0 ∧ B)) (h : u = 0) : B := (H.resolve_left (fun q => by rw [q.1] at h; exact absurd h (by decide))).2
