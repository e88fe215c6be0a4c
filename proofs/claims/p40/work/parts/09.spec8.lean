/-! what ends are: of a way that is there; no way leads to where it begins -/
def EI (l u o : Nat → Int32) : Prop := (∀ j, j < 100 → ¬ o j = 0 → ends (l j) (u j)) ∧ ∀ p, p < 10 → o (10 * p + p) = 0
theorem EI.zero : EI (fun _ => 0) (fun _ => 0) (fun _ => 0) := ⟨fun _ _ h => absurd rfl h, fun _ _ => rfl⟩
theorem EI.put {l u o : Nat → Int32} {a b : Nat} {lo hi : Int32} (h : EI l u o) (ha : a < 10) (hb : b < 10) (hn : a ≠ b) (he : ends lo hi) : EI (upd l (10 * a + b) lo) (upd u (10 * a + b) hi) (upd o (10 * a + b) 1) := by
  refine ⟨fun j hj h0 => ?_, fun p hp => ?_⟩
  · by_cases q : j = 10 * a + b
    · subst q; rw [pk_us, pk_us]; exact he
    · rw [pk_un q] at h0; rw [pk_un q, pk_un q]; exact h.1 j hj h0
  · rw [pk_un (by omega)]; exact h.2 p hp
theorem isP_of {P : Nat} {a : Int32} (hP : P ≤ 10) (h : isP P a) : ∃ k, k < P ∧ a = nI k := by
  obtain ⟨k, hk, rfl⟩ := nI_of h.1
  exact ⟨k, xn_lt (a := k) (b := P) hk (by omega) h.2, rfl⟩
theorem EI.wy {l u o : Nat → Int32} {P : Nat} {a b lo hi : Int32} (h : EI l u o) (hP : P ≤ 10) : EI (wyF P a b lo hi lo l) (wyF P a b lo hi hi u) (wyF P a b lo hi 1 o) := by
  unfold wyF
  by_cases c : okWy P a b lo hi
  · rw [if_pos c, if_pos c, if_pos c]
    obtain ⟨j, hj, rfl⟩ := isP_of hP c.1.1
    obtain ⟨k, hk, rfl⟩ := isP_of hP c.1.2.1
    rw [at10_nI (by omega) (by omega)]
    exact h.put (by omega) (by omega) (fun e => c.1.2.2 (by rw [e])) c.2
  · rw [if_neg c, if_neg c, if_neg c]; exact h
theorem EI.sh {l u o : Nat → Int32} {P : Nat} {a b v : Int32} (h : EI l u o) : EI l u (shF P a b v o) := by
  unfold shF
  by_cases c : twoP P a b ∧ ¬ o (at10 a b) = 0
  · rw [if_pos c]
    refine ⟨fun j hj h0 => ?_, fun p hp => ?_⟩
    · by_cases q : j = at10 a b
      · subst q; exact h.1 _ hj c.2
      · rw [pk_un q] at h0; exact h.1 j hj h0
    · by_cases q : 10 * p + p = at10 a b
      · exact absurd (q ▸ h.2 p hp) c.2
      · rw [pk_un q]; exact h.2 p hp
  · rw [if_neg c]; exact h
theorem EI_nw {o : Nat → Int32} {way : Nat → Nat} {n i : Nat} {tt sl : Int32} {S : LSr} (h : EI S.1 S.2.1 o) (q : nwOk way n i tt sl S) : EI (nwS way n i tt sl S).1 (nwS way n i tt sl S).2.1 o := by
  unfold nwS
  by_cases c : lnT way (way i) n = 1
  · rw [if_pos c]
    have he := q c
    refine ⟨fun j hj h0 => ?_, h.2⟩
    show ends (upd S.1 (way i) (lnY way n i tt sl S.1 S.2.1) j) (upd S.2.1 (way i) (lnX way n i tt sl S.1 S.2.1) j)
    by_cases e : j = way i
    · subst e; rw [pk_us, pk_us]; exact he
    · rw [pk_un e, pk_un e]; exact h.1 j hj h0
  · rw [if_neg c]; exact h
theorem EI_blv {o : Nat → Int32} {way : Nat → Nat} {n : Nat} {tt sl : Int32} : ∀ (m i : Nat) (S : LSr), EI S.1 S.2.1 o → EI (blv way n tt sl m i S).2.1 (blv way n tt sl m i S).2.2.1 o
  | 0, _, S, h => h
  | m + 1, i, S, h => by
    rw [blv]
    by_cases c : nwOk way n i tt sl S
    · rw [cif_pos c]; exact EI_blv m (i + 1) _ (EI_nw h c)
    · rw [cif_neg c]; exact h
theorem EI_bel {o wn wp t sl : Nat → Int32} {k : Nat} {S : LSr} (h : EI S.1 S.2.1 o) : EI (bel o wn wp t sl k S).2.1 (bel o wn wp t sl k S).2.2.1 o := by
  unfold bel
  by_cases c : ∀ i, i < wyN wn k → ¬ o (wyO wp k i) = 0
  · rw [cif_pos c]; exact EI_blv _ _ _ h
  · rw [cif_neg c]; exact h
theorem EI_rnd {o wn wp t sl : Nat → Int32} : ∀ (m k : Nat) (S : LSr) (y : Int32), EI S.1 S.2.1 o → EI (rnd o wn wp t sl m k S y).1.1 (rnd o wn wp t sl m k S y).1.2.1 o
  | 0, _, S, _, h => h
  | m + 1, k, S, y, h => by
    rw [rnd]; exact EI_rnd m (k + 1) _ _ (EI_bel h)
theorem EI_lrn {o wn wp t sl : Nat → Int32} {W : Nat} : ∀ (m c : Nat) (l u : Nat → Int32) (y : Int32), EI l u o → EI (lrn o wn wp t sl W m c l u y).2.1 (lrn o wn wp t sl W m c l u y).2.2.1 o
  | 0, _, _, _, _, h => h
  | m + 1, c, l, u, y, h => by
    have h1 := EI_rnd (wn := wn) (wp := wp) (t := t) (sl := sl) W 0 (l, u, 0) y h
    rw [lrn]
    by_cases q : (rnd o wn wp t sl W 0 (l, u, 0) y).1.2.2 = 0
    · rw [cif_pos q]; exact h1
    · rw [cif_neg q]; exact EI_lrn m (c + 1) _ _ _ h1
theorem x_l2i {v : Int64} (h1 : ¬ v < (-99 : Int64)) (h2 : ¬ (999 : Int64) < v) : ends v.toInt32 v.toInt32 := by
  rw [Int64.lt_iff_toInt_lt] at h1 h2
  have e1 : (-99 : Int64).toInt = -99 := by decide
  have e2 : (999 : Int64).toInt = 999 := by decide
  have e3 : v.toInt32.toInt = v.toInt := by
    rw [Int64.toInt_toInt32, Int.bmod_eq_of_le (by omega) (by omega)]
  have f1 : (-99 : Int32).toInt = -99 := by decide
  have f2 : (999 : Int32).toInt = 999 := by decide
  refine ⟨fun q => ?_, fun q => ?_, fun q => ?_⟩ <;> (rw [lt_iff9] at q; omega)
theorem EI_ly {nu : Nat → Int64} {P x : Nat} {l u o : Nat → Int32} (hP : P ≤ 10) (hx : x < 10) (h : EI l u o) : ∀ n, EI (lyF nu P x l n) (lyF nu P x u n) (lyO nu P x o n)
  | 0 => h
  | n + 1 => by
    have ih := EI_ly (nu := nu) hP hx h n
    by_cases c : lyOk nu P x n
    · rw [(ly_y c).1, (ly_y c).1, (ly_y c).2.1]
      exact ih.put hx (by have := c.1; omega) (fun e => c.2.1 e.symm) (x_l2i c.2.2.1 c.2.2.2)
    · rw [(ly_n c).1, (ly_n c).1, (ly_n c).2.1]; exact ih
theorem EI.la {nu : Nat → Int64} {P z : Nat} {b p : Int32} {l u o : Nat → Int32} (h : EI l u o) (hP : P ≤ 10) : EI (laF P z b p nu l) (laF P z b p nu u) (laO P z b p nu o) := by
  unfold laF laO
  by_cases c : okLa P b p
  · rw [if_pos c, if_pos c, if_pos c]
    obtain ⟨k, hk, rfl⟩ := isP_of hP c.2
    rw [nI_clamp (by omega)]
    exact EI_ly hP (by omega) h z
  · rw [if_neg c, if_neg c, if_neg c]; exact h
theorem EI.un {b : Int32} {l u o l2 u2 o2 : Nat → Int32} (h : EI l u o) (h2 : EI l2 u2 o2) : EI (unF b l l2) (unF b u u2) (unF b o o2) := by
  unfold unF
  by_cases c : b = 0
  · rw [if_pos c, if_pos c, if_pos c]; exact h
  · rw [if_neg c, if_neg c, if_neg c]; exact h2
theorem cif_inr {p : Prop} {x : PR} {u v : Nat} (h : cif p x (.inl u) = .inr v) : p ∧ x = .inr v := by
  by_cases c : p
  · rw [cif_pos c] at h; exact ⟨c, h⟩
  · rw [cif_neg c] at h; cases h
theorem spM_inr {b : Nat → Int32} {z u v : Nat} {lo hi : Int32} {k : Nat → PR} (h : spM b z u lo hi k = .inr v) : okMi b z u lo hi ∧ k (nx b z (mSt b z u)) = .inr v := cif_inr h
theorem spBk_inr {b : Nat → Int32} {z u v : Nat} (h : spBk b z u = .inr v) (h5 : tW b z u 5) : okMi b z (nx b z u) (-99) 999 := by
  unfold spBk at h
  rw [cif_pos h5] at h
  exact (spM_inr h).1
theorem spWay_inr {b : Nat → Int32} {z u P v : Nat} (hP : P ≤ 10) (h : spWay b z u P = .inr v) : wyFr b z u < P ∧ wyTo b z u < P ∧ ¬ wyTo b z u = wyFr b z u ∧ okMi b z (wyM1 b z u) (-99) 999 ∧ (tW b z (wyV1 b z u) 4 → okMi b z (nx b z (wyV1 b z u)) (mV b z (wyM1 b z u)) 999) ∧ (tW b z (wyV2 b z u) 5 → okMi b z (nx b z (wyV2 b z u)) (-99) 999) := by
  unfold spWay at h
  obtain ⟨h1, h2⟩ := cif_inr h
  unfold spWay1 at h2
  obtain ⟨h3, h4⟩ := cif_inr h2
  unfold spWay2 at h4
  obtain ⟨h5, h6⟩ := spM_inr h4
  refine ⟨okNu_lt hP h1, okNu_lt hP h3.1, h3.2, h5, ?_, ?_⟩
  · intro h7
    unfold spTo at h6
    rw [cif_pos h7] at h6
    exact (spM_inr h6).1
  · intro h8
    by_cases h7 : tW b z (wyV1 b z u) 4
    · unfold spTo at h6
      rw [cif_pos h7] at h6
      rw [wyV2_p h7] at h8 ⊢
      exact spBk_inr (spM_inr h6).2 h8
    · unfold spTo at h6
      rw [cif_neg h7] at h6
      rw [wyV2_n h7] at h8 ⊢
      exact spBk_inr h6 h8
theorem ends_mi {b : Nat → Int32} {z u : Nat} (h : okMi b z u (-99) 999) : ends (mV b z u) (mV b z u) := ⟨h.2.1, Int32.lt_irrefl, h.2.2⟩
theorem EI_st {b : Nat → Int32} {z u P W v : Nat} {l u2 o : Nat → Int32} (h : EI l u2 o) (hP : P ≤ 10) (hi : spItem b z u P W = .inr v) : EI (stL b z u P W l) (stU b z u P W u2) (stO b z u P W o) := by
  unfold stL stU stO
  by_cases w1 : tW b z u 1
  · rw [cif_pos w1, cif_pos w1, cif_pos w1]
    have w0 : ¬ tW b z u 0 := tW_ne w1 (show xLen.getD 1 0 ≠ xLen.getD 0 0 by decide)
    unfold spItem at hi
    rw [cif_neg w0, cif_pos w1] at hi
    obtain ⟨h1, h2, h3, h4, h5, h6⟩ := spWay_inr hP hi
    have he : ends (mV b z (wyM1 b z u)) (wyHi b z u) := by
      by_cases h7 : tW b z (wyV1 b z u) 4
      · rw [← wyHi_p h7]
        have q := h5 h7
        exact ⟨h4.2.1, q.2.1, q.2.2⟩
      · rw [← wyHi_n h7]; exact ends_mi h4
    unfold wy2
    by_cases w5 : tW b z (wyV2 b z u) 5
    · rw [cif_pos w5, cif_pos w5, cif_pos w5]
      exact (h.put (by omega) (by omega) (fun e => h3 e.symm) he).put (by omega) (by omega) h3 (ends_mi (h6 w5))
    · rw [cif_neg w5, cif_neg w5, cif_neg w5]
      exact h.put (by omega) (by omega) (fun e => h3 e.symm) he
  · rw [cif_neg w1, cif_neg w1, cif_neg w1]; exact h
theorem spP_le {b : Nat → Int32} {z u P W v : Nat} (hP : P ≤ 10) (hi : spItem b z u P W = .inr v) : spP b z u P ≤ 10 := by
  unfold spP
  by_cases w0 : tW b z u 0
  · rw [cif_pos w0]
    unfold spItem at hi
    rw [cif_pos w0] at hi
    unfold spPl at hi
    have := (cif_inr hi).1
    omega
  · rw [cif_neg w0]; exact hP
theorem EI_lz {b : Nat → Int32} {z : Nat} : ∀ (q u P W : Nat) (l u2 o : Nat → Int32), EI l u2 o → P ≤ 10 → EI (spLz b z (stL b z) q u P W l) (spLz b z (stU b z) q u P W u2) (spLz b z (stO b z) q u P W o)
  | 0, _, _, _, _, _, _, h, _ => h
  | q + 1, u, P, W, l, u2, o, h, hP => by
    rw [spLz, spLz, spLz]
    cases hi : spItem b z u P W with
    | inl v => exact h
    | inr v =>
      have h1 := EI_st (W := W) h hP hi
      show EI (cif (tK b z v = 3) (spLz b z (stL b z) q (nx b z v) (spP b z u P) (spW b z u W) (stL b z u P W l)) (stL b z u P W l)) (cif (tK b z v = 3) (spLz b z (stU b z) q (nx b z v) (spP b z u P) (spW b z u W) (stU b z u P W u2)) (stU b z u P W u2)) (cif (tK b z v = 3) (spLz b z (stO b z) q (nx b z v) (spP b z u P) (spW b z u W) (stO b z u P W o)) (stO b z u P W o))
      by_cases c : tK b z v = 3
      · rw [cif_pos c, cif_pos c, cif_pos c]; exact EI_lz q _ _ _ _ _ _ h1 (spP_le hP hi)
      · rw [cif_neg c, cif_neg c, cif_neg c]; exact h1
theorem EI.ld {b : Nat → Int32} {z P W : Nat} {l u o : Nat → Int32} {r : Nat ⊕ (Nat × Nat × Nat)} (h : EI l u o) (hP : P ≤ 10) : EI (spLF r l (spLz b z (stL b z) 120 0 P W l)) (spLF r u (spLz b z (stU b z) 120 0 P W u)) (spLF r o (spLz b z (stO b z) 120 0 P W o)) := by
  cases r with
  | inl v => exact h
  | inr x => exact EI_lz 120 0 P W l u o h hP
/-! counts -/
def ctW (o : Nat → Int32) : Nat → Nat
  | 0 => 0
  | n + 1 => if o n = 0 then ctW o n else ctW o n + 1
def cuW (l u o : Nat → Int32) : Nat → Nat
  | 0 => 0
  | n + 1 => if ¬ o n = 0 ∧ l n < u n then cuW l u o n + 1 else cuW l u o n
def abW (l u o : Nat → Int32) : Nat → Int32
  | 0 => 0
  | n + 1 => if o n = 0 then abW l u o n else abW l u o n + (u n - l n)
def suE (e : Nat → Int32) : Nat → Int32
  | 0 => 0
  | n + 1 => suE e n + e n
theorem ctW_z {o : Nat → Int32} {n : Nat} (h : o n = 0) : ctW o (n + 1) = ctW o n := if_pos h
theorem ctW_y {o : Nat → Int32} {n : Nat} (h : ¬ o n = 0) : ctW o (n + 1) = ctW o n + 1 := if_neg h
theorem cuW_y {l u o : Nat → Int32} {n : Nat} (h : ¬ o n = 0) (h2 : l n < u n) : cuW l u o (n + 1) = cuW l u o n + 1 := if_pos ⟨h, h2⟩
theorem cuW_n {l u o : Nat → Int32} {n : Nat} (h : ¬ (¬ o n = 0 ∧ l n < u n)) : cuW l u o (n + 1) = cuW l u o n := if_neg h
theorem abW_z {l u o : Nat → Int32} {n : Nat} (h : o n = 0) : abW l u o (n + 1) = abW l u o n := if_pos h
theorem abW_y {l u o : Nat → Int32} {n : Nat} (h : ¬ o n = 0) : abW l u o (n + 1) = abW l u o n + (u n - l n) := if_neg h
theorem ends_sub {a b : Int32} (h : ends a b) : (b - a).toInt = b.toInt - a.toInt := by
  have h1 := ends_lo h
  have h2 := h.2.1
  have h3 := h.2.2
  rw [lt_iff9] at h2 h3
  have e2 : (999 : Int32).toInt = 999 := by decide
  rw [Int32.toInt_sub, Int.bmod_eq_of_le (by omega) (by omega)]
theorem ends_ge {a b : Int32} (h : ends a b) : 0 ≤ b - a := by
  have h2 := h.2.1
  rw [lt_iff9] at h2
  rw [Int32.le_iff_toInt_le, ends_sub h, z0I]
  omega
theorem ends_gt {a b : Int32} (h : ends a b) (q : ¬ b - a ≤ 0) : a < b := by
  rw [Int32.le_iff_toInt_le, ends_sub h, z0I] at q
  rw [lt_iff9]; omega
theorem ends_eq {a b : Int32} (h : ends a b) (q : b - a ≤ 0) : ¬ a < b ∧ b - a = 0 := by
  have h2 := h.2.1
  rw [lt_iff9] at h2
  rw [Int32.le_iff_toInt_le, ends_sub h, z0I] at q
  refine ⟨fun w => ?_, ?_⟩
  · rw [lt_iff9] at w; omega
  · apply Int32.toInt_inj.mp
    rw [ends_sub h, z0I]; omega
def knR (w : Int32) (l u o : Nat → Int32) : Int32 := if w = 0 then nI (ctW o 100) else if w = 1 then nI (cuW l u o 100) else if w = 2 then abW l u o 100 else -1000000001
theorem kn_0 {w : Int32} {l u o : Nat → Int32} (h : w = 0) : nI (ctW o 100) = knR w l u o := (if_pos h).symm
theorem kn_1 {w : Int32} {l u o : Nat → Int32} (h : ¬ w = 0) (h1 : w = 1) : nI (cuW l u o 100) = knR w l u o := ((if_neg h).trans (if_pos h1)).symm
theorem kn_2 {w : Int32} {l u o : Nat → Int32} (h : ¬ w = 0) (h1 : ¬ w = 1) (h2 : w = 2) : abW l u o 100 = knR w l u o := ((if_neg h).trans ((if_neg h1).trans (if_pos h2))).symm
theorem kn_b {w : Int32} {l u o : Nat → Int32} (h : ¬ w = 0) (h1 : ¬ w = 1) (h2 : ¬ w = 2) : (-1000000001 : Int32) = knR w l u o := ((if_neg h).trans ((if_neg h1).trans (if_neg h2))).symm
theorem kn_o {w : Int32} {l u o : Nat → Int32} (h : w < 0 ∨ 2 < w) : (-1000000001 : Int32) = knR w l u o := by
  refine kn_b ?_ ?_ ?_ <;> (intro e; subst e; revert h; decide)
theorem x_w2 {w : Int32} (h1 : ¬ w < 0) (h2 : ¬ 2 < w) (h3 : ¬ w = 0) (h4 : ¬ w = 1) : w = 2 := by
  obtain ⟨k, hk, rfl⟩ := nI_of h1
  have h5 := xn_nlt (a := 2) (b := k) (by omega) hk h2
  rcases (show k = 0 ∨ k = 1 ∨ k = 2 by omega) with rfl | rfl | rfl
  · exact absurd rfl h3
  · exact absurd rfl h4
  · rfl
def coR (w : Int32) (P R W z : Nat) (e o : Nat → Int32) : Int32 := if w = 0 then nI P else if w = 1 then nI (ctW o 100) else if w = 2 then nI R else if w = 3 then nI W else if w = 4 then nI z else if w = 5 then suE e P else -1000000001
theorem co_o {w : Int32} {P R W z : Nat} {e o : Nat → Int32} (h : w.toInt < 0 ∨ 5 < w.toInt) : (-1000000001 : Int32) = coR w P R W z e o := by
  have k : ∀ n : Nat, n ≤ 5 → ¬ w = nI n := fun n hn q => by
    rw [q, nI_toInt (by omega)] at h; omega
  unfold coR
  rw [if_neg (show ¬ w = 0 from k 0 (by omega)), if_neg (show ¬ w = 1 from k 1 (by omega)), if_neg (show ¬ w = 2 from k 2 (by omega)), if_neg (show ¬ w = 3 from k 3 (by omega)), if_neg (show ¬ w = 4 from k 4 (by omega)), if_neg (show ¬ w = 5 from k 5 (by omega))]
/-! paper -/
def paR (P : Nat) (a b : Int32) (l o : Nat → Int32) : Int32 := if twoP P a b then (if o (at10 a b) = 1 ∧ o (at10 b a) = 1 then (l (at10 a b) + l (at10 b a)) / 2 else -1000000004) else -1000000001
theorem pa_b {P : Nat} {a b : Int32} {l o : Nat → Int32} (h : ¬ twoP P a b) : (-1000000001 : Int32) = paR P a b l o := (if_neg h).symm
theorem pa_n {P j k : Nat} {l o : Nat → Int32} (hP : P ≤ 10) (hj : j < P) (hk : k < P) (hn : j ≠ k) (h : ¬ (o (10 * j + k) = 1 ∧ o (10 * k + j) = 1)) : (-1000000004 : Int32) = paR P (nI j) (nI k) l o := by
  unfold paR; rw [if_pos (twoP_nI hP hj hk hn), at10_nI (by omega) (by omega), at10_nI (by omega) (by omega), if_neg h]
theorem pa_y {P j k : Nat} {l o : Nat → Int32} (hP : P ≤ 10) (hj : j < P) (hk : k < P) (hn : j ≠ k) (h : o (10 * j + k) = 1 ∧ o (10 * k + j) = 1) : (l (10 * j + k) + l (10 * k + j)) / 2 = paR P (nI j) (nI k) l o := by
  unfold paR; rw [if_pos (twoP_nI hP hj hk hn), at10_nI (by omega) (by omega), at10_nI (by omega) (by omega), if_pos h]
/-- the most off paper: of one place, of all -/
def wsA (l : Nat → Int32) (a b : Nat) : Int32 := if l (10 * a + b) - (l (10 * a + b) + l (10 * b + a)) / 2 < 0 then 0 - (l (10 * a + b) - (l (10 * a + b) + l (10 * b + a)) / 2) else l (10 * a + b) - (l (10 * a + b) + l (10 * b + a)) / 2
abbrev boB (o : Nat → Int32) (a b : Nat) : Prop := a ≠ b ∧ o (10 * a + b) = 1 ∧ o (10 * b + a) = 1
def wsI (l o : Nat → Int32) (a : Nat) (u : Int32) : Nat → Int32
  | 0 => u
  | n + 1 => if boB o a n then (if wsI l o a u n < wsA l a n then wsA l a n else wsI l o a u n) else wsI l o a u n
def wsO (l o : Nat → Int32) (P : Nat) : Nat → Int32
  | 0 => -1
  | n + 1 => wsI l o n (wsO l o P n) P
theorem wsI_y {l o : Nat → Int32} {a n : Nat} {u : Int32} (h : boB o a n) : wsI l o a u (n + 1) = if wsI l o a u n < wsA l a n then wsA l a n else wsI l o a u n := if_pos h
theorem wsI_n {l o : Nat → Int32} {a n : Nat} {u : Int32} (h : ¬ boB o a n) : wsI l o a u (n + 1) = wsI l o a u n := if_neg h
def wsR (l o : Nat → Int32) (P : Nat) : Int32 := if wsO l o P P < 0 then -1000000004 else wsO l o P P
theorem x_abs {x : Int32} : (if 0 ≤ x then x else 0 - x) = if x < 0 then 0 - x else x := by
  by_cases h : x < 0
  · rw [if_pos h, if_neg (Int32.not_le.mpr h)]
  · rw [if_neg h, if_pos (Int32.not_lt.mp h)]
/-! the nearest -/
def nrN (l o : Nat → Int32) (a : Nat) : Nat → Int32
  | 0 => -1
  | n + 1 => if o (10 * a + n) = 1 ∧ (nrN l o a n < 0 ∨ l (10 * a + n) < l (10 * a + (nrN l o a n).toNatClampNeg)) then nI n else nrN l o a n
theorem nrN_y {l o : Nat → Int32} {a n : Nat} (h : o (10 * a + n) = 1) (h2 : nrN l o a n < 0 ∨ l (10 * a + n) < l (10 * a + (nrN l o a n).toNatClampNeg)) : nrN l o a (n + 1) = nI n := if_pos ⟨h, h2⟩
theorem nrN_n {l o : Nat → Int32} {a n : Nat} (h : ¬ (o (10 * a + n) = 1 ∧ (nrN l o a n < 0 ∨ l (10 * a + n) < l (10 * a + (nrN l o a n).toNatClampNeg)))) : nrN l o a (n + 1) = nrN l o a n := if_neg h
def gsN (l o : Nat → Int32) (P : Nat) (a : Int32) : Nat → Int32
  | 0 => a
  | n + 1 => if gsN l o P a n < 0 then gsN l o P a n else nrN l o (gsN l o P a n).toNatClampNeg P
theorem gsN_n {l o : Nat → Int32} {P n : Nat} {a : Int32} (h : gsN l o P a n < 0) : gsN l o P a (n + 1) = gsN l o P a n := if_pos h
theorem gsN_y {l o : Nat → Int32} {P n : Nat} {a : Int32} (h : ¬ gsN l o P a n < 0) : gsN l o P a (n + 1) = nrN l o (gsN l o P a n).toNatClampNeg P := if_neg h
theorem gsN_st {l o : Nat → Int32} {P n : Nat} {a : Int32} (h : gsN l o P a n < 0) : ∀ d, gsN l o P a (n + d) = gsN l o P a n
  | 0 => rfl
  | d + 1 => by
    have ih := gsN_st h d
    rw [← Nat.add_assoc, gsN_n (by rw [ih]; exact h), ih]
abbrev okGo (P : Nat) (p n : Int32) : Prop := isP P p ∧ (¬ n < 0 ∧ ¬ 1000 < n)
def goR (P : Nat) (p n : Int32) (l o : Nat → Int32) : Int32 := if okGo P p n then (if gsN l o P p n.toNatClampNeg < 0 then -1000000004 else gsN l o P p n.toNatClampNeg) else -1000000001
theorem go_b {P : Nat} {p n : Int32} {l o : Nat → Int32} (h : ¬ okGo P p n) : (-1000000001 : Int32) = goR P p n l o := (if_neg h).symm
theorem go_y {P j n : Nat} {l o : Nat → Int32} (hP : P ≤ 10) (hj : j < P) (hn : n ≤ 1000) : (gsN l o P (nI j) n < 0 → (-1000000004 : Int32) = goR P (nI j) (nI n) l o) ∧ (¬ gsN l o P (nI j) n < 0 → gsN l o P (nI j) n = goR P (nI j) (nI n) l o) := by
  have ok : okGo P (nI j) (nI n) := ⟨isP_nI (by omega) hj, nI_pos (by omega), fun h => by have := xn_lt (a := 1000) (b := n) (by omega) (by omega) h; omega⟩
  have e : goR P (nI j) (nI n) l o = if gsN l o P (nI j) n < 0 then -1000000004 else gsN l o P (nI j) n := by
    unfold goR
    rw [if_pos ok, nI_clamp (show n < 2 ^ 31 by omega)]
  exact ⟨fun h => (e.trans (if_pos h)).symm, fun h => (e.trans (if_neg h)).symm⟩
theorem gs_y {l o : Nat → Int32} {P n y : Nat} {a : Int32} (hg : nI y = gsN l o P a n) (hy : y < 2 ^ 31) : nrN l o y P = gsN l o P a (n + 1) := by
  rw [gsN_y (by rw [← hg]; exact nI_pos hy), ← hg, nI_clamp hy]
theorem nr_lt {l o : Nat → Int32} {a n y : Nat} (hx : nI y = nrN l o a n) (hy : y < 2 ^ 31) : (nrN l o a n < 0 ∨ l (10 * a + n) < l (10 * a + (nrN l o a n).toNatClampNeg)) ↔ l (10 * a + n) < l (10 * a + y) := by
  rw [← hx, nI_clamp hy]
  exact ⟨fun h => h.resolve_left (nI_pos hy), Or.inr⟩
theorem nr_c {l o : Nat → Int32} {a n P : Nat} {x z : Int32} (hx : x = nrN l o a n) (hz : (x = -1 ∧ z = 1000000000) ∨ ∃ y, y < P ∧ x = nI y ∧ z = l (10 * a + y)) (hP : P ≤ 10) (hl : l (10 * a + n) < 1000000000) : l (10 * a + n) < z ↔ (nrN l o a n < 0 ∨ l (10 * a + n) < l (10 * a + (nrN l o a n).toNatClampNeg)) := by
  rcases hz with ⟨h1, h2⟩ | ⟨y, hy, h1, h2⟩
  · rw [← hx, h1, h2]
    exact ⟨fun _ => Or.inl (by decide), fun _ => hl⟩
  · rw [h2]; exact (nr_lt (h1 ▸ hx) (by omega)).symm
theorem EI.el {l u o : Nat → Int32} (h : EI l u o) : ∀ j, j < 100 → o j = 1 → l j < 1000000000 := by
  intro j hj h1
  have he := ends_lo (h.1 j hj (by rw [h1]; decide))
  rw [lt_iff9, show (1000000000 : Int32).toInt = 1000000000 from by decide]
  omega
theorem cnt_0 {P R W z : Nat} {e o : Nat → Int32} : nI P = coR 0 P R W z e o := by unfold coR; rw [if_pos rfl]
theorem cnt_1 {P R W z : Nat} {e o : Nat → Int32} : nI (ctW o 100) = coR 1 P R W z e o := by unfold coR; rw [if_neg (by decide), if_pos rfl]
theorem cnt_2 {P R W z : Nat} {e o : Nat → Int32} : nI R = coR 2 P R W z e o := by unfold coR; rw [if_neg (by decide), if_neg (by decide), if_pos rfl]
theorem cnt_3 {P R W z : Nat} {e o : Nat → Int32} : nI W = coR 3 P R W z e o := by unfold coR; rw [if_neg (by decide), if_neg (by decide), if_neg (by decide), if_pos rfl]
theorem cnt_4 {P R W z : Nat} {e o : Nat → Int32} : nI z = coR 4 P R W z e o := by unfold coR; rw [if_neg (by decide), if_neg (by decide), if_neg (by decide), if_neg (by decide), if_pos rfl]
theorem cnt_5 {P R W z : Nat} {e o : Nat → Int32} : suE e P = coR 5 P R W z e o := by unfold coR; rw [if_neg (by decide), if_neg (by decide), if_neg (by decide), if_neg (by decide), if_neg (by decide), if_pos rfl]
