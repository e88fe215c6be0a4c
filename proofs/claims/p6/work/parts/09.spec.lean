/-! what the acts answer, in plain words -/
def sp_fz (z : Nat) (p : Int32) : Nat := if p = 1 ∨ p = 2 ∨ p = 3 ∨ p = 4 then (if z + p.toNatClampNeg ≤ 120 then z + p.toNatClampNeg else z) else z
def sp_fr (z : Nat) (p : Int32) : Int32 := if p = 1 ∨ p = 2 ∨ p = 3 ∨ p = 4 then (if z + p.toNatClampNeg ≤ 120 then nI (z + p.toNatClampNeg) else (-1000000002)) else (-1000000001)
theorem sp_f1 {p : Int32} {c z : Nat} (e : p.toNatClampNeg = c) (hp : p = 1 ∨ p = 2 ∨ p = 3 ∨ p = 4) (h : z + c ≤ 120) : sp_fz z p = z + c ∧ sp_fr z p = nI (z + c) := by
  subst e
  unfold sp_fz sp_fr
  rw [if_pos hp, if_pos hp, if_pos h, if_pos h]
  exact ⟨rfl, rfl⟩
theorem sp_f2 {p : Int32} {c z : Nat} (e : p.toNatClampNeg = c) (hp : p = 1 ∨ p = 2 ∨ p = 3 ∨ p = 4) (h : 120 < z + c) : sp_fz z p = z ∧ sp_fr z p = -1000000002 := by
  subst e
  unfold sp_fz sp_fr
  rw [if_pos hp, if_pos hp, if_neg (by omega), if_neg (by omega)]
  exact ⟨rfl, rfl⟩
theorem sp_f3 {p : Int32} {z : Nat} (h : p < 1 ∨ 4 < p) : sp_fz z p = z ∧ sp_fr z p = -1000000001 := by
  have hn : ¬ (p = 1 ∨ p = 2 ∨ p = 3 ∨ p = 4) := by
    intro q
    rcases q with q | q | q | q <;> (subst q; revert h; decide)
  unfold sp_fz sp_fr
  rw [if_neg hn, if_neg hn]
  exact ⟨rfl, rfl⟩
def a_sheet (s b n : Int32) : Int32 := if s < 0 ∨ 3 < s then -1000000001 else if ¬ (b = 0 ∨ b = 8 ∨ b = 16 ∨ b = 64) then -1000000001 else if n < 0 then -1000000007 else if 40 < n then -1000000001 else if b = 0 then 0 else n
theorem p_no {a lo hi : Int32} (h1 : ¬ a < lo) (h2 : ¬ hi < a) : ¬ (a < lo ∨ hi < a) := fun h => h.elim h1 h2
theorem p_sheet1 {s b n : Int32} (h : s < 0 ∨ 3 < s) : (-1000000001 : Int32) = a_sheet s b n := (if_pos h).symm
theorem p_sheet2 {s b n : Int32} (h1 : ¬ s < 0) (h2 : ¬ 3 < s) (b0 : ¬ b = 0) (b1 : ¬ b = 8) (b2 : ¬ b = 16) (b3 : ¬ b = 64) : (-1000000001 : Int32) = a_sheet s b n := by
  unfold a_sheet
  rw [if_neg (p_no h1 h2), if_pos (fun h => by rcases h with h | h | h | h <;> contradiction)]
theorem p_sheet3 {s b n : Int32} (h1 : ¬ s < 0) (h2 : ¬ 3 < s) (hb : b = 0 ∨ b = 8 ∨ b = 16 ∨ b = 64) (h : n < 0) : (-1000000007 : Int32) = a_sheet s b n := by
  unfold a_sheet
  rw [if_neg (p_no h1 h2), if_neg (fun q => q hb), if_pos h]
theorem p_sheet4 {s b n : Int32} (h1 : ¬ s < 0) (h2 : ¬ 3 < s) (hb : b = 0 ∨ b = 8 ∨ b = 16 ∨ b = 64) (h : ¬ n < 0) (h3 : 40 < n) : (-1000000001 : Int32) = a_sheet s b n := by
  unfold a_sheet
  rw [if_neg (p_no h1 h2), if_neg (fun q => q hb), if_neg h, if_pos h3]
theorem p_sheet5 {s b n : Int32} (h1 : ¬ s < 0) (h2 : ¬ 3 < s) (hb : b = 0) (h : ¬ n < 0) (h3 : ¬ 40 < n) : (0 : Int32) = a_sheet s b n := by
  unfold a_sheet
  rw [if_neg (p_no h1 h2), if_neg (fun q => q (Or.inl hb)), if_neg h, if_neg h3, if_pos hb]
theorem p_sheet6 {s b n : Int32} (h1 : ¬ s < 0) (h2 : ¬ 3 < s) (hb : b = 0 ∨ b = 8 ∨ b = 16 ∨ b = 64) (h : ¬ n < 0) (h3 : ¬ 40 < n) (hn : ¬ b = 0) : n = a_sheet s b n := by
  unfold a_sheet
  rw [if_neg (p_no h1 h2), if_neg (fun q => q hb), if_neg h, if_neg h3, if_neg hn]
theorem x_le3 {y : Nat} (h : y ≤ 3) : ¬ (3 : Int32) < nI y := fun q => by
  have := xn_lt (a := 3) (b := y) (by omega) (by omega) q
  omega
theorem x_le40 {y : Nat} (h : y ≤ 40) : ¬ (40 : Int32) < nI y := fun q => by
  have := xn_lt (a := 40) (b := y) (by omega) (by omega) q
  omega
/-! sheets -/
abbrev sp_sok (b n : Int32) : Prop := (b = 0 ∨ b = 8 ∨ b = 16 ∨ b = 64) ∧ ¬ n < 0 ∧ ¬ 40 < n
def sp_sb (b n x : Int32) : Int32 := if sp_sok b n then b else x
def sp_sz (b n : Int32) (z : Nat) : Nat := if sp_sok b n then (if b = 0 then 0 else n.toNatClampNeg) else z
def sp_sn (b n : Int32) (x : Int64) : Int64 := if sp_sok b n then 0 else x
theorem sp_n2 {b n : Int32} (b0 : ¬ b = 0) (b1 : ¬ b = 8) (b2 : ¬ b = 16) (b3 : ¬ b = 64) : ¬ sp_sok b n := fun h => by
  rcases h.1 with h | h | h | h <;> contradiction
theorem sp_n3 {b n : Int32} (h : n < 0) : ¬ sp_sok b n := fun q => q.2.1 h
theorem sp_n4 {b n : Int32} (h : 40 < n) : ¬ sp_sok b n := fun q => q.2.2 h
theorem sp_z0 {b n : Int32} {z : Nat} (Y : sp_sok b n) (h0 : b = 0) : 0 = sp_sz b n z := by
  unfold sp_sz; rw [if_pos Y, if_pos h0]
theorem sp_z1 {b : Int32} {y z : Nat} (Y : sp_sok b (nI y)) (h0 : ¬ b = 0) (hy : y ≤ 40) : y = sp_sz b (nI y) z := by
  unfold sp_sz; rw [if_pos Y, if_neg h0, nI_clamp (show y < 2 ^ 31 by omega)]
def sp_low (b : Int32) (v : Int64) : Int64 := if b = 8 then v.toInt32.toInt8.toInt32.toInt64 else if b = 16 then v.toInt32.toInt16.toInt32.toInt64 else v
theorem sp_low8 {b : Int32} {v : Int64} (h : b = 8) : v.toInt32.toInt8.toInt32.toInt64 = sp_low b v := (if_pos h).symm
theorem sp_low16 {b : Int32} {v : Int64} (h : ¬ b = 8) (h2 : b = 16) : v.toInt32.toInt16.toInt32.toInt64 = sp_low b v := by unfold sp_low; rw [if_neg h, if_pos h2]
theorem sp_low64 {b : Int32} {v : Int64} (h : ¬ b = 8) (h2 : ¬ b = 16) : v = sp_low b v := by unfold sp_low; rw [if_neg h, if_neg h2]
abbrev sp_wok (z : Nat) (i : Int32) : Prop := ¬ i < 0 ∧ i < nI z
def sp_wr (b : Int32) (z : Nat) (i : Int32) (x : Int64) : Int64 := if b = 0 then -1000000006 else if sp_wok z i then x else -1000000001
def sp_wn (b : Int32) (z : Nat) (i : Int32) (v : Int64) (j : Nat) (x : Int64) : Int64 := if ¬ b = 0 ∧ sp_wok z i ∧ j = i.toNatClampNeg then sp_low b v else x
theorem sp_w1 {b : Int32} {z : Nat} {i : Int32} {v : Int64} {j : Nat} {x : Int64} (h : b = 0) : x = sp_wn b z i v j x := (if_neg (fun q => q.1 h)).symm
theorem sp_w2 {b : Int32} {z : Nat} {i : Int32} {v : Int64} {j : Nat} {x : Int64} (h : ¬ sp_wok z i) : x = sp_wn b z i v j x := (if_neg (fun q => h q.2.1)).symm
theorem sp_wr1 {b : Int32} {z : Nat} {i : Int32} {x : Int64} (h : b = 0) : -1000000006 = sp_wr b z i x := (if_pos h).symm
theorem sp_wr2 {b : Int32} {z : Nat} {i : Int32} {x : Int64} (hb : ¬ b = 0) (h : ¬ sp_wok z i) : -1000000001 = sp_wr b z i x := by
  unfold sp_wr; rw [if_neg hb, if_neg h]
theorem sp_yok {y z : Nat} (hy : y < z) (hz : z ≤ 40) : sp_wok z (nI y) := ⟨nI_pos (by omega), (nI_ltI (by omega) (by omega)).mpr hy⟩
theorem sp_wr3 {b : Int32} {z y : Nat} {f : Nat → Int64} (hb : ¬ b = 0) (hy : y < z) (hz : z ≤ 40) : f y = sp_wr b z (nI y) (f (nI y).toNatClampNeg) := by
  unfold sp_wr; rw [if_neg hb, if_pos (sp_yok hy hz), nI_clamp (show y < 2 ^ 31 by omega)]
theorem sp_w3 {b : Int32} {z y K j : Nat} {v : Int64} {f g : Nat → Int64} (hb : ¬ b = 0) (hy : y < z) (hz : z ≤ 40) (e : g = vp_updL f (K + y) (sp_low b v)) : g (K + j) = sp_wn b z (nI y) v j (f (K + j)) := by
  unfold sp_wn
  rw [e]
  by_cases q : j = y
  · subst q
    rw [pk_uLs, if_pos ⟨hb, sp_yok hy hz, (nI_clamp (show j < 2 ^ 31 by omega)).symm⟩]
  · rw [pk_uLn (by omega), if_neg]
    intro h
    rw [nI_clamp (show y < 2 ^ 31 by omega)] at h
    exact q h.2.2
theorem sp_w30 {b : Int32} {z y j : Nat} {v : Int64} {f g : Nat → Int64} (hb : ¬ b = 0) (hy : y < z) (hz : z ≤ 40) (e : g = vp_updL f y (sp_low b v)) : g j = sp_wn b z (nI y) v j (f j) := by
  have := sp_w3 (K := 0) (j := j) (b := b) (v := v) (f := f) (g := g) hb hy hz (by rw [e, Nat.zero_add])
  rw [Nat.zero_add] at this
  exact this
theorem sp_w5 {z : Nat} {i x : Int32} (hz : z ≤ 40) (ex : x = nI z - 1) (h : i < 0 ∨ x < i) : ¬ sp_wok z i := by
  intro q
  rcases h with h | h
  · exact q.1 h
  · obtain ⟨k, hk, rfl⟩ := nI_of q.1
    have hkz := xn_lt (a := k) (b := z) hk (by omega) q.2
    rw [ex, Int32.lt_iff_toInt_lt, show (nI z - 1 : Int32) = nI z - nI 1 from rfl, pk_sub_toInt (by omega) (by omega), nI_toInt hk] at h
    omega
theorem xnum3 {x : Int32} {P : Nat} (hP : P ≤ 40) (h0 : ¬ x < 0) (h : x < nI P) : ∃ y, y < P ∧ x = nI y := by
  obtain ⟨k, e, hk⟩ := x_num (by omega) h0 h
  exact ⟨k, hk, e⟩
/-- a span of n from f on in a row of z -/
abbrev sp_span (z : Nat) (f n : Int32) : Prop := ¬ f < 0 ∧ ¬ n < 0 ∧ f.toInt + n.toInt ≤ (z : Int)
def sp_cr (bs bt : Int32) (zs zt : Nat) (f t n : Int32) : Int32 := if bs = 0 ∨ bt = 0 then -1000000006 else if ¬ bs = bt then -1000000003 else if sp_span zs f n ∧ sp_span zt t n then n else -1000000001
abbrev sp_cok (bs bt : Int32) (zs zt : Nat) (f t n : Int32) : Prop := ¬ bs = 0 ∧ ¬ bt = 0 ∧ bs = bt ∧ sp_span zs f n ∧ sp_span zt t n
def sp_cn (bs bt : Int32) (zs zt : Nat) (f t n : Int32) (src : Nat → Int64) (j : Nat) (x : Int64) : Int64 := if sp_cok bs bt zs zt f t n ∧ t.toNatClampNeg ≤ j ∧ j < t.toNatClampNeg + n.toNatClampNeg then src (f.toNatClampNeg + (j - t.toNatClampNeg)) else x
theorem sp_c0 {bs bt : Int32} {zs zt : Nat} {f t n : Int32} {src : Nat → Int64} {j : Nat} {x : Int64} (h : ¬ sp_cok bs bt zs zt f t n) : x = sp_cn bs bt zs zt f t n src j x := (if_neg (fun q => h q.1)).symm
theorem sp_cr1 {bs bt : Int32} {zs zt : Nat} {f t n : Int32} (h : bs = 0 ∨ bt = 0) : -1000000006 = sp_cr bs bt zs zt f t n := (if_pos h).symm
theorem sp_cr2 {bs bt : Int32} {zs zt : Nat} {f t n : Int32} (h1 : ¬ bs = 0) (h2 : ¬ bt = 0) (h : ¬ bs = bt) : -1000000003 = sp_cr bs bt zs zt f t n := by
  unfold sp_cr; rw [if_neg (fun q => q.elim h1 h2), if_pos h]
theorem sp_cr3 {bs bt : Int32} {zs zt : Nat} {f t n : Int32} (h1 : ¬ bs = 0) (h2 : ¬ bt = 0) (h : bs = bt) (h3 : ¬ (sp_span zs f n ∧ sp_span zt t n)) : -1000000001 = sp_cr bs bt zs zt f t n := by
  unfold sp_cr; rw [if_neg (fun q => q.elim h1 h2), if_neg (fun q => q h), if_neg h3]
theorem sp_cr4 {bs bt : Int32} {zs zt : Nat} {f t n : Int32} (h1 : ¬ bs = 0) (h2 : ¬ bt = 0) (h : bs = bt) (h3 : sp_span zs f n) (h4 : sp_span zt t n) : n = sp_cr bs bt zs zt f t n := by
  unfold sp_cr; rw [if_neg (fun q => q.elim h1 h2), if_neg (fun q => q h), if_pos ⟨h3, h4⟩]
theorem sp_nspan {j k z : Nat} (hz : z ≤ 40) (h : j + k ≤ z) : sp_span z (nI j) (nI k) := by
  refine ⟨nI_pos (by omega), nI_pos (by omega), ?_⟩
  rw [nI_toInt (by omega), nI_toInt (by omega)]
  omega
theorem sp_c1 {bs bt : Int32} {zs zt j t k K M i : Nat} {f g h : Nat → Int64} (hs : zs ≤ 40) (ht : zt ≤ 40) (h1 : ¬ bs = 0) (h2 : ¬ bt = 0) (h3 : bs = bt) (hj : j + k ≤ zs) (hk : t + k ≤ zt)
    (e : ∀ i, h (K + i) = if t ≤ i ∧ i < t + k then f (M + (j + (i - t))) else g (K + i)) : h (K + i) = sp_cn bs bt zs zt (nI j) (nI t) (nI k) (fun q => f (M + q)) i (g (K + i)) := by
  unfold sp_cn
  rw [e i, nI_clamp (show j < 2 ^ 31 by omega), nI_clamp (show t < 2 ^ 31 by omega), nI_clamp (show k < 2 ^ 31 by omega)]
  have hc : sp_cok bs bt zs zt (nI j) (nI t) (nI k) := ⟨h1, h2, h3, sp_nspan hs hj, sp_nspan ht hk⟩
  by_cases q : t ≤ i ∧ i < t + k
  · rw [if_pos q, if_pos ⟨hc, q⟩]
  · rw [if_neg q, if_neg (fun w => q w.2)]
theorem sp_c2 {bs bt : Int32} {zs zt j t k i : Nat} {f g h : Nat → Int64} (hs : zs ≤ 40) (ht : zt ≤ 40) (h1 : ¬ bs = 0) (h2 : ¬ bt = 0) (h3 : bs = bt) (hj : j + k ≤ zs) (hk : t + k ≤ zt)
    (e : h = va_cpy f g (nI j).toNatClampNeg (nI t).toNatClampNeg (nI k).toNatClampNeg) : h i = sp_cn bs bt zs zt (nI j) (nI t) (nI k) f i (g i) := by
  have := sp_c1 (K := 0) (M := 0) (i := i) (f := f) (g := g) (h := h) hs ht h1 h2 h3 hj hk (by
    intro i
    rw [e, nI_clamp (show j < 2 ^ 31 by omega), nI_clamp (show t < 2 ^ 31 by omega), nI_clamp (show k < 2 ^ 31 by omega), Nat.zero_add, Nat.zero_add]
    rfl)
  simpa only [Nat.zero_add] using this
/-- how far the copying has come: first into the row between, then out of it -/
theorem sp_mv1 {m m2 f : Nat → Int64} {b i : Nat} (h : ∀ j, j < i → m j = f (b + j)) (e : m2 = vp_updL m i (f (b + i))) : ∀ j, j < i + 1 → m2 j = f (b + j) := by
  intro j hj
  rw [e]
  by_cases q : j = i
  · subst q; exact pk_uLs
  · rw [pk_uLn q]; exact h j (by omega)
theorem sp_mv2 {n n2 n0 m : Nat → Int64} {b i : Nat} (h : ∀ j, n j = if b ≤ j ∧ j < b + i then m (j - b) else n0 j) (e : n2 = vp_updL n (b + i) (m i)) : ∀ j, n2 j = if b ≤ j ∧ j < b + (i + 1) then m (j - b) else n0 j := by
  intro j
  rw [e]
  by_cases q : j = b + i
  · subst q
    rw [pk_uLs, if_pos (by omega), Nat.add_sub_cancel_left]
  · rw [pk_uLn q, h j]
    by_cases w : b ≤ j ∧ j < b + i
    · rw [if_pos w, if_pos (by omega)]
    · rw [if_neg w, if_neg (by omega)]
theorem sp_mv3 {n n0 m f : Nat → Int64} {b s k K M t j i : Nat} (h : ∀ j, n j = if b ≤ j ∧ j < b + k then m (j - b) else n0 j) (hm : ∀ j, j < k → m j = f (s + j)) (hb : b = K + t) (hs : s = M + j) : n (K + i) = if t ≤ i ∧ i < t + k then f (M + (j + (i - t))) else n0 (K + i) := by
  rw [h (K + i)]
  by_cases q : t ≤ i ∧ i < t + k
  · rw [if_pos (by omega), if_pos q, hm _ (by omega)]
    congr 1
    omega
  · rw [if_neg (by omega), if_neg q]
theorem sp_s1 {z : Nat} {f n : Int32} (h : f < 0) : ¬ sp_span z f n := fun q => q.1 h
theorem sp_s2 {z : Nat} {f n : Int32} (h : n < 0) : ¬ sp_span z f n := fun q => q.2.1 h
theorem sp_s3 {z : Nat} {f n : Int32} (hz : z ≤ 40) (h1 : ¬ f < 0) (h2 : ¬ n < 0) (h : nI z < n) : ¬ sp_span z f n := fun q => by
  have h3 := q.2.2
  rw [Int32.lt_iff_toInt_lt] at h h1
  rw [nI_toInt (by omega)] at h
  have e0 : (0 : Int32).toInt = 0 := by decide
  omega
theorem sp_s4 {z : Nat} {f n : Int32} (hz : z ≤ 40) (h1 : ¬ f < 0) (h2 : ¬ n < 0) (h3 : ¬ nI z < n) (h : nI z - n < f) : ¬ sp_span z f n := fun q => by
  obtain ⟨k, hk, rfl⟩ := nI_of h2
  have g := xn_nlt (a := z) (b := k) (by omega) hk h3
  have h4 := q.2.2
  rw [pk_sub g, Int32.lt_iff_toInt_lt, nI_toInt (by omega)] at h
  rw [nI_toInt hk] at h4
  omega
theorem x_subI {a : Nat} {j : Nat} (ha : a ≤ 40) (hj : j < 2 ^ 31) : (nI a - nI j).toInt = (a : Int) - j := by
  rw [Int32.toInt_sub, nI_toInt (by omega), nI_toInt hj, Int.bmod_eq_of_le (by omega) (by omega)]
theorem sp_s5 {z : Nat} {f n x : Int32} (hz : z ≤ 40) (h1 : ¬ f < 0) (h2 : ¬ n < 0) (ex : x = nI z - f) (h : x < n) : ¬ sp_span z f n := fun q => by
  obtain ⟨k, hk, rfl⟩ := nI_of h1
  have h4 := q.2.2
  rw [ex, Int32.lt_iff_toInt_lt, x_subI hz hk] at h
  rw [nI_toInt hk] at h4
  omega
theorem sp_fil {g g8 : Nat → Int64} {K i : Nat} (h : ∀ j, K ≤ j → j < K + i → g8 j = 0) (e : g = vp_updL g8 (K + i) 0) : ∀ j, K ≤ j → j < K + (i + 1) → g j = 0 := by
  intro j h1 h2
  rw [e]
  by_cases q : j = K + i
  · subst q; exact pk_uLs
  · rw [pk_uLn q]; exact h j h1 (by omega)
theorem sp_fio {g g8 f : Nat → Int64} {K i M : Nat} {x : Int64} (h : ∀ j, j < K ∨ M ≤ j → g8 j = f j) (h1 : i < 40) (h2 : M = K + 40) (e : g = vp_updL g8 (K + i) x) : ∀ j, j < K ∨ M ≤ j → g j = f j := by
  intro j hj
  rw [e, pk_uLn (by omega)]
  exact h j hj
theorem xq_eq {x y : Int64} (h : x = y) : lg_cmp x y = 0 := by subst h; exact xq_self _
theorem x_sh4 (a : Int32) : (a < 0 ∨ 3 < a) ∨ a = 0 ∨ a = 1 ∨ a = 2 ∨ a = 3 := by
  by_cases h1 : a < 0
  · exact Or.inl (Or.inl h1)
  · by_cases h2 : 3 < a
    · exact Or.inl (Or.inr h2)
    · exact Or.inr (x_i4 h1 h2)
theorem sp_wreq {b b' : Int32} {z K : Nat} {i : Int32} {f g : Nat → Int64} (hz : z ≤ 40) (hb : b' = b) (hr : ∀ j, j < 40 → g (K + j) = f j) : sp_wr b z i (f i.toNatClampNeg) = sp_wr b' z i (g (K + i.toNatClampNeg)) := by
  subst hb
  unfold sp_wr
  by_cases h : b' = 0
  · rw [if_pos h, if_pos h]
  · rw [if_neg h, if_neg h]
    by_cases q : sp_wok z i
    · rw [if_pos q, if_pos q]
      obtain ⟨k, hk, rfl⟩ := nI_of q.1
      have := xn_lt hk (by omega) q.2
      rw [nI_clamp hk, hr k (by omega)]
    · rw [if_neg q, if_neg q]
theorem sp_creq {b1 b2 c1 c2 : Int32} {zs zt : Nat} {f t n : Int32} (h1 : c1 = b1) (h2 : c2 = b2) : sp_cr b1 b2 zs zt f t n = sp_cr c1 c2 zs zt f t n := by rw [h1, h2]
theorem sp_cneq {b1 b2 c1 c2 : Int32} {zs zt j K : Nat} {f t n : Int32} {u v : Nat → Int64} {x y : Int64} (h1 : c1 = b1) (h2 : c2 = b2) (hs : ∀ k, k < 40 → u (K + k) = v k) (hz : zs ≤ 40) (hx : y = x) : sp_cn c1 c2 zs zt f t n (fun k => u (K + k)) j y = sp_cn b1 b2 zs zt f t n v j x := by
  subst h1 h2 hx
  unfold sp_cn
  by_cases q : sp_cok c1 c2 zs zt f t n ∧ t.toNatClampNeg ≤ j ∧ j < t.toNatClampNeg + n.toNatClampNeg
  · rw [if_pos q, if_pos q]
    obtain ⟨a, ha, rfl⟩ := nI_of q.1.2.2.2.1.1
    obtain ⟨k, hk, rfl⟩ := nI_of q.1.2.2.2.1.2.1
    have h3 := q.1.2.2.2.1.2.2
    rw [nI_toInt ha, nI_toInt hk] at h3
    have h4 := q.2
    rw [nI_clamp hk] at h4
    rw [nI_clamp ha]
    exact hs _ (by omega)
  · rw [if_neg q, if_neg q]
