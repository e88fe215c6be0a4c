/-! rounds: what stands in the reference's row from 313 to 376 -/
/-- the rounds of both -/
def RR (g kk ln sp : Nat → Int32) : Prop := ∀ r, r < 8 → g (313 + 8 * r) = kk r ∧ g (313 + 8 * r + 1) = ln r ∧ ∀ i, i < 6 → g (313 + 8 * r + 2 + i) = sp (r * 6 + i)
theorem RR.cg {g kk ln sp k2 l2 s2 : Nat → Int32} (h : RR g kk ln sp) (hk : ∀ j, j < 8 → k2 j = kk j) (hl : ∀ j, j < 8 → l2 j = ln j) (hs : ∀ j, j < 48 → s2 j = sp j) : RR g k2 l2 s2 := by
  intro r hr
  obtain ⟨a, b, c⟩ := h r hr
  exact ⟨a.trans (hk r hr).symm, b.trans (hl r hr).symm, fun i hi => (c i hi).trans (hs _ (by omega)).symm⟩
abbrev okRn (P R : Nat) (k p : Int32) : Prop := okRd P k p ∧ R < 8
def rdK (P R : Nat) (k p : Int32) (f : Nat → Int32) : Nat → Int32 := if okRn P R k p then upd f R k else f
def rdL (P R : Nat) (k p : Int32) (f : Nat → Int32) : Nat → Int32 := if okRn P R k p then upd (upd f R 0) R (nI (0 + 1)) else f
def rdS (P R : Nat) (k p : Int32) (f : Nat → Int32) : Nat → Int32 := if okRn P R k p then upd f (R * 6 + 0) p else f
def rdG (P R : Nat) (k p : Int32) (g : Nat → Int32) : Nat → Int32 := if okRn P R k p then upd (upd (upd g (313 + 8 * R) k) (313 + 8 * R + 1) 1) (313 + 8 * R + 2) p else g
theorem RR.rd {P R : Nat} {k p : Int32} {g kk ln sp : Nat → Int32} (h : RR g kk ln sp) : RR (rdG P R k p g) (rdK P R k p kk) (rdL P R k p ln) (rdS P R k p sp) := by
  unfold rdG rdK rdL rdS
  by_cases c : okRn P R k p
  · rw [if_pos c, if_pos c, if_pos c, if_pos c]
    intro r hr
    obtain ⟨a, b, d⟩ := h r hr
    by_cases e : r = R
    · subst e
      refine ⟨?_, ?_, fun i hi => ?_⟩
      · rw [pk_un (by omega), pk_un (by omega), pk_us, pk_us]
      · rw [pk_un (by omega), pk_us, pk_us]; rfl
      · by_cases e0 : i = 0
        · subst e0; rw [pk_us]; exact pk_us.symm
        · rw [pk_un (by omega), pk_un (by omega), pk_un (by omega), pk_un (by omega)]; exact d i hi
    · refine ⟨?_, ?_, fun i hi => ?_⟩
      · rw [pk_un (by omega), pk_un (by omega), pk_un (by omega), pk_un e]; exact a
      · rw [pk_un (by omega), pk_un (by omega), pk_un (by omega), pk_un e, pk_un e]; exact b
      · rw [pk_un (by omega), pk_un (by omega), pk_un (by omega), pk_un (by omega)]; exact d i hi
  · rw [if_neg c, if_neg c, if_neg c, if_neg c]; exact h
abbrev okOv (P R : Nat) (r p : Int32) : Prop := isP R r ∧ isP P p
def ovr (P R : Nat) (ln : Nat → Int32) (r p : Int32) : Int32 := if okOv P R r p then (if ln r.toNatClampNeg < 6 then ln r.toNatClampNeg + 1 else -1000000002) else -1000000001
abbrev okOv6 (P R : Nat) (ln : Nat → Int32) (r p : Int32) : Prop := okOv P R r p ∧ ln r.toNatClampNeg < 6
def ovL (P R : Nat) (ln : Nat → Int32) (r p : Int32) : Nat → Int32 := if okOv6 P R ln r p then upd ln r.toNatClampNeg (ln r.toNatClampNeg + 1) else ln
def ovS (P R : Nat) (ln : Nat → Int32) (r p : Int32) (sp : Nat → Int32) : Nat → Int32 := if okOv6 P R ln r p then upd sp (r.toNatClampNeg * 6 + (ln r.toNatClampNeg).toNatClampNeg) p else sp
/-- the lengths as the reference has them -/
abbrev gL (g : Nat → Int32) : Nat → Int32 := fun r => g (313 + 8 * r + 1)
def ovG (P R : Nat) (r p : Int32) (g : Nat → Int32) : Nat → Int32 := if okOv6 P R (gL g) r p then upd (upd g (313 + 8 * r.toNatClampNeg + 2 + (gL g r.toNatClampNeg).toNatClampNeg) p) (313 + 8 * r.toNatClampNeg + 1) (gL g r.toNatClampNeg + 1) else g
theorem ov_yes {P R k j q : Nat} {ln : Nat → Int32} (hk : k < R) (hR : R ≤ 8) (hj : j < P) (hP : P ≤ 10) (e : ln k = nI q) (hq : q < 6) : nI (q + 1) = ovr P R ln (nI k) (nI j) ∧ upd ln k (nI (q + 1)) = ovL P R ln (nI k) (nI j) ∧ ∀ sp, upd sp (k * 6 + q) (nI j) = ovS P R ln (nI k) (nI j) sp := by
  have ok : okOv P R (nI k) (nI j) := ⟨isP_nI (by omega) hk, isP_nI (by omega) hj⟩
  have ck : (nI k).toNatClampNeg = k := nI_clamp (by omega)
  have h6 : ln (nI k).toNatClampNeg < 6 := by rw [ck, e]; exact (nI_ltI (b := 6) (by omega) (by omega)).mpr hq
  have e1 : nI q + 1 = nI (q + 1) := nI_1 q
  refine ⟨?_, ?_, fun sp => ?_⟩
  · unfold ovr; rw [if_pos ok, if_pos h6, ck, e, e1]
  · unfold ovL; rw [if_pos ⟨ok, h6⟩, ck, e, e1]
  · unfold ovS; rw [if_pos ⟨ok, h6⟩, ck, e, nI_clamp (by omega)]
theorem ov_full {P R k j q : Nat} {ln : Nat → Int32} (hk : k < R) (hR : R ≤ 8) (hj : j < P) (hP : P ≤ 10) (e : ln k = nI q) (hq : 6 ≤ q) (hq7 : q < 7) : (-1000000002 : Int32) = ovr P R ln (nI k) (nI j) ∧ ln = ovL P R ln (nI k) (nI j) ∧ ∀ sp, sp = ovS P R ln (nI k) (nI j) sp := by
  have ok : okOv P R (nI k) (nI j) := ⟨isP_nI (by omega) hk, isP_nI (by omega) hj⟩
  have ck : (nI k).toNatClampNeg = k := nI_clamp (by omega)
  have h6 : ¬ ln (nI k).toNatClampNeg < 6 := by
    rw [ck, e]; intro h
    have := xn_lt (a := q) (b := 6) (by omega) (by omega) h
    omega
  refine ⟨?_, ?_, fun sp => ?_⟩
  · unfold ovr; rw [if_pos ok, if_neg h6]
  · unfold ovL; rw [if_neg (fun h => h6 h.2)]
  · unfold ovS; rw [if_neg (fun h => h6 h.2)]
theorem ov_no {P R : Nat} {ln : Nat → Int32} {r p : Int32} (h : ¬ okOv P R r p) : (-1000000001 : Int32) = ovr P R ln r p ∧ ln = ovL P R ln r p ∧ ∀ sp, sp = ovS P R ln r p sp := by
  refine ⟨?_, ?_, fun sp => ?_⟩
  · unfold ovr; rw [if_neg h]
  · unfold ovL; rw [if_neg (fun q => h q.1)]
  · unfold ovS; rw [if_neg (fun q => h q.1)]
theorem og_yes {P R k j q : Nat} {g : Nat → Int32} (hk : k < R) (hR : R ≤ 8) (hj : j < P) (hP : P ≤ 10) (e : g (313 + 8 * k + 1) = nI q) (hq : q < 6) : upd (upd g (313 + 8 * k + 2 + q) (nI j)) (313 + 8 * k + 1) (nI (q + 1)) = ovG P R (nI k) (nI j) g := by
  have ok : okOv P R (nI k) (nI j) := ⟨isP_nI (by omega) hk, isP_nI (by omega) hj⟩
  have ck : (nI k).toNatClampNeg = k := nI_clamp (by omega)
  have e2 : gL g k = nI q := e
  have h6 : gL g (nI k).toNatClampNeg < 6 := by rw [ck, e2]; exact (nI_ltI (b := 6) (by omega) (by omega)).mpr hq
  unfold ovG; rw [if_pos ⟨ok, h6⟩, ck, e2, nI_clamp (by omega), nI_1 q]
theorem og_no {P R : Nat} {r p : Int32} {g : Nat → Int32} (h : ¬ okOv6 P R (gL g) r p) : g = ovG P R r p g := by
  unfold ovG; rw [if_neg h]
theorem og_full {P R k j q : Nat} {g : Nat → Int32} (hk : k < R) (hR : R ≤ 8) (hj : j < P) (hP : P ≤ 10) (e : gL g k = nI q) (hq : 6 ≤ q) (hq7 : q < 7 := by omega) : ¬ okOv6 P R (gL g) (nI k) (nI j) := by
  intro h
  have h6 := h.2
  rw [nI_clamp (by omega), e] at h6
  have := xn_lt (a := q) (b := 6) (by omega) (by omega) h6
  omega
theorem RR.len {g kk ln sp : Nat → Int32} (h : RR g kk ln sp) {R : Nat} {r : Int32} (hR : R ≤ 8) (hr : isP R r) : gL g r.toNatClampNeg = ln r.toNatClampNeg ∧ r.toNatClampNeg < 8 := by
  obtain ⟨k, hk, rfl⟩ := nI_of hr.1
  have h1 := xn_lt (a := k) (b := R) hk (by omega) hr.2
  rw [nI_clamp hk]
  exact ⟨(h k (by omega)).2.1, by omega⟩
theorem RR.ovA {g kk ln sp : Nat → Int32} (h : RR g kk ln sp) {P R : Nat} {r p : Int32} (hR : R ≤ 8) : ovr P R (gL g) r p = ovr P R ln r p := by
  unfold ovr
  by_cases c : okOv P R r p
  · rw [(h.len hR c.1).1]
  · rw [if_neg c, if_neg c]
theorem RR.ov {g kk ln sp : Nat → Int32} (h : RR g kk ln sp) (hl : BA 8 7 ln) {P R : Nat} {r p : Int32} (hR : R ≤ 8) : RR (ovG P R r p g) kk (ovL P R ln r p) (ovS P R ln r p sp) := by
  by_cases c : okOv6 P R ln r p
  · obtain ⟨e1, e2⟩ := h.len hR c.1.1
    have c2 : okOv6 P R (gL g) r p := ⟨c.1, by rw [e1]; exact c.2⟩
    unfold ovG ovL ovS
    rw [if_pos c2, if_pos c, if_pos c, e1]
    obtain ⟨q, hq, eq⟩ := hl _ e2
    have hq6 : q < 6 := xn_lt (a := q) (b := 6) (by omega) (by omega) (eq ▸ c.2)
    generalize r.toNatClampNeg = k at *
    rw [eq, nI_clamp (by omega)]
    intro x hx
    obtain ⟨a, b, d⟩ := h x hx
    by_cases ex : x = k
    · subst ex
      refine ⟨?_, ?_, fun i hi => ?_⟩
      · rw [pk_un (by omega), pk_un (by omega)]; exact a
      · rw [pk_us, pk_us]
      · by_cases ei : i = q
        · subst ei; rw [pk_un (by omega), pk_us, pk_us]
        · rw [pk_un (by omega), pk_un (by omega), pk_un (by omega)]; exact d i hi
    · refine ⟨?_, ?_, fun i hi => ?_⟩
      · rw [pk_un (by omega), pk_un (by omega)]; exact a
      · rw [pk_un (by omega), pk_un (by omega), pk_un ex]; exact b
      · rw [pk_un (by omega), pk_un (by omega), pk_un (by omega)]; exact d i hi
  · have c2 : ¬ okOv6 P R (gL g) r p := fun q => c ⟨q.1, by rw [← (h.len hR q.1.1).1]; exact q.2⟩
    unfold ovG ovL ovS
    rw [if_neg c2, if_neg c, if_neg c]; exact h
def unF (b : Int32) (x y : Nat → Int32) : Nat → Int32 := if b = 0 then x else y
theorem RR.un {b : Int32} {g kk ln sp g2 k2 l2 s2 k3 l3 s3 : Nat → Int32} (h : RR g kk ln sp) (h2 : RR g2 k2 l2 s2) (hk : ∀ j, j < 8 → k3 j = unF b kk k2 j) (hl : ∀ j, j < 8 → l3 j = unF b ln l2 j) (hs : ∀ j, j < 48 → s3 j = unF b sp s2 j) : RR (unF b g g2) k3 l3 s3 := by
  refine RR.cg ?_ hk hl hs
  unfold unF
  split
  · exact h
  · exact h2
/-! roundOf -/
abbrev gK (g : Nat → Int32) : Nat → Int32 := fun r => g (313 + 8 * r)
abbrev gS (g : Nat → Int32) : Nat → Int32 := fun x => g (313 + 8 * (x / 6) + 2 + x % 6)
theorem gS_eq {g : Nat → Int32} {k y : Nat} (hy : y < 6) : gS g (k * 6 + y) = g (313 + 8 * k + 2 + y) := by
  show g (313 + 8 * ((k * 6 + y) / 6) + 2 + (k * 6 + y) % 6) = _
  rw [show (k * 6 + y) / 6 = k by omega, show (k * 6 + y) % 6 = y by omega]
abbrev okRo (R : Nat) (r w : Int32) : Prop := isP R r ∧ (¬ w < (-2) ∧ ¬ 5 < w)
def roR (R : Nat) (kk ln sp : Nat → Int32) (r w : Int32) : Int32 := if okRo R r w then (if w = -1 then kk r.toNatClampNeg else if w = -2 then ln r.toNatClampNeg else if w < ln r.toNatClampNeg then sp (r.toNatClampNeg * 6 + w.toNatClampNeg) else -1000000004) else -1000000001
theorem ro_no {R : Nat} {kk ln sp : Nat → Int32} {r w : Int32} (h : ¬ okRo R r w) : (-1000000001 : Int32) = roR R kk ln sp r w := by unfold roR; rw [if_neg h]
theorem ro_k {R k : Nat} {kk ln sp : Nat → Int32} (hk : k < R) (hR : R ≤ 8) : kk k = roR R kk ln sp (nI k) (-1) := by
  unfold roR; rw [if_pos ⟨isP_nI (by omega) hk, by decide, by decide⟩, if_pos rfl, nI_clamp (by omega)]
theorem ro_l {R k : Nat} {kk ln sp : Nat → Int32} (hk : k < R) (hR : R ≤ 8) : ln k = roR R kk ln sp (nI k) (-2) := by
  unfold roR; rw [if_pos ⟨isP_nI (by omega) hk, by decide, by decide⟩, if_neg (by decide), if_pos rfl, nI_clamp (by omega)]
theorem ro_in {y : Nat} (hy : y ≤ 5) : (¬ nI y < (-2) ∧ ¬ 5 < nI y) ∧ ¬ nI y = -1 ∧ ¬ nI y = -2 := by
  rcases (show y = 0 ∨ y = 1 ∨ y = 2 ∨ y = 3 ∨ y = 4 ∨ y = 5 by omega) with rfl | rfl | rfl | rfl | rfl | rfl <;> decide
theorem ro_s {R k y q x : Nat} {kk ln sp : Nat → Int32} (hk : k < R) (hR : R ≤ 8) (hy : y ≤ 5) (e : ln k = nI q) (hq : q < 7) (h : y < q) (es : sp (k * 6 + y) = nI x) : nI x = roR R kk ln sp (nI k) (nI y) := by
  obtain ⟨h1, h2, h3⟩ := ro_in hy
  unfold roR; rw [if_pos ⟨isP_nI (by omega) hk, h1⟩, if_neg h2, if_neg h3, nI_clamp (show k < 2 ^ 31 by omega), e, if_pos ((nI_ltI (by omega) (by omega)).mpr h), nI_clamp (show y < 2 ^ 31 by omega), es]
theorem ro_n {R k y q : Nat} {kk ln sp : Nat → Int32} (hk : k < R) (hR : R ≤ 8) (hy : y ≤ 5) (e : ln k = nI q) (hq : q < 7) (h : q ≤ y) : (-1000000004 : Int32) = roR R kk ln sp (nI k) (nI y) := by
  obtain ⟨h1, h2, h3⟩ := ro_in hy
  unfold roR; rw [if_pos ⟨isP_nI (by omega) hk, h1⟩, if_neg h2, if_neg h3, nI_clamp (show k < 2 ^ 31 by omega), e, if_neg (fun c => by have := xn_lt (a := y) (b := q) (by omega) (by omega) c; omega)]
theorem x_m2 {p : Int32} (h1 : ¬ p < (-2)) (h2 : p < 0) (h3 : ¬ p = -1) : p = -2 := by
  rw [lt_iff9] at h1 h2
  have e0 : (0 : Int32).toInt = 0 := by decide
  have e1 : (-1 : Int32).toInt = -1 := by decide
  have e2 : (-2 : Int32).toInt = -2 := by decide
  have h4 : ¬ p.toInt = -1 := fun q => h3 (Int32.toInt_inj.mp (q.trans e1.symm))
  exact Int32.toInt_inj.mp (by omega)
theorem RR.roA {g kk ln sp : Nat → Int32} (h : RR g kk ln sp) {R : Nat} {r w : Int32} (hR : R ≤ 8) : roR R (gK g) (gL g) (gS g) r w = roR R kk ln sp r w := by
  unfold roR
  by_cases c : okRo R r w
  · obtain ⟨k, hk, rfl⟩ := nI_of c.1.1
    have h1 := xn_lt (a := k) (b := R) hk (by omega) c.1.2
    obtain ⟨a, b, d⟩ := h k (by omega)
    rw [nI_clamp hk, if_pos c, if_pos c]
    have a2 : gK g k = kk k := a
    have b2 : gL g k = ln k := b
    rw [a2, b2]
    by_cases w0 : w < 0
    · by_cases e : w = -1
      · rw [if_pos e, if_pos e]
      · rw [if_neg e, if_neg e, if_pos (x_m2 c.2.1 w0 e), if_pos (x_m2 c.2.1 w0 e)]
    · obtain ⟨y, hy, rfl⟩ := nI_of w0
      have h5 := xn_nlt (a := 5) (b := y) (by omega) hy c.2.2
      rw [nI_clamp hy, gS_eq (by omega), d y (by omega)]
  · rw [if_neg c, if_neg c]
/-! as -/
abbrev und (own w : Int32) : Prop := w = 0 ∨ own = w ∨ (w = 1 ∧ own = 4) ∨ (w = 2 ∧ own = 6)
abbrev okAs (R : Nat) (r w : Int32) : Prop := isP R r ∧ (¬ w < 0 ∧ ¬ 6 < w)
def asR (R : Nat) (kk ln : Nat → Int32) (r w : Int32) : Int32 := if okAs R r w then (if und (kk r.toNatClampNeg) w then ln r.toNatClampNeg else -1000000003) else -1000000001
theorem as_no {R : Nat} {kk ln : Nat → Int32} {r w : Int32} (h : ¬ okAs R r w) : (-1000000001 : Int32) = asR R kk ln r w := by unfold asR; rw [if_neg h]
theorem as_y {R k : Nat} {kk ln : Nat → Int32} {w : Int32} (hk : k < R) (hR : R ≤ 8) (hw : ¬ w < 0 ∧ ¬ 6 < w) (h : und (kk k) w) : ln k = asR R kk ln (nI k) w := by
  unfold asR; rw [if_pos ⟨isP_nI (by omega) hk, hw⟩, nI_clamp (by omega), if_pos h]
theorem as_n {R k : Nat} {kk ln : Nat → Int32} {w : Int32} (hk : k < R) (hR : R ≤ 8) (hw : ¬ w < 0 ∧ ¬ 6 < w) (h : ¬ und (kk k) w) : (-1000000003 : Int32) = asR R kk ln (nI k) w := by
  unfold asR; rw [if_pos ⟨isP_nI (by omega) hk, hw⟩, nI_clamp (by omega), if_neg h]
theorem RR.asA {g kk ln sp : Nat → Int32} (h : RR g kk ln sp) {R : Nat} {r w : Int32} (hR : R ≤ 8) : asR R (gK g) (gL g) r w = asR R kk ln r w := by
  unfold asR
  by_cases c : okAs R r w
  · obtain ⟨k, hk, rfl⟩ := nI_of c.1.1
    have h1 := xn_lt (a := k) (b := R) hk (by omega) c.1.2
    obtain ⟨a, b, d⟩ := h k (by omega)
    have a2 : gK g k = kk k := a
    have b2 : gL g k = ln k := b
    rw [nI_clamp hk, a2, b2]
  · rw [if_neg c, if_neg c]
theorem x_k7 {p : Int32} (h1 : ¬ p < 0) (h2 : ¬ 6 < p) : p = 0 ∨ p = 1 ∨ p = 2 ∨ p = 3 ∨ p = 4 ∨ p = 5 ∨ p = 6 := by
  obtain ⟨k, hk, rfl⟩ := nI_of h1
  have h3 := xn_nlt (a := 6) (b := k) (by omega) hk h2
  rcases (show k = 0 ∨ k = 1 ∨ k = 2 ∨ k = 3 ∨ k = 4 ∨ k = 5 ∨ k = 6 by omega) with rfl | rfl | rfl | rfl | rfl | rfl | rfl <;> decide
/-- the kinds that are there are kinds -/
def KI (R : Nat) (kk : Nat → Int32) : Prop := ∀ r, r < R → ¬ kk r < 0 ∧ ¬ 6 < kk r
theorem KI.cg {R : Nat} {kk k2 : Nat → Int32} (h : KI R kk) (hR : R ≤ 8) (e : ∀ j, j < 8 → k2 j = kk j) : KI R k2 := fun r hr => by rw [e r (by omega)]; exact h r hr
theorem KI.rd {P R : Nat} {k p : Int32} {kk : Nat → Int32} (h : KI R kk) : KI (sp_rd P R k p) (rdK P R k p kk) := by
  unfold sp_rd rdK
  by_cases c : okRn P R k p
  · rw [if_pos c, if_pos c]
    intro r hr
    by_cases e : r = R
    · subst e; rw [pk_us]; exact c.1.1
    · rw [pk_un e]; exact h r (by omega)
  · rw [if_neg c, if_neg c]; exact h
theorem KI.un {b : Int32} {R R2 : Nat} {kk k2 k3 : Nat → Int32} (h : KI R kk) (h2 : KI R2 k2) (hR : R ≤ 8) (hR2 : R2 ≤ 8) (e : ∀ j, j < 8 → k3 j = unF b kk k2 j) : KI (sp_un b R R2) k3 := by
  unfold sp_un
  unfold unF at e
  by_cases c : b = 0
  · rw [if_pos c]; exact h.cg hR (fun j hj => (e j hj).trans (by rw [if_pos c]))
  · rw [if_neg c]; exact h2.cg hR2 (fun j hj => (e j hj).trans (by rw [if_neg c]))
