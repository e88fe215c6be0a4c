/-! errands: what stands in the reference's row from 3 to 12 -/
/-- the errands of both; behind the last place there are none -/
def RE (P : Nat) (g e : Nat → Int32) : Prop := ∀ j, j < 10 → g (3 + j) = e j ∧ (P ≤ j → e j = 0)
theorem RE.cg {P : Nat} {g e e2 : Nat → Int32} (h : RE P g e) (he : ∀ j, j < 10 → e2 j = e j) : RE P g e2 := fun j hj => ⟨(h j hj).1.trans (he j hj).symm, fun q => (he j hj).trans ((h j hj).2 q)⟩
def plE (P : Nat) (e : Nat → Int32) : Nat → Int32 := if P < 10 then upd e P 0 else e
theorem RE.pl {P : Nat} {g e : Nat → Int32} (h : RE P g e) : RE (sp_pl P) g (plE P e) := by
  unfold sp_pl plE
  by_cases c : P < 10
  · rw [if_pos c, if_pos c]
    intro j hj
    by_cases q : j = P
    · subst q; rw [pk_us]; exact ⟨(h j hj).1.trans ((h j hj).2 (Nat.le_refl _)), fun _ => rfl⟩
    · rw [pk_un q]; exact ⟨(h j hj).1, fun w => (h j hj).2 (by omega)⟩
  · rw [if_neg c, if_neg c]; exact h
abbrev okEr (P : Nat) (p v : Int32) : Prop := isP P p ∧ (¬ v < 0 ∧ ¬ 99 < v)
def erR (P : Nat) (e : Nat → Int32) (p v : Int32) : Int32 := if okEr P p v then e p.toNatClampNeg else -1000000001
def erE (P : Nat) (e : Nat → Int32) (p v : Int32) : Nat → Int32 := if okEr P p v then upd e p.toNatClampNeg v else e
def erG (P : Nat) (g : Nat → Int32) (p v : Int32) : Nat → Int32 := if okEr P p v then upd g (3 + p.toNatClampNeg) v else g
abbrev gE (g : Nat → Int32) : Nat → Int32 := fun j => g (3 + j)
theorem er_no {P : Nat} {p v : Int32} (h : ¬ okEr P p v) : (∀ e, (-1000000001 : Int32) = erR P e p v) ∧ (∀ e, e = erE P e p v) ∧ ∀ g, g = erG P g p v := by
  unfold erR erE erG; exact ⟨fun e => (if_neg h).symm, fun e => (if_neg h).symm, fun g => (if_neg h).symm⟩
theorem er_yes {P k : Nat} {v : Int32} (hk : k < P) (hP : P ≤ 10) (hv : ¬ v < 0 ∧ ¬ 99 < v) : (∀ e : Nat → Int32, e k = erR P e (nI k) v) ∧ (∀ e, upd e k v = erE P e (nI k) v) ∧ ∀ g, upd g (3 + k) v = erG P g (nI k) v := by
  have ok : okEr P (nI k) v := ⟨isP_nI (by omega) hk, hv⟩
  have ck : (nI k).toNatClampNeg = k := nI_clamp (by omega)
  unfold erR erE erG
  rw [ck]
  exact ⟨fun e => (if_pos ok).symm, fun e => (if_pos ok).symm, fun g => (if_pos ok).symm⟩
theorem RE.erA {P : Nat} {g e : Nat → Int32} {p v : Int32} (h : RE P g e) (hP : P ≤ 10) : erR P (gE g) p v = erR P e p v := by
  unfold erR
  by_cases c : okEr P p v
  · obtain ⟨k, hk, rfl⟩ := nI_of c.1.1
    have h1 := xn_lt (a := k) (b := P) hk (by omega) c.1.2
    have a : gE g k = e k := (h k (by omega)).1
    rw [nI_clamp hk, a]
  · rw [if_neg c, if_neg c]
theorem RE.er {P : Nat} {g e : Nat → Int32} {p v : Int32} (h : RE P g e) (hP : P ≤ 10) : RE P (erG P g p v) (erE P e p v) := by
  unfold erG erE
  by_cases c : okEr P p v
  · rw [if_pos c, if_pos c]
    obtain ⟨k, hk, rfl⟩ := nI_of c.1.1
    have h1 := xn_lt (a := k) (b := P) hk (by omega) c.1.2
    rw [nI_clamp hk]
    intro j hj
    by_cases q : j = k
    · subst q; rw [pk_us, pk_us]; exact ⟨rfl, fun w => absurd w (by omega)⟩
    · rw [pk_un (by omega), pk_un q]; exact h j hj
  · rw [if_neg c, if_neg c]; exact h
theorem RE.un {b : Int32} {P P2 : Nat} {g e g2 e2 e3 : Nat → Int32} (h : RE P g e) (h2 : RE P2 g2 e2) (he : ∀ j, j < 10 → e3 j = unF b e e2 j) : RE (sp_un b P P2) (unF b g g2) e3 := by
  refine RE.cg (e := unF b e e2) ?_ he
  unfold unF sp_un
  split
  · exact h
  · exact h2
/-! errands in a text -/
noncomputable def spEv (b : Nat → Int32) (z u : Nat) : Int32 := cif (tW b z (nx b z u) 3) (nI (tC b z (nx b z (nx b z u)))) 0
noncomputable def eSt (b : Nat → Int32) (z u P : Nat) (e : Nat → Int32) : Nat → Int32 := cif (tW b z u 0) (upd e P (spEv b z u)) e
noncomputable def gSt (b : Nat → Int32) (z u P : Nat) (g : Nat → Int32) : Nat → Int32 := cif (tW b z u 0) (cif (tW b z (nx b z u) 3) (upd g (3 + P) (nI (tC b z (nx b z (nx b z u))))) g) g
noncomputable def spLs (b : Nat → Int32) (z : Nat) (st : Nat → Nat → (Nat → Int32) → (Nat → Int32)) : Nat → Nat → Nat → Nat → (Nat → Int32) → (Nat → Int32)
  | 0, _, _, _, x => x
  | q + 1, u, P, W, x => match spItem b z u P W with
    | .inl _ => x
    | .inr v => cif (tK b z v = 3) (spLs b z st q (nx b z v) (spP b z u P) (spW b z u W) (st u P x)) (st u P x)
theorem spLs_end {b : Nat → Int32} {z i u P W v : Nat} {st : Nat → Nat → (Nat → Int32) → (Nat → Int32)} {x : Nat → Int32} (hi : i < 121) (h : spItem b z u P W = .inr v) (k : ¬ tK b z v = 3) : spLs b z st (121 - i) u P W x = st u P x := by
  rw [show 121 - i = (121 - (i + 1)) + 1 by omega, spLs, h]; exact cif_neg k
theorem spLs_go {b : Nat → Int32} {z i u P W v : Nat} {st : Nat → Nat → (Nat → Int32) → (Nat → Int32)} {x : Nat → Int32} (hi : i < 121) (h : spItem b z u P W = .inr v) (k : tK b z v = 3) : spLs b z st (121 - i) u P W x = spLs b z st (121 - (i + 1)) (nx b z v) (spP b z u P) (spW b z u W) (st u P x) := by
  rw [show 121 - i = (121 - (i + 1)) + 1 by omega, spLs, h]; exact cif_pos k
theorem RE.st {b : Nat → Int32} {z u P : Nat} {g e : Nat → Int32} (h : RE P g e) : RE (spP b z u P) (gSt b z u P g) (eSt b z u P e) := by
  unfold spP gSt eSt
  by_cases c : tW b z u 0
  · rw [cif_pos c, cif_pos c, cif_pos c]
    by_cases d : tW b z (nx b z u) 3
    · unfold spEv
      rw [cif_pos d, cif_pos d]
      intro j hj
      by_cases q : j = P
      · subst q; rw [pk_us, pk_us]; exact ⟨rfl, fun w => absurd w (by omega)⟩
      · rw [pk_un (by omega), pk_un q]; exact ⟨(h j hj).1, fun w => (h j hj).2 (by omega)⟩
    · unfold spEv
      rw [cif_neg d, cif_neg d]
      intro j hj
      by_cases q : j = P
      · subst q; rw [pk_us]; exact ⟨(h j hj).1.trans ((h j hj).2 (Nat.le_refl _)), fun w => absurd w (by omega)⟩
      · rw [pk_un q]; exact ⟨(h j hj).1, fun w => (h j hj).2 (by omega)⟩
  · rw [cif_neg c, cif_neg c, cif_neg c]; exact h
theorem spLs_rel {b : Nat → Int32} {z : Nat} : ∀ (q u P W n : Nat) (g e : Nat → Int32) (m P2 W2 : Nat), RE P g e → spLand b z q u P W n = .inr (m, P2, W2) → RE P2 (spLs b z (gSt b z) q u P W g) (spLs b z (eSt b z) q u P W e)
  | 0, u, P, W, n, g, e, m, P2, W2, _, h => by rw [spLand] at h; cases h
  | q + 1, u, P, W, n, g, e, m, P2, W2, hR, h => by
    rw [spLand] at h
    rw [spLs, spLs]
    cases hi : spItem b z u P W with
    | inl v => rw [hi] at h; cases h
    | inr v =>
      rw [hi] at h
      have h' : cif (tK b z v = 0) (Sum.inr (n, spP b z u P, spW b z u W)) (cif (tK b z v = 3) (spLand b z q (nx b z v) (spP b z u P) (spW b z u W) (n + 1)) (Sum.inl v)) = (Sum.inr (m, P2, W2) : Nat ⊕ (Nat × Nat × Nat)) := h
      show RE P2 (cif (tK b z v = 3) (spLs b z (gSt b z) q (nx b z v) (spP b z u P) (spW b z u W) (gSt b z u P g)) (gSt b z u P g)) (cif (tK b z v = 3) (spLs b z (eSt b z) q (nx b z v) (spP b z u P) (spW b z u W) (eSt b z u P e)) (eSt b z u P e))
      by_cases k0 : tK b z v = 0
      · rw [cif_pos k0] at h'
        have k3 : ¬ tK b z v = 3 := fun w => absurd (k0.symm.trans w) (by decide)
        rw [cif_neg k3, cif_neg k3]
        injection h' with h1
        injection h1 with _ h2
        injection h2 with h3 _
        rw [← h3]; exact hR.st
      · rw [cif_neg k0] at h'
        by_cases k3 : tK b z v = 3
        · rw [cif_pos k3] at h'
          rw [cif_pos k3, cif_pos k3]
          exact spLs_rel q _ _ _ _ _ _ m P2 W2 hR.st h'
        · rw [cif_neg k3] at h'; cases h'
def spLF (r : Nat ⊕ (Nat × Nat × Nat)) (x y : Nat → Int32) : Nat → Int32 := match r with
  | .inl _ => x
  | .inr _ => y
theorem RE.ld {b : Nat → Int32} {z P W : Nat} {g e e2 : Nat → Int32} (h : RE P g e) (he : ∀ j, j < 10 → e2 j = spLF (spLand b z 120 0 P W 1) e (spLs b z (eSt b z) 120 0 P W e) j) : RE (spLP P (spLand b z 120 0 P W 1)) (spLF (spLand b z 120 0 P W 1) g (spLs b z (gSt b z) 120 0 P W g)) e2 := by
  refine RE.cg ?_ he
  cases hr : spLand b z 120 0 P W 1 with
  | inl v => exact h
  | inr x =>
    obtain ⟨m, P2, W2⟩ := x
    exact spLs_rel 120 0 P W 1 g e m P2 W2 h hr
theorem spLs_aft {b : Nat → Int32} {z i u P W v : Nat} {st : Nat → Nat → (Nat → Int32) → (Nat → Int32)} {x : Nat → Int32} (hi : i < 121) (h : spItem b z u P W = .inr v) : spLs b z st (121 - i) u P W x = cif (tK b z v = 3) (spLs b z st (121 - (i + 1)) (nx b z v) (spP b z u P) (spW b z u W) (st u P x)) (st u P x) := by
  rw [show 121 - i = (121 - (i + 1)) + 1 by omega, spLs, h]
theorem eSt_cg {b : Nat → Int32} {z : Nat} {u P : Nat} {x y : Nat → Int32} (h : ∀ j, j < 10 → x j = y j) : ∀ j, j < 10 → eSt b z u P x j = eSt b z u P y j := by
  intro j hj
  unfold eSt
  by_cases c : tW b z u 0
  · rw [cif_pos c, cif_pos c]
    by_cases q : j = P
    · subst q; rw [pk_us, pk_us]
    · rw [pk_un q, pk_un q]; exact h j hj
  · rw [cif_neg c, cif_neg c]; exact h j hj
theorem spLs_cg {b : Nat → Int32} {z : Nat} {st : Nat → Nat → (Nat → Int32) → (Nat → Int32)} (hst : ∀ {u P : Nat} {x y : Nat → Int32}, (∀ j, j < 10 → x j = y j) → ∀ j, j < 10 → st u P x j = st u P y j) : ∀ {q u P W : Nat} {x y : Nat → Int32}, (∀ j, j < 10 → x j = y j) → ∀ j, j < 10 → spLs b z st q u P W x j = spLs b z st q u P W y j := by
  intro q
  induction q with
  | zero => intro u P W x y h j hj; exact h j hj
  | succ q ih =>
    intro u P W x y h j hj
    rw [spLs, spLs]
    cases spItem b z u P W with
    | inl v => exact h j hj
    | inr v =>
      show cif (tK b z v = 3) (spLs b z st q (nx b z v) (spP b z u P) (spW b z u W) (st u P x)) (st u P x) j = cif (tK b z v = 3) (spLs b z st q (nx b z v) (spP b z u P) (spW b z u W) (st u P y)) (st u P y) j
      by_cases c : tK b z v = 3
      · rw [cif_pos c, cif_pos c]; exact ih (hst h) j hj
      · rw [cif_neg c, cif_neg c]; exact hst h j hj
theorem tC_99 {b : Nat → Int32} {z u : Nat} (h : okR9 b z u 0 99) : tC b z u = tN b z u := by
  have hb := num_le h.1
  have h2 : tN b z u ≤ 99 := by
    rcases Nat.lt_or_ge 99 (tN b z u) with q | q
    · exact absurd ((nI_ltI (a := 99) (by omega) (by omega)).mpr q) h.2.2
    · exact q
  rw [tC_eq h.1]; omega
