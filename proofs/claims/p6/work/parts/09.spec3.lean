/-! places, rounds, walks: how many there are -/
abbrev isP (P : Nat) (p : Int32) : Prop := ¬ p < 0 ∧ p < nI P
abbrev twoP (P : Nat) (p q : Int32) : Prop := isP P p ∧ isP P q ∧ ¬ p = q
theorem isP_nI {P k : Nat} (hP : P ≤ 1000) (h : k < P) : isP P (nI k) := ⟨nI_pos (by omega), (nI_ltI (by omega) (by omega)).mpr h⟩
theorem x_np1 {P : Nat} {a : Int32} (h : lg_cmp a.toInt64 0 < 0) : ¬ isP P a := fun q => q.1 ((xw_lt a 0).mp (by have h2 := (xq_lt _ _).mp h; rw [show (0 : Int64) = (0 : Int32).toInt64 from by decide] at h2; exact h2))
theorem x_np2 {P : Nat} {a : Int32} (h : 0 ≤ lg_cmp a.toInt64 (nI P).toInt64) : ¬ isP P a := fun q => Int64.not_le.mpr ((xw_lt _ _).mpr q.2) ((lg_cmp_ge _ _).mp h)
theorem x_np3 {P : Nat} {a x : Int32} (hP : P ≤ 1000) (ex : x = nI P - 1) (h : a < 0 ∨ x < a) : ¬ isP P a := by
  intro q
  rcases h with h | h
  · exact q.1 h
  · obtain ⟨k, hk, rfl⟩ := nI_of q.1
    have hkz := xn_lt (a := k) (b := P) hk (by omega) q.2
    rw [ex, Int32.lt_iff_toInt_lt, show (nI P - 1 : Int32) = nI P - nI 1 from rfl, pk_sub_toInt (by omega) (by omega), nI_toInt hk] at h
    omega
def sp_pl (P : Nat) : Nat := if P < 10 then P + 1 else P
def sp_plr (P : Nat) : Int32 := if P < 10 then nI P else -1000000002
abbrev okRd (P : Nat) (k p : Int32) : Prop := (¬ k < 0 ∧ ¬ 6 < k) ∧ isP P p
def sp_rd (P R : Nat) (k p : Int32) : Nat := if okRd P k p ∧ R < 8 then R + 1 else R
def sp_rdr (P R : Nat) (k p : Int32) : Int32 := if okRd P k p then (if R < 8 then nI R else -1000000002) else -1000000001
abbrev okWk (P : Nat) (p q t s : Int32) : Prop := twoP P p q ∧ (¬ t < (-9999) ∧ ¬ 9999 < t) ∧ (¬ s < 0 ∧ ¬ 99 < s)
def sp_wk (P W : Nat) (p q t s : Int32) : Nat := if okWk P p q t s ∧ W < 8 then W + 1 else W
def sp_wkr (P W : Nat) (p q t s : Int32) : Int32 := if okWk P p q t s then (if W < 8 then nI W else -1000000002) else -1000000001
theorem sp_pl1 {P : Nat} (h : P < 10) : P + 1 = sp_pl P ∧ nI P = sp_plr P := ⟨(if_pos h).symm, (if_pos h).symm⟩
theorem sp_pl2 {P : Nat} (h : ¬ P < 10) : P = sp_pl P ∧ (-1000000002 : Int32) = sp_plr P := ⟨(if_neg h).symm, (if_neg h).symm⟩
theorem sp_rd1 {P R : Nat} {k p : Int32} (h : okRd P k p) (h2 : R < 8) : R + 1 = sp_rd P R k p ∧ nI R = sp_rdr P R k p := by
  unfold sp_rd sp_rdr; rw [if_pos ⟨h, h2⟩, if_pos h, if_pos h2]; exact ⟨rfl, rfl⟩
theorem sp_rd2 {P R : Nat} {k p : Int32} (h : okRd P k p) (h2 : ¬ R < 8) : R = sp_rd P R k p ∧ (-1000000002 : Int32) = sp_rdr P R k p := by
  unfold sp_rd sp_rdr; rw [if_neg (fun q => h2 q.2), if_pos h, if_neg h2]; exact ⟨rfl, rfl⟩
theorem sp_rd3 {P R : Nat} {k p : Int32} (h : ¬ okRd P k p) : R = sp_rd P R k p ∧ (-1000000001 : Int32) = sp_rdr P R k p := by
  unfold sp_rd sp_rdr; rw [if_neg (fun q => h q.1), if_neg h]; exact ⟨rfl, rfl⟩
theorem sp_wk1 {P W : Nat} {p q t s : Int32} (h : okWk P p q t s) (h2 : W < 8) : W + 1 = sp_wk P W p q t s ∧ nI W = sp_wkr P W p q t s := by
  unfold sp_wk sp_wkr; rw [if_pos ⟨h, h2⟩, if_pos h, if_pos h2]; exact ⟨rfl, rfl⟩
theorem sp_wk2 {P W : Nat} {p q t s : Int32} (h : okWk P p q t s) (h2 : ¬ W < 8) : W = sp_wk P W p q t s ∧ (-1000000002 : Int32) = sp_wkr P W p q t s := by
  unfold sp_wk sp_wkr; rw [if_neg (fun q => h2 q.2), if_pos h, if_neg h2]; exact ⟨rfl, rfl⟩
theorem sp_wk3 {P W : Nat} {p q t s : Int32} (h : ¬ okWk P p q t s) : W = sp_wk P W p q t s ∧ (-1000000001 : Int32) = sp_wkr P W p q t s := by
  unfold sp_wk sp_wkr; rw [if_neg (fun q => h q.1), if_neg h]; exact ⟨rfl, rfl⟩
def sp_un (b : Int32) (x y : Nat) : Nat := if b = 0 then x else y
def sp_unr (b : Int32) (P : Nat) : Int32 := if b = 0 then -1000000004 else nI P
/-! the text: bytes, tokens -/
def bA (T : Nat → Int32) (z k : Nat) : Int32 := if k < z then T k else -1
theorem bA_in {T : Nat → Int32} {z k : Nat} (h : k < z) : T k = bA T z k := (if_pos h).symm
theorem bA_out {T : Nat → Int32} {z k : Nat} (h : z ≤ k) : (-1 : Int32) = bA T z k := (if_neg (by omega)).symm
theorem bA_eq {T U : Nat → Int32} {z : Nat} (h : ∀ j, j < z → T j = U j) : bA T z = bA U z := by
  funext k
  unfold bA
  split
  · exact h k (by assumption)
  · rfl
abbrev isL (x : Int32) : Prop := ¬ x < 97 ∧ ¬ 122 < x
abbrev isD (x : Int32) : Prop := ¬ x < 48 ∧ ¬ 57 < x
def skp (b : Nat → Int32) : Nat → Nat → Nat
  | 0, f => f
  | n + 1, f => if b f = 32 then skp b n (f + 1) else f
def rnL (b : Nat → Int32) : Nat → Nat → Nat
  | 0, f => f
  | n + 1, f => if isL (b f) then rnL b n (f + 1) else f
def rnD (b : Nat → Int32) : Nat → Nat → Nat
  | 0, f => f
  | n + 1, f => if isD (b f) then rnD b n (f + 1) else f
/-- where the next token begins, where it ends -/
def nf (b : Nat → Int32) (z t : Nat) : Nat := skp b (z - t) t
def ne (b : Nat → Int32) (z f : Nat) : Nat := if f < z then (if isL (b f) then rnL b (z - (f + 1)) (f + 1) else if isD (b f) then rnD b (z - (f + 1)) (f + 1) else f + 1) else f
def nx (b : Nat → Int32) (z t : Nat) : Nat := ne b z (nf b z t)
theorem skp_go {b : Nat → Int32} {z f : Nat} (h : f < z) (e : b f = 32) : skp b (z - f) f = skp b (z - (f + 1)) (f + 1) := by
  rw [show z - f = (z - (f + 1)) + 1 by omega]
  exact if_pos e
theorem skp_stop {b : Nat → Int32} {n f : Nat} (e : ¬ b f = 32) : skp b n f = f := by
  cases n with
  | zero => rfl
  | succ n => exact if_neg e
theorem skp_end {b : Nat → Int32} {z f : Nat} (h : z ≤ f) : skp b (z - f) f = f := by
  rw [show z - f = 0 by omega]; rfl
theorem rnL_go {b : Nat → Int32} {z f : Nat} (h : f < z) (e : isL (b f)) : rnL b (z - f) f = rnL b (z - (f + 1)) (f + 1) := by
  rw [show z - f = (z - (f + 1)) + 1 by omega]
  exact if_pos e
theorem rnL_stop {b : Nat → Int32} {n f : Nat} (e : ¬ isL (b f)) : rnL b n f = f := by
  cases n with
  | zero => rfl
  | succ n => exact if_neg e
theorem rnL_end {b : Nat → Int32} {z f : Nat} (h : z ≤ f) : rnL b (z - f) f = f := by
  rw [show z - f = 0 by omega]; rfl
theorem rnD_go {b : Nat → Int32} {z f : Nat} (h : f < z) (e : isD (b f)) : rnD b (z - f) f = rnD b (z - (f + 1)) (f + 1) := by
  rw [show z - f = (z - (f + 1)) + 1 by omega]
  exact if_pos e
theorem rnD_stop {b : Nat → Int32} {n f : Nat} (e : ¬ isD (b f)) : rnD b n f = f := by
  cases n with
  | zero => rfl
  | succ n => exact if_neg e
theorem rnD_end {b : Nat → Int32} {z f : Nat} (h : z ≤ f) : rnD b (z - f) f = f := by
  rw [show z - f = 0 by omega]; rfl
/-- the number in the letters from f to t, as far as it matters -/
def nvM (b : Nat → Int32) : Nat → Nat → Nat → Nat
  | 0, _, v => v
  | n + 1, p, v => nvM b n (p + 1) (if 9999 < v then v else 10 * v + ((b p).toNatClampNeg - 48))
def nvC (b : Nat → Int32) : Nat → Nat → Nat → Nat
  | 0, _, v => v
  | n + 1, p, v => nvC b n (p + 1) (min (10 * v + ((b p).toNatClampNeg - 48)) 10000)
def num (b : Nat → Int32) (f t : Nat) : Nat := nvM b (t - f) f 0
theorem nv_rel (b : Nat → Int32) : ∀ (n p v w : Nat), w = min v 10000 → nvC b n p w = min (nvM b n p v) 10000
  | 0, p, v, w, h => h
  | n + 1, p, v, w, h => by
    show nvC b n (p + 1) (min (10 * w + ((b p).toNatClampNeg - 48)) 10000) = min (nvM b n (p + 1) (if 9999 < v then v else 10 * v + ((b p).toNatClampNeg - 48))) 10000
    refine nv_rel b n (p + 1) _ _ ?_
    subst h
    split <;> omega
/-- what a token is, by where it begins -/
def kd (b : Nat → Int32) (z f : Nat) : Int32 := if f < z then (if isL (b f) then 1 else if isD (b f) then 2 else if b f = 59 then 3 else if b f = 45 then 4 else 5) else 0
theorem kd_0 {T : Nat → Int32} {z j : Nat} (h : z ≤ j) : 0 = kd (bA T z) z j := (if_neg (by omega)).symm
theorem kd_1 {T : Nat → Int32} {z j : Nat} (h : j < z) (h1 : ¬ T j < 97) (h2 : ¬ 122 < T j) : 1 = kd (bA T z) z j := by
  unfold kd; rw [if_pos h, ← bA_in h, if_pos ⟨h1, h2⟩]
theorem kd_2 {T : Nat → Int32} {z j : Nat} (h : j < z) (hl : T j < 97 ∨ 122 < T j) (h1 : ¬ T j < 48) (h2 : ¬ 57 < T j) : 2 = kd (bA T z) z j := by
  unfold kd; rw [if_pos h, ← bA_in h, if_neg (fun q => hl.elim q.1 q.2), if_pos ⟨h1, h2⟩]
theorem kd_3 {T : Nat → Int32} {z j : Nat} (h : j < z) (hl : T j < 97 ∨ 122 < T j) (hd : T j < 48 ∨ 57 < T j) (h1 : T j = 59) : 3 = kd (bA T z) z j := by
  unfold kd; rw [if_pos h, ← bA_in h, if_neg (fun q => hl.elim q.1 q.2), if_neg (fun q => hd.elim q.1 q.2), if_pos h1]
theorem kd_4 {T : Nat → Int32} {z j : Nat} (h : j < z) (hl : T j < 97 ∨ 122 < T j) (hd : T j < 48 ∨ 57 < T j) (h1 : ¬ T j = 59) (h2 : T j = 45) : 4 = kd (bA T z) z j := by
  unfold kd; rw [if_pos h, ← bA_in h, if_neg (fun q => hl.elim q.1 q.2), if_neg (fun q => hd.elim q.1 q.2), if_neg h1, if_pos h2]
theorem kd_5 {T : Nat → Int32} {z j : Nat} (h : j < z) (hl : T j < 97 ∨ 122 < T j) (hd : T j < 48 ∨ 57 < T j) (h1 : ¬ T j = 59) (h2 : ¬ T j = 45) : 5 = kd (bA T z) z j := by
  unfold kd; rw [if_pos h, ← bA_in h, if_neg (fun q => hl.elim q.1 q.2), if_neg (fun q => hd.elim q.1 q.2), if_neg h1, if_neg h2]
theorem kd_isL {b : Nat → Int32} {z f : Nat} (h : kd b z f = 1) : f < z ∧ isL (b f) := by
  unfold kd at h
  split at h
  · split at h
    · exact ⟨by assumption, by assumption⟩
    · repeat' split at h
      all_goals exact absurd h (by decide)
  · exact absurd h (by decide)
theorem kd_isD {b : Nat → Int32} {z f : Nat} (h : kd b z f = 2) : f < z ∧ ¬ isL (b f) ∧ isD (b f) := by
  unfold kd at h
  split at h
  · split at h
    · exact absurd h (by decide)
    · split at h
      · exact ⟨by assumption, by assumption, by assumption⟩
      · repeat' split at h
        all_goals exact absurd h (by decide)
  · exact absurd h (by decide)
theorem nvC_snoc (b : Nat → Int32) : ∀ (n p v : Nat), nvC b (n + 1) p v = min (10 * nvC b n p v + ((b (p + n)).toNatClampNeg - 48)) 10000
  | 0, p, v => rfl
  | n + 1, p, v => by
    show nvC b (n + 1) (p + 1) (min (10 * v + ((b p).toNatClampNeg - 48)) 10000) = _
    rw [nvC_snoc b n (p + 1)]
    rw [show p + 1 + n = p + (n + 1) by omega]
    rfl
/-- what the class keeps of a token's number -/
def cv (b : Nat → Int32) (z f t : Nat) : Nat := if kd b z f = 2 then min (num b f t) 10000 else 0
theorem st_Ws {b : Nat → Int32} {z f a : Nat} (hk : kd b z f = 1) (hI : a = f ∨ (f < a ∧ rnL b (z - a) a = ne b z f)) (h : a < z) (he : kd b z a = kd b z f) : a + 1 = f ∨ (f < a + 1 ∧ rnL b (z - (a + 1)) (a + 1) = ne b z f) := by
  have hl := (kd_isL (he.trans hk)).2
  refine Or.inr ⟨by rcases hI with h1 | h1 <;> omega, ?_⟩
  rcases hI with h1 | h1
  · subst h1; unfold ne; rw [if_pos h, if_pos hl]
  · rw [← rnL_go h hl]; exact h1.2
theorem st_We {b : Nat → Int32} {z f a : Nat} (hk : kd b z f = 1) (hI : a = f ∨ (f < a ∧ rnL b (z - a) a = ne b z f)) (hx : z ≤ a ∨ ¬ kd b z a = kd b z f) : a = ne b z f := by
  have hf := kd_isL hk
  rcases hI with h1 | h1
  · subst h1
    rcases hx with h | h
    · exact absurd hf.1 (by omega)
    · exact absurd rfl h
  · rw [← h1.2]
    by_cases h : z ≤ a
    · exact (rnL_end h).symm
    · refine (rnL_stop (fun hl => ?_)).symm
      rcases hx with q | q
      · exact h q
      · refine q (hk ▸ ?_)
        unfold kd; rw [if_pos (by omega), if_pos hl]
theorem st_Ns {b : Nat → Int32} {z f a : Nat} (hk : kd b z f = 2) (hI : a = f ∨ (f < a ∧ rnD b (z - a) a = ne b z f)) (h : a < z) (he : kd b z a = kd b z f) : a + 1 = f ∨ (f < a + 1 ∧ rnD b (z - (a + 1)) (a + 1) = ne b z f) := by
  have hl := (kd_isD (he.trans hk)).2
  refine Or.inr ⟨by rcases hI with h1 | h1 <;> omega, ?_⟩
  rcases hI with h1 | h1
  · subst h1; unfold ne; rw [if_pos h, if_neg hl.1, if_pos hl.2]
  · rw [← rnD_go h hl.2]; exact h1.2
theorem x_LD {x : Int32} (h : isD x) : ¬ isL x := fun q => by
  have h1 := q.1
  have h2 := h.2
  rw [Int32.lt_iff_toInt_lt] at h1 h2
  have e1 : (97 : Int32).toInt = 97 := by decide
  have e2 : (57 : Int32).toInt = 57 := by decide
  omega
theorem st_Ne {b : Nat → Int32} {z f a : Nat} (hk : kd b z f = 2) (hI : a = f ∨ (f < a ∧ rnD b (z - a) a = ne b z f)) (hx : z ≤ a ∨ ¬ kd b z a = kd b z f) : a = ne b z f := by
  have hf := kd_isD hk
  rcases hI with h1 | h1
  · subst h1
    rcases hx with h | h
    · exact absurd hf.1 (by omega)
    · exact absurd rfl h
  · rw [← h1.2]
    by_cases h : z ≤ a
    · exact (rnD_end h).symm
    · refine (rnD_stop (fun hl => ?_)).symm
      rcases hx with q | q
      · exact h q
      · refine q (hk ▸ ?_)
        unfold kd; rw [if_pos (by omega), if_neg (x_LD hl), if_pos hl]
theorem st_Oe {b : Nat → Int32} {z f a : Nat} (h1 : ¬ kd b z f = 1) (h2 : ¬ kd b z f = 2) (hI : a = f ∨ (f < z ∧ a = f + 1)) (hx : a = f → (z ≤ a ∨ ¬ kd b z a = kd b z f)) : a = ne b z f := by
  rcases hI with e | e
  · rcases hx e with h | h
    · unfold ne; rw [if_neg (by omega)]; exact e
    · subst e; exact absurd rfl h
  · unfold ne
    rw [if_pos e.1, if_neg, if_neg]
    · exact e.2
    · intro hd; apply h2; unfold kd; rw [if_pos e.1, if_neg (x_LD hd), if_pos hd]
    · intro hl; apply h1; unfold kd; rw [if_pos e.1, if_pos hl]
theorem st_V {T : Nat → Int32} {z f a v w d : Nat} (hV : v = nvC (bA T z) (a - f) f 0) (hf : f ≤ a) (ha : a < z) (e : T a = nI d) (h1 : 48 ≤ d) (h2 : d ≤ 57) (hw : w = min (10 * v + d - 48) 10000) : w = nvC (bA T z) (a + 1 - f) f 0 := by
  rw [show a + 1 - f = (a - f) + 1 by omega, nvC_snoc, ← hV, show f + (a - f) = a by omega, ← bA_in ha, e, nI_clamp (show d < 2 ^ 31 by omega), hw]
  congr 1
  omega
theorem st_Vc {b : Nat → Int32} {z f a v : Nat} (hk : kd b z f = 2) (hV : v = nvC b (a - f) f 0) : v = cv b z f a := by
  unfold cv num
  rw [if_pos hk, hV]
  exact nv_rel b _ _ 0 0 rfl
theorem st_V0 {b : Nat → Int32} {z f a : Nat} (hk : ¬ kd b z f = 2) : 0 = cv b z f a := (if_neg hk).symm
theorem xminE {a : Nat} (ha : a < 2 ^ 31) : ∃ z : Nat, (if (10000 : Int32) < nI a then 10000 else nI a) = nI z ∧ z ≤ 10000 ∧ z = min a 10000 := by
  by_cases h : (10000 : Int32) < nI a
  · have := xn_lt (a := 10000) (b := a) (by omega) ha h
    exact ⟨10000, by rw [if_pos h]; rfl, Nat.le_refl _, by omega⟩
  · have := xn_nlt (a := 10000) (b := a) (by omega) ha h
    exact ⟨a, by rw [if_neg h], this, by omega⟩
theorem st_dig {T : Nat → Int32} {z a : Nat} (h : kd (bA T z) z a = 2) : ∃ d : Nat, T a = nI d ∧ 48 ≤ d ∧ d ≤ 57 := by
  obtain ⟨h1, -, h2⟩ := kd_isD h
  rw [← bA_in h1] at h2
  exact xdig h2.1 h2.2
/-! words -/
def xch (i j : Nat) : Int32 := (xByt.getD i []).getD j 0
theorem xch_c_ : ∀ i, i < 8 → ∀ j, j < xLen.getD i 0 → ((xch i j &&& 255).toUInt32 % 65536).toInt32 = xch i j := by decide +kernel
theorem xch_c {i j : Nat} (hi : i < 8) (hj : j < xLen.getD i 0) : ((xch i j &&& 255).toUInt32 % 65536).toInt32 = xch i j := xch_c_ i hi j hj
theorem xch_n {i j : Nat} (hi : i < 8) (hj : j < xLen.getD i 0) : narrow .char (.int (xch i j)) = .int (xch i j) := by
  have h := xch_c hi hj
  rw [← h]
  exact pk_nc _
theorem xch_L_ : ∀ i, i < 8 → isL (xch i 0) ∧ 1 ≤ xLen.getD i 0 := by decide +kernel
def isW (b : Nat → Int32) (f t i : Nat) : Prop := t - f = xLen.getD i 0 ∧ ∀ k, k < xLen.getD i 0 → b (f + k) = xch i k
theorem isW_kd {T : Nat → Int32} {z f t i : Nat} (hi : i < 8) (h : isW (bA T z) f t i) : kd (bA T z) z f = 1 := by
  obtain ⟨h1, h2⟩ := xch_L_ i hi
  have h3 := h.2 0 (by omega)
  rw [Nat.add_zero] at h3
  have hf : f < z := by
    rcases Nat.lt_or_ge f z with q | q
    · exact q
    · rw [← bA_out q] at h3
      rw [← h3] at h1
      exact absurd h1 (by decide)
  unfold kd
  rw [if_pos hf, if_pos (h3 ▸ h1)]
/-! where a token stands: behind u -/
theorem skp_le (b : Nat → Int32) : ∀ n f, f ≤ skp b n f ∧ skp b n f ≤ f + n
  | 0, f => ⟨Nat.le_refl _, Nat.le_refl _⟩
  | n + 1, f => by
    unfold skp
    split
    · have := skp_le b n (f + 1); omega
    · omega
theorem rnL_le (b : Nat → Int32) : ∀ n f, f ≤ rnL b n f ∧ rnL b n f ≤ f + n
  | 0, f => ⟨Nat.le_refl _, Nat.le_refl _⟩
  | n + 1, f => by
    unfold rnL
    split
    · have := rnL_le b n (f + 1); omega
    · omega
theorem rnD_le (b : Nat → Int32) : ∀ n f, f ≤ rnD b n f ∧ rnD b n f ≤ f + n
  | 0, f => ⟨Nat.le_refl _, Nat.le_refl _⟩
  | n + 1, f => by
    unfold rnD
    split
    · have := rnD_le b n (f + 1); omega
    · omega
theorem nf_le {b : Nat → Int32} {z u : Nat} (h : u ≤ z) : u ≤ nf b z u ∧ nf b z u ≤ z := by
  have := skp_le b (z - u) u
  unfold nf; omega
theorem ne_le {b : Nat → Int32} {z f : Nat} (h : f ≤ z) : f ≤ ne b z f ∧ ne b z f ≤ z ∧ (f < z → f < ne b z f) := by
  unfold ne
  split
  · split
    · have := rnL_le b (z - (f + 1)) (f + 1); omega
    · split
      · have := rnD_le b (z - (f + 1)) (f + 1); omega
      · omega
  · omega
theorem tk_le {b : Nat → Int32} {z u : Nat} (h : u ≤ z) : u ≤ nf b z u ∧ nf b z u ≤ nx b z u ∧ nx b z u ≤ z ∧ (nf b z u < z → nf b z u < nx b z u) := by
  have h1 := nf_le (b := b) h
  have h2 := ne_le (b := b) h1.2
  unfold nx; omega
theorem nx_le {b : Nat → Int32} {z u : Nat} (h : u ≤ z) : nx b z u ≤ z := (tk_le h).2.2.1
abbrev tK (b : Nat → Int32) (z u : Nat) : Int32 := kd b z (nf b z u)
abbrev tC (b : Nat → Int32) (z u : Nat) : Nat := cv b z (nf b z u) (nx b z u)
abbrev tW (b : Nat → Int32) (z u i : Nat) : Prop := isW b (nf b z u) (nx b z u) i
theorem cv_le {b : Nat → Int32} {z f t : Nat} : cv b z f t ≤ 10000 := by
  unfold cv
  split
  · exact Nat.min_le_right _ _
  · exact Nat.zero_le _
/-! numbers and miles -/
def mSt (b : Nat → Int32) (z u : Nat) : Nat := if tK b z u = 4 then nx b z u else u
def mV (b : Nat → Int32) (z u : Nat) : Int32 := if tK b z u = 4 then -(nI (tC b z (nx b z u))) else nI (tC b z u)
theorem mSt_le {b : Nat → Int32} {z u : Nat} (h : u ≤ z) : mSt b z u ≤ z := by
  unfold mSt
  split
  · exact nx_le h
  · exact h
theorem mSt_ge {b : Nat → Int32} {z u : Nat} (h : u ≤ z) : u ≤ mSt b z u := by
  have := tk_le (b := b) h
  unfold mSt
  split <;> omega
abbrev okMi (b : Nat → Int32) (z u : Nat) (lo hi : Int32) : Prop := tK b z (mSt b z u) = 2 ∧ ¬ mV b z u < lo ∧ ¬ hi < mV b z u
abbrev okNu (b : Nat → Int32) (z u : Nat) (hi : Int32) : Prop := tK b z u = 2 ∧ ¬ hi < nI (tC b z u)
theorem okNu_lt {b : Nat → Int32} {z u P : Nat} (hP : P ≤ 10) (h : okNu b z u (nI P - 1)) : tC b z u < P := x_most hP cv_le rfl h.2
/-! items: inl u: the fault is the token behind u; inr u: the next token is behind u -/
noncomputable def cif {α : Type} (p : Prop) (x y : α) : α := @ite α p (Classical.propDecidable p) x y
theorem cif_pos {α : Type} {p : Prop} {x y : α} (h : p) : cif p x y = x := by unfold cif; exact if_pos h
theorem cif_neg {α : Type} {p : Prop} {x y : α} (h : ¬ p) : cif p x y = y := by unfold cif; exact if_neg h
abbrev PR : Type := Nat ⊕ Nat
noncomputable def spE (b : Nat → Int32) (z u : Nat) : PR := cif (tW b z u 3) (cif (okNu b z (nx b z u) 99) (.inr (nx b z (nx b z u))) (.inl (nx b z u))) (.inr u)
noncomputable def spPl (b : Nat → Int32) (z u P : Nat) : PR := cif (P < 10) (spE b z (nx b z u)) (.inl u)
noncomputable def spM (b : Nat → Int32) (z u : Nat) (lo hi : Int32) (k : Nat → PR) : PR := cif (okMi b z u lo hi) (k (nx b z (mSt b z u))) (.inl (mSt b z u))
noncomputable def spBk (b : Nat → Int32) (z u : Nat) : PR := cif (tW b z u 5) (spM b z (nx b z u) (-99) 999 .inr) (.inr u)
noncomputable def spTo (b : Nat → Int32) (z : Nat) (lo : Int32) (u : Nat) : PR := cif (tW b z u 4) (spM b z (nx b z u) lo 999 (spBk b z)) (spBk b z u)
noncomputable def spWay2 (b : Nat → Int32) (z u : Nat) : PR := spM b z u (-99) 999 (spTo b z (mV b z u))
noncomputable def spWay1 (b : Nat → Int32) (z u v P : Nat) : PR := cif (okNu b z u (nI P - 1) ∧ ¬ tC b z u = v) (spWay2 b z (nx b z u)) (.inl u)
noncomputable def spWay (b : Nat → Int32) (z u P : Nat) : PR := cif (okNu b z (nx b z u) (nI P - 1)) (spWay1 b z (nx b z (nx b z u)) (tC b z (nx b z u)) P) (.inl (nx b z u))
noncomputable def spS1 (b : Nat → Int32) (z u : Nat) : PR := cif (okNu b z u 99) (.inr (nx b z u)) (.inl u)
noncomputable def spSl (b : Nat → Int32) (z u : Nat) : PR := cif (tW b z u 7) (spS1 b z (nx b z u)) (.inr u)
noncomputable def spAll (b : Nat → Int32) (z n u : Nat) : PR := cif (2 ≤ n) (cif (tW b z u 6) (spM b z (nx b z u) (-9999) 9999 (spSl b z)) (.inl u)) (.inl u)
/-- the stops of a walk, n of them read, the last one v -/
noncomputable def spSt (b : Nat → Int32) (z P : Nat) : Nat → Nat → Nat → Nat → PR
  | 0, u, _, n => spAll b z n u
  | q + 1, u, v, n => cif (tK b z u = 2) (cif (okNu b z u (nI P - 1) ∧ ¬ tC b z u = v) (spSt b z P q (nx b z u) (tC b z u) (n + 1)) (.inl u)) (spAll b z n u)
theorem spSt_go {b : Nat → Int32} {z P i u v : Nat} (h : i < 6) (k : tK b z u = 2) (hn : okNu b z u (nI P - 1) ∧ ¬ tC b z u = v) : spSt b z P (6 - i) u v i = spSt b z P (6 - (i + 1)) (nx b z u) (tC b z u) (i + 1) := by
  rw [show 6 - i = (6 - (i + 1)) + 1 by omega, spSt]; exact (cif_pos k).trans (cif_pos hn)
theorem spSt_no {b : Nat → Int32} {z P i u v : Nat} (h : i < 6) (k : tK b z u = 2) (hn : ¬ (okNu b z u (nI P - 1) ∧ ¬ tC b z u = v)) : spSt b z P (6 - i) u v i = .inl u := by
  rw [show 6 - i = (6 - (i + 1)) + 1 by omega, spSt]; exact (cif_pos k).trans (cif_neg hn)
theorem spSt_end {b : Nat → Int32} {z P i u v : Nat} (h : i < 6) (k : ¬ tK b z u = 2) : spSt b z P (6 - i) u v i = spAll b z i u := by
  rw [show 6 - i = (6 - (i + 1)) + 1 by omega, spSt]; exact cif_neg k
theorem spSt_six {b : Nat → Int32} {z P i u v : Nat} (h : 6 ≤ i) : spSt b z P (6 - i) u v i = spAll b z i u := by
  rw [show 6 - i = 0 by omega, spSt]
theorem xnn {a b : Nat} (ha : a ≤ 10000) (hb : b ≤ 10000) (h : nI a = nI b) : a = b := xn_eq (a := a) (b := b) (by omega) (by omega) h
noncomputable def spWalk (b : Nat → Int32) (z u P W : Nat) : PR := cif (W < 8) (cif (okNu b z (nx b z u) (nI P - 1)) (spSt b z P 5 (nx b z (nx b z u)) (tC b z (nx b z u)) 1) (.inl (nx b z u))) (.inl u)
noncomputable def spItem (b : Nat → Int32) (z u P W : Nat) : PR := cif (tW b z u 0) (spPl b z u P) (cif (tW b z u 1) (spWay b z u P) (cif (tW b z u 2) (spWalk b z u P W) (.inl u)))
noncomputable def spP (b : Nat → Int32) (z u P : Nat) : Nat := cif (tW b z u 0) (P + 1) P
noncomputable def spW (b : Nat → Int32) (z u W : Nat) : Nat := cif (tW b z u 2) (W + 1) W
/-- all items: inl u: the fault; inr: how many items, places, walks -/
noncomputable def spLand (b : Nat → Int32) (z : Nat) : Nat → Nat → Nat → Nat → Nat → Nat ⊕ (Nat × Nat × Nat)
  | 0, u, _, _, _ => .inl u
  | q + 1, u, P, W, n => match spItem b z u P W with
    | .inl v => .inl v
    | .inr v => cif (tK b z v = 0) (.inr (n, spP b z u P, spW b z u W)) (cif (tK b z v = 3) (spLand b z q (nx b z v) (spP b z u P) (spW b z u W) (n + 1)) (.inl v))
theorem spLand_no {b : Nat → Int32} {z i u P W v : Nat} (hi : i < 121) (h : spItem b z u P W = .inl v) : spLand b z (121 - i) u P W i = .inl v := by
  rw [show 121 - i = (121 - (i + 1)) + 1 by omega, spLand, h]
theorem spLand_end {b : Nat → Int32} {z i u P W v : Nat} (hi : i < 121) (h : spItem b z u P W = .inr v) (k : tK b z v = 0) : spLand b z (121 - i) u P W i = .inr (i, spP b z u P, spW b z u W) := by
  rw [show 121 - i = (121 - (i + 1)) + 1 by omega, spLand, h]; exact cif_pos k
theorem spLand_go {b : Nat → Int32} {z i u P W v : Nat} (hi : i < 121) (h : spItem b z u P W = .inr v) (k0 : ¬ tK b z v = 0) (k : tK b z v = 3) : spLand b z (121 - i) u P W i = spLand b z (121 - (i + 1)) (nx b z v) (spP b z u P) (spW b z u W) (i + 1) := by
  rw [show 121 - i = (121 - (i + 1)) + 1 by omega, spLand, h]; exact (cif_neg k0).trans (cif_pos k)
theorem spLand_bad {b : Nat → Int32} {z i u P W v : Nat} (hi : i < 121) (h : spItem b z u P W = .inr v) (k0 : ¬ tK b z v = 0) (k : ¬ tK b z v = 3) : spLand b z (121 - i) u P W i = .inl v := by
  rw [show 121 - i = (121 - (i + 1)) + 1 by omega, spLand, h]; exact (cif_neg k0).trans (cif_neg k)
theorem spLand_out {b : Nat → Int32} {z i u P W : Nat} (hi : 121 ≤ i) : spLand b z (121 - i) u P W i = .inl u := by
  rw [show 121 - i = 0 by omega, spLand]
def spLr (b : Nat → Int32) (z : Nat) : Nat ⊕ (Nat × Nat × Nat) → Int32
  | .inl u => -1 - nI (nf b z u)
  | .inr x => nI x.1
def spLP (P : Nat) : Nat ⊕ (Nat × Nat × Nat) → Nat
  | .inl _ => P
  | .inr x => x.2.1
def spLW (W : Nat) : Nat ⊕ (Nat × Nat × Nat) → Nat
  | .inl _ => W
  | .inr x => x.2.2
theorem x_mone {f : Nat} (h : f ≤ 1000) : (-1 - nI f : Int32) < 0 := by
  have e : (-1 - nI f : Int32).toInt = -1 - (f : Int) := by
    rw [Int32.toInt_sub, nI_toInt (by omega), show (-1 : Int32).toInt = -1 from by decide]
    exact Int.bmod_eq_of_le (by omega) (by omega)
  rw [Int32.lt_iff_toInt_lt, e, show (0 : Int32).toInt = 0 from by decide]
  omega
theorem tW_ne {b : Nat → Int32} {z u i j : Nat} (h : tW b z u i) (e : xLen.getD i 0 ≠ xLen.getD j 0) : ¬ tW b z u j := fun q => e (h.1.symm.trans q.1)
/-! bytes that are fed -/
def fdv (p c : Int32) : Int32 := (p.toUInt32 >>> (c.toUInt32 &&& Int32.toUInt32 31)).toInt32 &&& 255
theorem fdv_bits (x : BitVec 32) (s : Nat) (hs : s ≤ 24) : x.sshiftRight s &&& 255#32 = x >>> s &&& 255#32 := by
  apply BitVec.eq_of_getLsbD_eq
  intro i hi
  rw [BitVec.getLsbD_and, BitVec.getLsbD_and, BitVec.getLsbD_sshiftRight, BitVec.getLsbD_ushiftRight]
  by_cases h : i < 8
  · rw [if_pos (by omega)]
    simp [show ¬ 32 ≤ i by omega]
  · have e : (255#32).getLsbD i = false := by
      rcases (show i = 8 ∨ i = 9 ∨ i = 10 ∨ i = 11 ∨ i = 12 ∨ i = 13 ∨ i = 14 ∨ i = 15 ∨ i = 16 ∨ i = 17 ∨ i = 18 ∨ i = 19 ∨ i = 20 ∨ i = 21 ∨ i = 22 ∨ i = 23 ∨ i = 24 ∨ i = 25 ∨ i = 26 ∨ i = 27 ∨ i = 28 ∨ i = 29 ∨ i = 30 ∨ i = 31 by omega) with rfl | rfl | rfl | rfl | rfl | rfl | rfl | rfl | rfl | rfl | rfl | rfl | rfl | rfl | rfl | rfl | rfl | rfl | rfl | rfl | rfl | rfl | rfl | rfl <;> rfl
    rw [e, Bool.and_false, Bool.and_false]
theorem fdvM (p : Int32) {c : Int32} (hc : c = 0 ∨ c = 8 ∨ c = 16 ∨ c = 24) : p >>> (c &&& 31) &&& 255 = fdv p c := by
  rcases hc with rfl | rfl | rfl | rfl
  · exact congrArg Int32.ofBitVec (fdv_bits p.toBitVec 0 (by omega))
  · exact congrArg Int32.ofBitVec (fdv_bits p.toBitVec 8 (by omega))
  · exact congrArg Int32.ofBitVec (fdv_bits p.toBitVec 16 (by omega))
  · exact congrArg Int32.ofBitVec (fdv_bits p.toBitVec 24 (by omega))
def fdT (T : Nat → Int32) (z : Nat) (p q : Int32) : Nat → Int32 :=
  if q = 1 then (if z + 1 ≤ 120 then upd T z (fdv p 0) else T)
  else if q = 2 then (if z + 2 ≤ 120 then upd (upd T z (fdv p 8)) (z + 1) (fdv p 0) else T)
  else if q = 3 then (if z + 3 ≤ 120 then upd (upd (upd T z (fdv p 16)) (z + 1) (fdv p 8)) (z + 1 + 1) (fdv p 0) else T)
  else if q = 4 then (if z + 4 ≤ 120 then upd (upd (upd (upd T z (fdv p 24)) (z + 1) (fdv p 16)) (z + 1 + 1) (fdv p 8)) (z + 1 + 1 + 1) (fdv p 0) else T)
  else T
theorem fdT_1 {T : Nat → Int32} {z : Nat} {p : Int32} (h : z + 1 ≤ 120) : upd T z (fdv p 0) = fdT T z p 1 := by
  unfold fdT; rw [if_pos rfl, if_pos h]
theorem fdT_2 {T : Nat → Int32} {z : Nat} {p : Int32} (h : z + 2 ≤ 120) : upd (upd T z (fdv p 8)) (z + 1) (fdv p 0) = fdT T z p 2 := by
  unfold fdT; rw [if_neg (by decide), if_pos rfl, if_pos h]
theorem fdT_3 {T : Nat → Int32} {z : Nat} {p : Int32} (h : z + 3 ≤ 120) : upd (upd (upd T z (fdv p 16)) (z + 1) (fdv p 8)) (z + 1 + 1) (fdv p 0) = fdT T z p 3 := by
  unfold fdT; rw [if_neg (by decide), if_neg (by decide), if_pos rfl, if_pos h]
theorem fdT_4 {T : Nat → Int32} {z : Nat} {p : Int32} (h : z + 4 ≤ 120) : upd (upd (upd (upd T z (fdv p 24)) (z + 1) (fdv p 16)) (z + 1 + 1) (fdv p 8)) (z + 1 + 1 + 1) (fdv p 0) = fdT T z p 4 := by
  unfold fdT; rw [if_neg (by decide), if_neg (by decide), if_neg (by decide), if_pos rfl, if_pos h]
theorem fdT_f1 {T : Nat → Int32} {z : Nat} {p : Int32} (h : 120 < z + 1) : T = fdT T z p 1 := by
  unfold fdT; rw [if_pos rfl, if_neg (by omega)]
theorem fdT_f2 {T : Nat → Int32} {z : Nat} {p : Int32} (h : 120 < z + 2) : T = fdT T z p 2 := by
  unfold fdT; rw [if_neg (by decide), if_pos rfl, if_neg (by omega)]
theorem fdT_f3 {T : Nat → Int32} {z : Nat} {p : Int32} (h : 120 < z + 3) : T = fdT T z p 3 := by
  unfold fdT; rw [if_neg (by decide), if_neg (by decide), if_pos rfl, if_neg (by omega)]
theorem fdT_f4 {T : Nat → Int32} {z : Nat} {p : Int32} (h : 120 < z + 4) : T = fdT T z p 4 := by
  unfold fdT; rw [if_neg (by decide), if_neg (by decide), if_neg (by decide), if_pos rfl, if_neg (by omega)]
theorem fdT_b {T : Nat → Int32} {z : Nat} {p q : Int32} (h : q < 1 ∨ 4 < q) : T = fdT T z p q := by
  have h1 : ¬ q = 1 := by intro e; subst e; revert h; decide
  have h2 : ¬ q = 2 := by intro e; subst e; revert h; decide
  have h3 : ¬ q = 3 := by intro e; subst e; revert h; decide
  have h4 : ¬ q = 4 := by intro e; subst e; revert h; decide
  unfold fdT; rw [if_neg h1, if_neg h2, if_neg h3, if_neg h4]
theorem upd_rel {T U : Nat → Int32} {z : Nat} {v : Int32} (h : ∀ j, j < z → T j = U j) : ∀ j, j < z + 1 → upd T z v j = upd U z v j := by
  intro j hj
  by_cases e : j = z
  · subst e; rw [pk_us, pk_us]
  · rw [pk_un e, pk_un e]; exact h j (by omega)
theorem fdT_rel {T U : Nat → Int32} {z : Nat} {p q : Int32} (h : ∀ j, j < z → T j = U j) : ∀ j, j < sp_fz z q → fdT T z p q j = fdT U z p q j := by
  by_cases q1 : q = 1
  · subst q1
    by_cases k : z + 1 ≤ 120
    · rw [(sp_f1 (p := 1) (c := 1) (z := z) (by decide) (by decide) k).1, ← fdT_1 k, ← fdT_1 k]; exact upd_rel h
    · rw [(sp_f2 (p := 1) (c := 1) (z := z) (by decide) (by decide) (by omega)).1, ← fdT_f1 (by omega), ← fdT_f1 (by omega)]; exact h
  by_cases q2 : q = 2
  · subst q2
    by_cases k : z + 2 ≤ 120
    · rw [(sp_f1 (p := 2) (c := 2) (z := z) (by decide) (by decide) k).1, ← fdT_2 k, ← fdT_2 k]; exact upd_rel (upd_rel h)
    · rw [(sp_f2 (p := 2) (c := 2) (z := z) (by decide) (by decide) (by omega)).1, ← fdT_f2 (by omega), ← fdT_f2 (by omega)]; exact h
  by_cases q3 : q = 3
  · subst q3
    by_cases k : z + 3 ≤ 120
    · rw [(sp_f1 (p := 3) (c := 3) (z := z) (by decide) (by decide) k).1, ← fdT_3 k, ← fdT_3 k]; exact upd_rel (upd_rel (upd_rel h))
    · rw [(sp_f2 (p := 3) (c := 3) (z := z) (by decide) (by decide) (by omega)).1, ← fdT_f3 (by omega), ← fdT_f3 (by omega)]; exact h
  by_cases q4 : q = 4
  · subst q4
    by_cases k : z + 4 ≤ 120
    · rw [(sp_f1 (p := 4) (c := 4) (z := z) (by decide) (by decide) k).1, ← fdT_4 k, ← fdT_4 k]; exact upd_rel (upd_rel (upd_rel (upd_rel h)))
    · rw [(sp_f2 (p := 4) (c := 4) (z := z) (by decide) (by decide) (by omega)).1, ← fdT_f4 (by omega), ← fdT_f4 (by omega)]; exact h
  have hb : q < 1 ∨ 4 < q := by
    by_cases a : q < 1
    · exact Or.inl a
    · refine Or.inr (Int32.not_le.mp (fun b => ?_))
      obtain ⟨k, hk, rfl⟩ := nI_of (show ¬ q < 0 from fun c => a (Int32.lt_trans c (by decide)))
      have b1 := xn_le (a := k) (b := 4) hk (by omega) b
      have b2 := xn_nlt (a := k) (b := 1) hk (by omega) a
      rcases (show k = 1 ∨ k = 2 ∨ k = 3 ∨ k = 4 by omega) with rfl | rfl | rfl | rfl
      · exact q1 rfl
      · exact q2 rfl
      · exact q3 rfl
      · exact q4 rfl
  rw [(sp_f3 (z := z) hb).1, ← fdT_b hb, ← fdT_b hb]; exact h
/-! the reference's reading -/
theorem bb_in {T b : Nat → Int32} {z k : Nat} (hbb : bA T z = b) (h : k < z) : T k = b k := (bA_in h).trans (congrFun hbb k)
theorem bb_out {T b : Nat → Int32} {z k : Nat} (hbb : bA T z = b) (h : z ≤ k) : b k = -1 := (congrFun hbb k).symm.trans (bA_out h).symm
theorem kd_L {b : Nat → Int32} {z f : Nat} (h : f < z) (hl : isL (b f)) : kd b z f = 1 := by unfold kd; rw [if_pos h, if_pos hl]
theorem kd_D {b : Nat → Int32} {z f : Nat} (h : f < z) (hd : isD (b f)) : kd b z f = 2 := by unfold kd; rw [if_pos h, if_neg (x_LD hd), if_pos hd]
theorem kd_nD {b : Nat → Int32} {z f : Nat} (h : b f < 48 ∨ 57 < b f) : ¬ kd b z f = 2 := fun q => h.elim (kd_isD q).2.2.1 (kd_isD q).2.2.2
theorem kd_nz {b : Nat → Int32} {z f : Nat} (h : z ≤ f) : ¬ kd b z f = 2 := fun q => absurd (kd_isD q).1 (by omega)
theorem kd_end {b : Nat → Int32} {z f : Nat} (h : z ≤ f) : kd b z f = 0 := by unfold kd; rw [if_neg (by omega)]
theorem kd_ne0 {b : Nat → Int32} {z f : Nat} (h : f < z) : ¬ kd b z f = 0 := by
  unfold kd
  rw [if_pos h]
  repeat' split
  all_goals decide
theorem kd_semi {b : Nat → Int32} {z f : Nat} (h : f < z) (e : b f = 59) : kd b z f = 3 := by
  unfold kd
  rw [if_pos h, e, if_neg (by decide), if_neg (by decide), if_pos rfl]
theorem kd_nsemi {b : Nat → Int32} {z f : Nat} (e : ¬ b f = 59) : ¬ kd b z f = 3 := by
  unfold kd
  repeat' split
  all_goals first | decide | exact absurd (by assumption) e
theorem kd_min {b : Nat → Int32} {z f : Nat} (h : f < z) (e : b f = 45) : kd b z f = 4 := by
  unfold kd
  rw [if_pos h, e, if_neg (by decide), if_neg (by decide), if_neg (by decide), if_pos rfl]
theorem kd_nmin {b : Nat → Int32} {z f : Nat} (e : ¬ b f = 45) : ¬ kd b z f = 4 := by
  unfold kd
  repeat' split
  all_goals first | decide | exact absurd (by assumption) e
theorem rnD_all (b : Nat → Int32) : ∀ n f j, f ≤ j → j < rnD b n f → isD (b j)
  | 0, f, j, h1, h2 => absurd h2 (by show ¬ j < f; omega)
  | n + 1, f, j, h1, h2 => by
    unfold rnD at h2
    split at h2
    · by_cases e : j = f
      · subst e; assumption
      · exact rnD_all b n (f + 1) j (by omega) h2
    · omega
theorem dig_all {b : Nat → Int32} {z f j : Nat} (hk : kd b z f = 2) (h1 : f ≤ j) (h2 : j < ne b z f) : isD (b j) := by
  obtain ⟨hf, hl, hd⟩ := kd_isD hk
  by_cases e : j = f
  · subst e; exact hd
  · unfold ne at h2
    rw [if_pos hf, if_neg hl, if_pos hd] at h2
    exact rnD_all b _ (f + 1) j (by omega) h2
theorem nvM_snoc (b : Nat → Int32) : ∀ (n p v : Nat), nvM b (n + 1) p v = (if 9999 < nvM b n p v then nvM b n p v else 10 * nvM b n p v + ((b (p + n)).toNatClampNeg - 48))
  | 0, p, v => rfl
  | n + 1, p, v => by
    show nvM b (n + 1) (p + 1) (if 9999 < v then v else 10 * v + ((b p).toNatClampNeg - 48)) = _
    rw [nvM_snoc b n (p + 1), show p + 1 + n = p + (n + 1) by omega]
    rfl
theorem st_digM {b T : Nat → Int32} {z f i : Nat} (hbb : bA T z = b) (hk : kd b z f = 2) (h1 : f ≤ i) (h2 : i < ne b z f) (hz : i < z) : ∃ d : Nat, T i = nI d ∧ 48 ≤ d ∧ d ≤ 57 ∧ (b i).toNatClampNeg = d := by
  have h := dig_all hk h1 h2
  obtain ⟨d, e, g1, g2⟩ := xdig h.1 h.2
  refine ⟨d, (bb_in hbb hz).trans e, g1, g2, ?_⟩
  rw [e, nI_clamp (by omega)]
theorem nv_put {b : Nat → Int32} {f i v d : Nat} (h1 : f ≤ i) (hv : v = nvM b (i - f) f 0) (hc : v ≤ 9999) (hd : (b i).toNatClampNeg = d) (h48 : 48 ≤ d) : 10 * v + d - 48 = nvM b (i + 1 - f) f 0 := by
  rw [show i + 1 - f = (i - f) + 1 by omega, nvM_snoc, ← hv, if_neg (by omega), show f + (i - f) = i by omega, hd]
  omega
theorem nv_keep {b : Nat → Int32} {f i v : Nat} (h1 : f ≤ i) (hv : v = nvM b (i - f) f 0) (hc : 9999 < v) : v = nvM b (i + 1 - f) f 0 := by
  rw [show i + 1 - f = (i - f) + 1 by omega, nvM_snoc, ← hv, if_pos hc]
theorem nvM_le {b : Nat → Int32} {f t : Nat} (h : ∀ j, f ≤ j → j < t → isD (b j)) : ∀ n, f + n ≤ t → nvM b n f 0 ≤ 99999
  | 0, _ => Nat.zero_le _
  | n + 1, hn => by
    have ih := nvM_le h n (by omega)
    have hd := h (f + n) (by omega) (by omega)
    obtain ⟨d, e, g1, g2⟩ := xdig hd.1 hd.2
    rw [nvM_snoc, e, nI_clamp (by omega)]
    split <;> omega
abbrev tN (b : Nat → Int32) (z u : Nat) : Nat := num b (nf b z u) (nx b z u)
theorem num_le {b : Nat → Int32} {z u : Nat} (h : tK b z u = 2) : tN b z u ≤ 99999 := by
  show num b (nf b z u) (nx b z u) ≤ 99999
  unfold num
  by_cases c : nf b z u ≤ nx b z u
  · exact nvM_le (t := nx b z u) (fun j h1 h2 => dig_all h h1 h2) _ (by omega)
  · rw [show nx b z u - nf b z u = 0 by omega]; exact Nat.zero_le _
abbrev okR9 (b : Nat → Int32) (z u : Nat) (lo hi : Int32) : Prop := tK b z u = 2 ∧ ¬ nI (tN b z u) < lo ∧ ¬ hi < nI (tN b z u)
theorem tC_eq {b : Nat → Int32} {z u : Nat} (h : tK b z u = 2) : tC b z u = min (tN b z u) 10000 := by
  show cv b z (nf b z u) (nx b z u) = _
  unfold cv; rw [if_pos h]
theorem okR_N {b : Nat → Int32} {z u P : Nat} (hP : P ≤ 10) (h : okR9 b z u 0 (nI P - 1)) : okNu b z u (nI P - 1) ∧ tN b z u < P ∧ tC b z u = tN b z u := by
  have hb := num_le h.1
  have h2 : tN b z u < P := by
    rcases Nat.lt_or_ge (tN b z u) P with q | q
    · exact q
    · refine absurd ?_ h.2.2
      rw [Int32.lt_iff_toInt_lt, show (nI P - 1 : Int32) = nI P - nI 1 from rfl, pk_sub_toInt (by omega) (by omega), nI_toInt (by omega)]
      omega
  have h3 : tC b z u = tN b z u := by rw [tC_eq h.1]; omega
  exact ⟨⟨h.1, by rw [h3]; exact h.2.2⟩, h2, h3⟩
theorem okN_R {b : Nat → Int32} {z u P : Nat} (hP : P ≤ 10) (h : okNu b z u (nI P - 1)) : okR9 b z u 0 (nI P - 1) := by
  have h2 := okNu_lt hP h
  have h3 := tC_eq h.1
  have h4 : tC b z u = tN b z u := by omega
  exact ⟨h.1, nI_pos (by have := num_le h.1; omega), by rw [← h4]; exact h.2⟩
theorem okR_99 {b : Nat → Int32} {z u : Nat} : okR9 b z u 0 99 ↔ okNu b z u 99 := by
  constructor
  · intro h
    have hb := num_le h.1
    refine ⟨h.1, fun q => h.2.2 ?_⟩
    rw [tC_eq h.1] at q
    have := xn_lt (a := 99) (b := min (tN b z u) 10000) (by omega) (by omega) q
    exact (nI_ltI (a := 99) (by omega) (by omega)).mpr (by omega)
  · intro h
    have hb := num_le h.1
    refine ⟨h.1, nI_pos (by omega), fun q => h.2 ?_⟩
    have := xn_lt (a := 99) (b := tN b z u) (by omega) (by omega) q
    rw [tC_eq h.1]
    exact (nI_ltI (a := 99) (by omega) (by omega)).mpr (by omega)
theorem nI_neg {a : Nat} (h : a < 2 ^ 30) : (-(nI a)).toInt = -(a : Int) := by
  rw [Int32.toInt_neg, nI_toInt (by omega)]
  exact Int.bmod_eq_of_le (by omega) (by omega)
theorem lt_iff9 (a b : Int32) : a < b ↔ a.toInt < b.toInt := Int32.lt_iff_toInt_lt
/-- a mile without a sign -/
theorem ml_pos {b : Nat → Int32} {z u : Nat} {lo hi a : Int32} (k : ¬ tK b z u = 4) (l2 : lo.toInt ≤ 9999) (h1 : 0 ≤ hi.toInt) (h2 : hi.toInt ≤ 9999) (ha : a.toInt = max lo.toInt 0) : okR9 b z u a hi ↔ okMi b z u lo hi := by
  have eS : mSt b z u = u := if_neg k
  have eV : mV b z u = nI (tC b z u) := if_neg k
  unfold okMi okR9
  rw [eS, eV]
  constructor
  · intro h
    have hb := num_le h.1
    have e := tC_eq h.1
    refine ⟨h.1, fun q => h.2.1 ?_, fun q => h.2.2 ?_⟩
    · rw [lt_iff9, nI_toInt (by omega)] at q ⊢; omega
    · rw [lt_iff9, nI_toInt (by omega)] at q ⊢; omega
  · intro h
    have hb := num_le h.1
    have e := tC_eq h.1
    refine ⟨h.1, fun q => h.2.1 ?_, fun q => h.2.2 ?_⟩
    · rw [lt_iff9, nI_toInt (by omega)] at q ⊢; omega
    · rw [lt_iff9, nI_toInt (by omega)] at q ⊢; omega
theorem ml_posV {b : Nat → Int32} {z u : Nat} {lo hi : Int32} (k : ¬ tK b z u = 4) (h2 : hi.toInt ≤ 9999) (h : okMi b z u lo hi) : nI (tN b z u) = mV b z u := by
  have eS : mSt b z u = u := if_neg k
  have eV : mV b z u = nI (tC b z u) := if_neg k
  have hk := h.1
  have hh := h.2.2
  rw [eS] at hk
  have hb := num_le hk
  have e := tC_eq hk
  rw [eV] at hh ⊢
  have q : ¬ hi.toInt < (nI (tC b z u)).toInt := fun q => hh ((lt_iff9 _ _).mpr q)
  rw [nI_toInt (by omega)] at q
  rw [show tN b z u = tC b z u by omega]
/-- a mile below nought -/
theorem ml_less {b : Nat → Int32} {z u : Nat} {lo hi c : Int32} (k : tK b z u = 4) (l1 : -9999 ≤ lo.toInt) (h1 : 0 ≤ hi.toInt) (hc : (lo.toInt ≤ 0 ∧ c.toInt = -lo.toInt) ∨ (0 < lo.toInt ∧ c.toInt = -1)) : okR9 b z (nx b z u) 0 c ↔ okMi b z u lo hi := by
  have eS : mSt b z u = nx b z u := if_pos k
  have eV : mV b z u = -(nI (tC b z (nx b z u))) := if_pos k
  unfold okMi okR9
  rw [eS, eV]
  have z0 : (0 : Int32).toInt = 0 := by decide
  constructor
  · intro h
    have hb := num_le h.1
    have e := tC_eq h.1
    refine ⟨h.1, fun q => h.2.2 ?_, fun q => ?_⟩
    · rw [lt_iff9] at q ⊢; rw [nI_neg (by omega)] at q; rw [nI_toInt (by omega)]; omega
    · rw [lt_iff9, nI_neg (by omega)] at q; omega
  · intro h
    have hb := num_le h.1
    have e := tC_eq h.1
    refine ⟨h.1, nI_pos (by omega), fun q => h.2.1 ?_⟩
    rw [lt_iff9] at q ⊢; rw [nI_toInt (by omega)] at q; rw [nI_neg (by omega)]; omega
theorem ml_lessV {b : Nat → Int32} {z u : Nat} {lo hi : Int32} (k : tK b z u = 4) (l1 : -9999 ≤ lo.toInt) (h : okMi b z u lo hi) : 0 - nI (tN b z (nx b z u)) = mV b z u := by
  have eS : mSt b z u = nx b z u := if_pos k
  have eV : mV b z u = -(nI (tC b z (nx b z u))) := if_pos k
  have hk := h.1
  have hh := h.2.1
  rw [eS] at hk
  have hb := num_le hk
  have e := tC_eq hk
  rw [eV] at hh ⊢
  have q : ¬ (-(nI (tC b z (nx b z u)))).toInt < lo.toInt := fun q => hh ((lt_iff9 _ _).mpr q)
  rw [nI_neg (by omega)] at q
  rw [show tN b z (nx b z u) = tC b z (nx b z u) by omega]
  exact Int32.zero_sub _
theorem mV_in {b : Nat → Int32} {z u : Nat} {lo hi : Int32} (h : okMi b z u lo hi) : lo.toInt ≤ (mV b z u).toInt ∧ (mV b z u).toInt ≤ hi.toInt := ⟨by have := h.2.1; rw [lt_iff9] at this; omega, by have := h.2.2; rw [lt_iff9] at this; omega⟩
theorem z0I : (0 : Int32).toInt = 0 := by decide
theorem x_neg0 {x p : Int32} (e : x = 0 - p) (l1 : -9999 ≤ p.toInt) (l2 : p.toInt ≤ 9999) : x.toInt = -p.toInt := by
  rw [e, Int32.toInt_sub, z0I]
  rw [Int.bmod_eq_of_le (by omega) (by omega)]
  omega
theorem x_max0a {p : Int32} (h : 0 ≤ p) : p.toInt = max p.toInt 0 := by
  rw [Int32.le_iff_toInt_le, z0I] at h; omega
theorem x_max0b {p : Int32} (h : ¬ 0 ≤ p) : (0 : Int32).toInt = max p.toInt 0 := by
  rw [Int32.le_iff_toInt_le, z0I] at h; rw [z0I]; omega
theorem x_le0 {p : Int32} (h : p ≤ 0) : p.toInt ≤ 0 := by
  rw [Int32.le_iff_toInt_le, z0I] at h; omega
theorem x_gt0 {p : Int32} (h : ¬ p ≤ 0) : 0 < p.toInt := by
  rw [Int32.le_iff_toInt_le, z0I] at h; omega
theorem x_ge0 {p : Int32} (h : 0 ≤ p.toInt) : 0 ≤ p := by
  rw [Int32.le_iff_toInt_le, z0I]; exact h
theorem mV_in99 {b : Nat → Int32} {z u : Nat} (h : okMi b z u (-99) 999) : -99 ≤ (mV b z u).toInt ∧ (mV b z u).toInt ≤ 999 := by
  have h9 := mV_in h
  rw [show (-99 : Int32).toInt = -99 from by decide, show (999 : Int32).toInt = 999 from by decide] at h9
  exact h9
theorem okN_of {b : Nat → Int32} {z u P : Nat} (hP : P ≤ 10) (hk : tK b z u = 2) (h : tN b z u < P) : okNu b z u (nI P - 1) ∧ tC b z u = tN b z u := by
  have h3 : tC b z u = tN b z u := by rw [tC_eq hk]; omega
  refine ⟨⟨hk, fun q => ?_⟩, h3⟩
  rw [lt_iff9, show (nI P - 1 : Int32) = nI P - nI 1 from rfl, pk_sub_toInt (by omega) (by omega), nI_toInt (by omega)] at q
  omega
theorem okN_isP {b : Nat → Int32} {z u P : Nat} (hP : P ≤ 10) (h : okNu b z u (nI P - 1)) : isP P (nI (tN b z u)) := isP_nI (by omega) (okR_N hP (okN_R hP h)).2.1
theorem tC_of {b : Nat → Int32} {z u v : Nat} (h1 : tK b z u = 2) (h2 : tK b z v = 2) (h : tN b z u = tN b z v) : tC b z u = tC b z v := by rw [tC_eq h1, tC_eq h2, h]
theorem num_k {b : Nat → Int32} {z u k : Nat} (hk : tK b z u = 2) (h9 : k < 100) (h : nI (tN b z u) = nI k) : num b (nf b z u) (nx b z u) = k := xn_eq (a := tN b z u) (by have := num_le hk; omega) (by omega) h
theorem tW_lt {b : Nat → Int32} {z u i : Nat} (hi : i < 8) (hu : u ≤ z) (h : tW b z u i) : u < nx b z u := by
  have h1 := h.1
  have h2 := (xch_L_ i hi).2
  have h3 := tk_le (b := b) hu
  omega
noncomputable def spAft (b : Nat → Int32) (z i v P W : Nat) : Nat ⊕ (Nat × Nat × Nat) := cif (tK b z v = 0) (.inr (i, P, W)) (cif (tK b z v = 3) (spLand b z (121 - (i + 1)) (nx b z v) P W (i + 1)) (.inl v))
theorem spLand_aft {b : Nat → Int32} {z i u P W v : Nat} (hi : i < 121) (h : spItem b z u P W = .inr v) : spLand b z (121 - i) u P W i = spAft b z i v (spP b z u P) (spW b z u W) := by
  rw [show 121 - i = (121 - (i + 1)) + 1 by omega, spLand, h]; rfl
