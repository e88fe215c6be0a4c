/-! what the acts answer, in plain words -/
def sp_fz (z : Nat) (p : Int32) : Nat := if p = 1 ∨ p = 2 ∨ p = 3 ∨ p = 4 then (if z + p.toNatClampNeg ≤ 120 then z + p.toNatClampNeg else z) else z
def sp_fr (z : Nat) (p : Int32) : Int32 := if p = 1 ∨ p = 2 ∨ p = 3 ∨ p = 4 then (if z + p.toNatClampNeg ≤ 120 then nI (z + p.toNatClampNeg) else (-1000000002)) else (-1000000001)
theorem sp_f1 {p : Int32} {c z : Nat} (e : p.toNatClampNeg = c) (hp : p = 1 ∨ p = 2 ∨ p = 3 ∨ p = 4) (h : z + c ≤ 120) : sp_fz z p = z + c ∧ sp_fr z p = nI (z + c) := by
  subst e
  unfold sp_fz sp_fr
  rw [if_pos hp, if_pos hp, if_pos h, if_pos h]
  exact ⟨rfl, rfl⟩
theorem sp_f2 {p : Int32} {c z : Nat} (e : p.toNatClampNeg = c) (hp : p = 1 ∨ p = 2 ∨ p = 3 ∨ p = 4) (h : 120 < z + c) : sp_fz z p = z ∧ sp_fr z p = -1000000002 := by
  subst e
  unfold sp_fz sp_fr
  rw [if_pos hp, if_pos hp, if_neg (by omega), if_neg (by omega)]
  exact ⟨rfl, rfl⟩
theorem sp_f3 {p : Int32} {z : Nat} (h : p < 1 ∨ 4 < p) : sp_fz z p = z ∧ sp_fr z p = -1000000001 := by
  have hn : ¬ (p = 1 ∨ p = 2 ∨ p = 3 ∨ p = 4) := by
    intro q
    rcases q with q | q | q | q <;> (subst q; revert h; decide)
  unfold sp_fz sp_fr
  rw [if_neg hn, if_neg hn]
  exact ⟨rfl, rfl⟩
def a_sheet (s b n : Int32) : Int32 := if s < 0 ∨ 3 < s then -1000000001 else if ¬ (b = 0 ∨ b = 8 ∨ b = 16 ∨ b = 64) then -1000000001 else if n < 0 then -1000000007 else if 40 < n then -1000000001 else if b = 0 then 0 else n
theorem p_no {a lo hi : Int32} (h1 : ¬ a < lo) (h2 : ¬ hi < a) : ¬ (a < lo ∨ hi < a) := fun h => h.elim h1 h2
theorem p_sheet1 {s b n : Int32} (h : s < 0 ∨ 3 < s) : (-1000000001 : Int32) = a_sheet s b n := (if_pos h).symm
theorem p_sheet2 {s b n : Int32} (h1 : ¬ s < 0) (h2 : ¬ 3 < s) (b0 : ¬ b = 0) (b1 : ¬ b = 8) (b2 : ¬ b = 16) (b3 : ¬ b = 64) : (-1000000001 : Int32) = a_sheet s b n := by
  unfold a_sheet
  rw [if_neg (p_no h1 h2), if_pos (fun h => by rcases h with h | h | h | h <;> contradiction)]
theorem p_sheet3 {s b n : Int32} (h1 : ¬ s < 0) (h2 : ¬ 3 < s) (hb : b = 0 ∨ b = 8 ∨ b = 16 ∨ b = 64) (h : n < 0) : (-1000000007 : Int32) = a_sheet s b n := by
  unfold a_sheet
  rw [if_neg (p_no h1 h2), if_neg (fun q => q hb), if_pos h]
theorem p_sheet4 {s b n : Int32} (h1 : ¬ s < 0) (h2 : ¬ 3 < s) (hb : b = 0 ∨ b = 8 ∨ b = 16 ∨ b = 64) (h : ¬ n < 0) (h3 : 40 < n) : (-1000000001 : Int32) = a_sheet s b n := by
  unfold a_sheet
  rw [if_neg (p_no h1 h2), if_neg (fun q => q hb), if_neg h, if_pos h3]
theorem p_sheet5 {s b n : Int32} (h1 : ¬ s < 0) (h2 : ¬ 3 < s) (hb : b = 0) (h : ¬ n < 0) (h3 : ¬ 40 < n) : (0 : Int32) = a_sheet s b n := by
  unfold a_sheet
  rw [if_neg (p_no h1 h2), if_neg (fun q => q (Or.inl hb)), if_neg h, if_neg h3, if_pos hb]
theorem p_sheet6 {s b n : Int32} (h1 : ¬ s < 0) (h2 : ¬ 3 < s) (hb : b = 0 ∨ b = 8 ∨ b = 16 ∨ b = 64) (h : ¬ n < 0) (h3 : ¬ 40 < n) (hn : ¬ b = 0) : n = a_sheet s b n := by
  unfold a_sheet
  rw [if_neg (p_no h1 h2), if_neg (fun q => q hb), if_neg h, if_neg h3, if_neg hn]
theorem x_le3 {y : Nat} (h : y ≤ 3) : ¬ (3 : Int32) < nI y := fun q => by
  have := xn_lt (a := 3) (b := y) (by omega) (by omega) q
  omega
theorem x_le40 {y : Nat} (h : y ≤ 40) : ¬ (40 : Int32) < nI y := fun q => by
  have := xn_lt (a := 40) (b := y) (by omega) (by omega) q
  omega
