/-! the answers of a fresh object, where they hang on the arguments -/
def a_known (w : Int32) : Int32 := if w = 0 ∨ w = 1 ∨ w = 2 then 0 else -1000000001
def a_feed (n : Int32) : Int32 := if n < 1 ∨ 4 < n then -1000000001 else n
def a_sheet (s b n : Int32) : Int32 := if s < 0 ∨ 3 < s then -1000000001 else if ¬ (b = 0 ∨ b = 8 ∨ b = 16 ∨ b = 64) then -1000000001 else if n < 0 then -1000000007 else if 40 < n then -1000000001 else if b = 0 then 0 else n
def a_wr (s : Int32) : Int64 := if s < 0 ∨ 3 < s then -1000000001 else -1000000006
def a_sh (s : Int32) : Int32 := if s < 0 ∨ 3 < s then -1000000001 else -1000000006
def a_copy (s t : Int32) : Int32 := if s < 0 ∨ 3 < s then -1000000001 else if t < 0 ∨ 3 < t then -1000000001 else -1000000006
def a_count (w : Int32) : Int32 := if w.toInt < 0 ∨ 5 < w.toInt then -1000000001 else 0
def a_status (w : Int32) : Int32 := if w < (-1) ∨ 6 < w then -1000000001 else 0
theorem p_no {a lo hi : Int32} (h1 : ¬ a < lo) (h2 : ¬ hi < a) : ¬ (a < lo ∨ hi < a) := fun h => h.elim h1 h2
theorem p_known {w : Int32} (h0 : ¬ w = 0) (h1 : ¬ w = 1) (h2 : ¬ w = 2) : (-1000000001 : Int32) = a_known w := (if_neg (fun h => by rcases h with h | h | h <;> contradiction)).symm
theorem p_known0 {w : Int32} (h1 : ¬ w < 0) (h2 : ¬ 2 < w) : (0 : Int32) = a_known w := by
  rcases x_k3 h1 h2 with rfl | rfl | rfl <;> decide
theorem p_known2 {w : Int32} (h : w < 0 ∨ 2 < w) : (-1000000001 : Int32) = a_known w := by
  refine p_known ?_ ?_ ?_ <;> (intro e; subst e; revert h; decide)
theorem p_feed {n : Int32} (h : n < 1 ∨ 4 < n) : (-1000000001 : Int32) = a_feed n := (if_pos h).symm
theorem p_sheet1 {s b n : Int32} (h : s < 0 ∨ 3 < s) : (-1000000001 : Int32) = a_sheet s b n := (if_pos h).symm
theorem p_sheet2 {s b n : Int32} (h1 : ¬ s < 0) (h2 : ¬ 3 < s) (b0 : ¬ b = 0) (b1 : ¬ b = 8) (b2 : ¬ b = 16) (b3 : ¬ b = 64) : (-1000000001 : Int32) = a_sheet s b n := by
  unfold a_sheet
  rw [if_neg (p_no h1 h2), if_pos (fun h => by rcases h with h | h | h | h <;> contradiction)]
theorem p_sheet3 {s b n : Int32} (h1 : ¬ s < 0) (h2 : ¬ 3 < s) (hb : b = 0 ∨ b = 8 ∨ b = 16 ∨ b = 64) (h : n < 0) : (-1000000007 : Int32) = a_sheet s b n := by
  unfold a_sheet
  rw [if_neg (p_no h1 h2), if_neg (fun q => q hb), if_pos h]
theorem p_sheet4 {s b n : Int32} (h1 : ¬ s < 0) (h2 : ¬ 3 < s) (hb : b = 0 ∨ b = 8 ∨ b = 16 ∨ b = 64) (h : ¬ n < 0) (h3 : 40 < n) : (-1000000001 : Int32) = a_sheet s b n := by
  unfold a_sheet
  rw [if_neg (p_no h1 h2), if_neg (fun q => q hb), if_neg h, if_pos h3]
theorem p_sheet5 {s n : Int32} (h1 : ¬ s < 0) (h2 : ¬ 3 < s) (h : ¬ n < 0) (h3 : ¬ 40 < n) : (0 : Int32) = a_sheet s 0 n := by
  unfold a_sheet
  rw [if_neg (p_no h1 h2), if_neg (fun q => q (Or.inl rfl)), if_neg h, if_neg h3, if_pos rfl]
theorem p_sheet6 {s b n : Int32} (h1 : ¬ s < 0) (h2 : ¬ 3 < s) (hb : b = 0 ∨ b = 8 ∨ b = 16 ∨ b = 64) (h : ¬ n < 0) (h3 : ¬ 40 < n) (hn : ¬ b = 0) : n = a_sheet s b n := by
  unfold a_sheet
  rw [if_neg (p_no h1 h2), if_neg (fun q => q hb), if_neg h, if_neg h3, if_neg hn]
theorem p_status1 {w : Int32} (h : w < (-1) ∨ 6 < w) : (-1000000001 : Int32) = a_status w := (if_pos h).symm
theorem p_status2 {w : Int32} (h1 : ¬ w < (-1)) (h2 : ¬ 6 < w) : (0 : Int32) = a_status w := (if_neg (p_no h1 h2)).symm
theorem x_in4 {a : Int32} (h1 : ¬ a < 0) (h2 : ¬ 3 < a) : vp_in a 4 := by
  rcases x_i4 h1 h2 with rfl | rfl | rfl | rfl <;> exact xin _ 4 (by decide) (by decide)
theorem x_in7 {a : Int32} (h1 : ¬ a < 0) (h2 : ¬ 6 < a) : vp_in a 7 := by
  have h3 : ¬ a < (-1) := fun h => h1 (Int32.lt_trans h (by decide))
  rcases x_st h3 h2 with rfl | rfl | rfl | rfl | rfl | rfl | rfl | rfl
  · exact absurd (by decide) h1
  all_goals exact xin _ 7 (by decide) (by decide)
abbrev xSh (s0 s1 s2 s3 : Nat) : Nat → Option Nat := va_up (va_up (va_up (va_up (fun _ => none) 0 (some s0)) 1 (some s1)) 2 (some s2)) 3 (some s3)
