/-! the whole land: the reference's row and the arrays -/
theorem upd_upd {f : Nat → Int32} {k : Nat} {a b : Int32} : upd (upd f k a) k b = upd f k b := by
  funext j
  by_cases e : j = k
  · subst e; rw [pk_us, pk_us]
  · rw [pk_un e, pk_un e, pk_un e]
theorem upd_self {f : Nat → Int32} {k : Nat} : upd f k (f k) = f := by
  funext j
  by_cases e : j = k
  · subst e; rw [pk_us]
  · rw [pk_un e]
theorem upd_comm {f : Nat → Int32} {j k : Nat} {a b : Int32} (h : j ≠ k) : upd (upd f j a) k b = upd (upd f k b) j a := by
  funext i
  by_cases e : i = k
  · subst e; rw [pk_us, pk_un (Ne.symm h), pk_us]
  · by_cases g : i = j
    · subst g; rw [pk_un e, pk_us, pk_us]
    · rw [pk_un e, pk_un g, pk_un g, pk_un e]
/-- an array that was copied whole: it is the other one's row -/
theorem xw_cg {D : va_G} {cl : List vw_C} {A : Nat → Prop} {ws : va_W} {H : Heap} (hP : va_P D cl ws H) (hD : va_D A ws) (p : Nat) {a : Nat} {cI : ClassId} {n : Nat} {f g : Nat → Int32} (hp : ws[p]? = some (a, .inl (cI, n, .inl f))) (h : ∀ j, j < n → f j = g j) : va_P D cl (ws.set p (a, .inl (cI, n, .inl g))) H ∧ va_D A (ws.set p (a, .inl (cI, n, .inl g))) := by
  refine ⟨va_P.set hP hD hp ?_ (fun _ _ => rfl), va_D.set hD hp⟩
  have h1 : H[a]? = some (vp_cell cI (n, .inl f)) := hP p _ hp
  show H[a]? = some (vp_cell cI (n, .inl g))
  rw [h1]
  have e : (fun j : Fin n => (Value.int (f j.val))) = fun j => Value.int (g j.val) := by
    funext j
    rw [h j.val j.isLt]
  exact congrArg (fun F : Fin n → Value => some ({ cls := cI, slots := Array.ofFn F, vm := .none } : Cell)) e
def FR (P : Nat) (s e l u o rn rp k wn wp t sl : Nat → Int32) : Prop := (∀ j, j < 10 → s (3 + j) = e j ∧ (P ≤ j → e j = 0)) ∧ (∀ j, j < 100 → s (13 + j) = l j ∧ s (113 + j) = u j ∧ s (213 + j) = o j ∧ (o j = 0 ∨ o j = 1 ∨ o j = 2)) ∧ (∀ r, r < 8 → s (313 + 8 * r) = k r ∧ s (313 + 8 * r + 1) = rn r ∧ ∀ i, i < 6 → s (313 + 8 * r + 2 + i) = rp (r * 6 + i)) ∧ (∀ w, w < 8 → s (377 + 9 * w) = wn w ∧ s (377 + 9 * w + 1) = t w ∧ s (377 + 9 * w + 2) = sl w ∧ ∀ i, i < 6 → s (377 + 9 * w + 3 + i) = wp (w * 6 + i))
theorem FR.pe {P : Nat} {s e l u o rn rp k wn wp t sl : Nat → Int32} (h : FR P s e l u o rn rp k wn wp t sl) {i x : Nat} {v : Int32} (hx : x < 10) (hP : x < P) (e9 : i = 3 + x) : FR P (upd s i v) (upd e (x) v) l u o rn rp k wn wp t sl := by
  subst e9
  obtain ⟨h1, h2, h3, h4⟩ := h
  refine ⟨fun j hj => ?_, fun j hj => ?_, fun r hr => ?_, fun w hw => ?_⟩
  · by_cases q : j = x
    · subst q; rw [pk_us, pk_us]; exact ⟨rfl, fun w => absurd w (by omega)⟩
    · rw [pk_un (by omega), pk_un q]; exact h1 j hj
  · obtain ⟨a, b, c, d⟩ := h2 j hj
    exact ⟨by rw [pk_un (by omega)]; exact a, by rw [pk_un (by omega)]; exact b, by rw [pk_un (by omega)]; exact c, d⟩
  · obtain ⟨a, b, c⟩ := h3 r hr
    exact ⟨by rw [pk_un (by omega)]; exact a, by rw [pk_un (by omega)]; exact b, fun i hi => by rw [pk_un (by omega)]; exact c i hi⟩
  · obtain ⟨a, b, c, d⟩ := h4 w hw
    exact ⟨by rw [pk_un (by omega)]; exact a, by rw [pk_un (by omega)]; exact b, by rw [pk_un (by omega)]; exact c, fun i hi => by rw [pk_un (by omega)]; exact d i hi⟩
theorem FR.pl {P : Nat} {s e l u o rn rp k wn wp t sl : Nat → Int32} (h : FR P s e l u o rn rp k wn wp t sl) {i x : Nat} {v : Int32} (hx : x < 100) (e9 : i = 13 + x) : FR P (upd s i v) e (upd l (x) v) u o rn rp k wn wp t sl := by
  subst e9
  obtain ⟨h1, h2, h3, h4⟩ := h
  refine ⟨fun j hj => ?_, fun j hj => ?_, fun r hr => ?_, fun w hw => ?_⟩
  · rw [pk_un (by omega)]; exact h1 j hj
  · obtain ⟨a, b, c, d⟩ := h2 j hj
    by_cases q : j = x
    · subst q
      exact ⟨by rw [pk_us, pk_us], by rw [pk_un (by omega)]; exact b, by rw [pk_un (by omega)]; exact c, d⟩
    · exact ⟨by rw [pk_un (by omega), pk_un q]; exact a, by rw [pk_un (by omega)]; exact b, by rw [pk_un (by omega)]; exact c, d⟩
  · obtain ⟨a, b, c⟩ := h3 r hr
    exact ⟨by rw [pk_un (by omega)]; exact a, by rw [pk_un (by omega)]; exact b, fun i hi => by rw [pk_un (by omega)]; exact c i hi⟩
  · obtain ⟨a, b, c, d⟩ := h4 w hw
    exact ⟨by rw [pk_un (by omega)]; exact a, by rw [pk_un (by omega)]; exact b, by rw [pk_un (by omega)]; exact c, fun i hi => by rw [pk_un (by omega)]; exact d i hi⟩
theorem FR.pu {P : Nat} {s e l u o rn rp k wn wp t sl : Nat → Int32} (h : FR P s e l u o rn rp k wn wp t sl) {i x : Nat} {v : Int32} (hx : x < 100) (e9 : i = 113 + x) : FR P (upd s i v) e l (upd u (x) v) o rn rp k wn wp t sl := by
  subst e9
  obtain ⟨h1, h2, h3, h4⟩ := h
  refine ⟨fun j hj => ?_, fun j hj => ?_, fun r hr => ?_, fun w hw => ?_⟩
  · rw [pk_un (by omega)]; exact h1 j hj
  · obtain ⟨a, b, c, d⟩ := h2 j hj
    by_cases q : j = x
    · subst q
      exact ⟨by rw [pk_un (by omega)]; exact a, by rw [pk_us, pk_us], by rw [pk_un (by omega)]; exact c, d⟩
    · exact ⟨by rw [pk_un (by omega)]; exact a, by rw [pk_un (by omega), pk_un q]; exact b, by rw [pk_un (by omega)]; exact c, d⟩
  · obtain ⟨a, b, c⟩ := h3 r hr
    exact ⟨by rw [pk_un (by omega)]; exact a, by rw [pk_un (by omega)]; exact b, fun i hi => by rw [pk_un (by omega)]; exact c i hi⟩
  · obtain ⟨a, b, c, d⟩ := h4 w hw
    exact ⟨by rw [pk_un (by omega)]; exact a, by rw [pk_un (by omega)]; exact b, by rw [pk_un (by omega)]; exact c, fun i hi => by rw [pk_un (by omega)]; exact d i hi⟩
theorem FR.po {P : Nat} {s e l u o rn rp k wn wp t sl : Nat → Int32} (h : FR P s e l u o rn rp k wn wp t sl) {i x : Nat} {v : Int32} (hx : x < 100) (hv : v = 0 ∨ v = 1 ∨ v = 2) (e9 : i = 213 + x) : FR P (upd s i v) e l u (upd o (x) v) rn rp k wn wp t sl := by
  subst e9
  obtain ⟨h1, h2, h3, h4⟩ := h
  refine ⟨fun j hj => ?_, fun j hj => ?_, fun r hr => ?_, fun w hw => ?_⟩
  · rw [pk_un (by omega)]; exact h1 j hj
  · obtain ⟨a, b, c, d⟩ := h2 j hj
    by_cases q : j = x
    · subst q
      exact ⟨by rw [pk_un (by omega)]; exact a, by rw [pk_un (by omega)]; exact b, by rw [pk_us, pk_us], by rw [pk_us]; exact hv⟩
    · exact ⟨by rw [pk_un (by omega)]; exact a, by rw [pk_un (by omega)]; exact b, by rw [pk_un (by omega), pk_un q]; exact c, by rw [pk_un q]; exact d⟩
  · obtain ⟨a, b, c⟩ := h3 r hr
    exact ⟨by rw [pk_un (by omega)]; exact a, by rw [pk_un (by omega)]; exact b, fun i hi => by rw [pk_un (by omega)]; exact c i hi⟩
  · obtain ⟨a, b, c, d⟩ := h4 w hw
    exact ⟨by rw [pk_un (by omega)]; exact a, by rw [pk_un (by omega)]; exact b, by rw [pk_un (by omega)]; exact c, fun i hi => by rw [pk_un (by omega)]; exact d i hi⟩
theorem FR.prn {P : Nat} {s e l u o rn rp k wn wp t sl : Nat → Int32} (h : FR P s e l u o rn rp k wn wp t sl) {i x : Nat} {v : Int32} (hx : x < 8) (e9 : i = 313 + 8 * x + 1) : FR P (upd s i v) e l u o (upd rn (x) v) rp k wn wp t sl := by
  subst e9
  obtain ⟨h1, h2, h3, h4⟩ := h
  refine ⟨fun j hj => ?_, fun j hj => ?_, fun r hr => ?_, fun w hw => ?_⟩
  · rw [pk_un (by omega)]; exact h1 j hj
  · obtain ⟨a, b, c, d⟩ := h2 j hj
    exact ⟨by rw [pk_un (by omega)]; exact a, by rw [pk_un (by omega)]; exact b, by rw [pk_un (by omega)]; exact c, d⟩
  · obtain ⟨a, b, c⟩ := h3 r hr
    by_cases q : r = x
    · subst q
      exact ⟨by rw [pk_un (by omega)]; exact a, by rw [pk_us, pk_us], fun i hi => by rw [pk_un (by omega)]; exact c i hi⟩
    · exact ⟨by rw [pk_un (by omega)]; exact a, by rw [pk_un (by omega), pk_un q]; exact b, fun i hi => by rw [pk_un (by omega)]; exact c i hi⟩
  · obtain ⟨a, b, c, d⟩ := h4 w hw
    exact ⟨by rw [pk_un (by omega)]; exact a, by rw [pk_un (by omega)]; exact b, by rw [pk_un (by omega)]; exact c, fun i hi => by rw [pk_un (by omega)]; exact d i hi⟩
theorem FR.prp {P : Nat} {s e l u o rn rp k wn wp t sl : Nat → Int32} (h : FR P s e l u o rn rp k wn wp t sl) {i x y : Nat} {v : Int32} (hx : x < 8) (hy : y < 6) (e9 : i = 313 + 8 * x + 2 + y) : FR P (upd s i v) e l u o rn (upd rp (x * 6 + y) v) k wn wp t sl := by
  subst e9
  obtain ⟨h1, h2, h3, h4⟩ := h
  refine ⟨fun j hj => ?_, fun j hj => ?_, fun r hr => ?_, fun w hw => ?_⟩
  · rw [pk_un (by omega)]; exact h1 j hj
  · obtain ⟨a, b, c, d⟩ := h2 j hj
    exact ⟨by rw [pk_un (by omega)]; exact a, by rw [pk_un (by omega)]; exact b, by rw [pk_un (by omega)]; exact c, d⟩
  · obtain ⟨a, b, c⟩ := h3 r hr
    refine ⟨by rw [pk_un (by omega)]; exact a, by rw [pk_un (by omega)]; exact b, fun i hi => ?_⟩
    by_cases q : r = x ∧ i = y
    · obtain ⟨q1, q2⟩ := q
      subst q1 q2; rw [pk_us, pk_us]
    · rw [pk_un (by omega), pk_un (by omega)]; exact c i hi
  · obtain ⟨a, b, c, d⟩ := h4 w hw
    exact ⟨by rw [pk_un (by omega)]; exact a, by rw [pk_un (by omega)]; exact b, by rw [pk_un (by omega)]; exact c, fun i hi => by rw [pk_un (by omega)]; exact d i hi⟩
theorem FR.pk {P : Nat} {s e l u o rn rp k wn wp t sl : Nat → Int32} (h : FR P s e l u o rn rp k wn wp t sl) {i x : Nat} {v : Int32} (hx : x < 8) (e9 : i = 313 + 8 * x) : FR P (upd s i v) e l u o rn rp (upd k (x) v) wn wp t sl := by
  subst e9
  obtain ⟨h1, h2, h3, h4⟩ := h
  refine ⟨fun j hj => ?_, fun j hj => ?_, fun r hr => ?_, fun w hw => ?_⟩
  · rw [pk_un (by omega)]; exact h1 j hj
  · obtain ⟨a, b, c, d⟩ := h2 j hj
    exact ⟨by rw [pk_un (by omega)]; exact a, by rw [pk_un (by omega)]; exact b, by rw [pk_un (by omega)]; exact c, d⟩
  · obtain ⟨a, b, c⟩ := h3 r hr
    by_cases q : r = x
    · subst q
      exact ⟨by rw [pk_us, pk_us], by rw [pk_un (by omega)]; exact b, fun i hi => by rw [pk_un (by omega)]; exact c i hi⟩
    · exact ⟨by rw [pk_un (by omega), pk_un q]; exact a, by rw [pk_un (by omega)]; exact b, fun i hi => by rw [pk_un (by omega)]; exact c i hi⟩
  · obtain ⟨a, b, c, d⟩ := h4 w hw
    exact ⟨by rw [pk_un (by omega)]; exact a, by rw [pk_un (by omega)]; exact b, by rw [pk_un (by omega)]; exact c, fun i hi => by rw [pk_un (by omega)]; exact d i hi⟩
theorem FR.pwn {P : Nat} {s e l u o rn rp k wn wp t sl : Nat → Int32} (h : FR P s e l u o rn rp k wn wp t sl) {i x : Nat} {v : Int32} (hx : x < 8) (e9 : i = 377 + 9 * x) : FR P (upd s i v) e l u o rn rp k (upd wn (x) v) wp t sl := by
  subst e9
  obtain ⟨h1, h2, h3, h4⟩ := h
  refine ⟨fun j hj => ?_, fun j hj => ?_, fun r hr => ?_, fun w hw => ?_⟩
  · rw [pk_un (by omega)]; exact h1 j hj
  · obtain ⟨a, b, c, d⟩ := h2 j hj
    exact ⟨by rw [pk_un (by omega)]; exact a, by rw [pk_un (by omega)]; exact b, by rw [pk_un (by omega)]; exact c, d⟩
  · obtain ⟨a, b, c⟩ := h3 r hr
    exact ⟨by rw [pk_un (by omega)]; exact a, by rw [pk_un (by omega)]; exact b, fun i hi => by rw [pk_un (by omega)]; exact c i hi⟩
  · obtain ⟨a, b, c, d⟩ := h4 w hw
    by_cases q : w = x
    · subst q
      exact ⟨by rw [pk_us, pk_us], by rw [pk_un (by omega)]; exact b, by rw [pk_un (by omega)]; exact c, fun i hi => by rw [pk_un (by omega)]; exact d i hi⟩
    · exact ⟨by rw [pk_un (by omega), pk_un q]; exact a, by rw [pk_un (by omega)]; exact b, by rw [pk_un (by omega)]; exact c, fun i hi => by rw [pk_un (by omega)]; exact d i hi⟩
theorem FR.pwp {P : Nat} {s e l u o rn rp k wn wp t sl : Nat → Int32} (h : FR P s e l u o rn rp k wn wp t sl) {i x y : Nat} {v : Int32} (hx : x < 8) (hy : y < 6) (e9 : i = 377 + 9 * x + 3 + y) : FR P (upd s i v) e l u o rn rp k wn (upd wp (x * 6 + y) v) t sl := by
  subst e9
  obtain ⟨h1, h2, h3, h4⟩ := h
  refine ⟨fun j hj => ?_, fun j hj => ?_, fun r hr => ?_, fun w hw => ?_⟩
  · rw [pk_un (by omega)]; exact h1 j hj
  · obtain ⟨a, b, c, d⟩ := h2 j hj
    exact ⟨by rw [pk_un (by omega)]; exact a, by rw [pk_un (by omega)]; exact b, by rw [pk_un (by omega)]; exact c, d⟩
  · obtain ⟨a, b, c⟩ := h3 r hr
    exact ⟨by rw [pk_un (by omega)]; exact a, by rw [pk_un (by omega)]; exact b, fun i hi => by rw [pk_un (by omega)]; exact c i hi⟩
  · obtain ⟨a, b, c, d⟩ := h4 w hw
    refine ⟨by rw [pk_un (by omega)]; exact a, by rw [pk_un (by omega)]; exact b, by rw [pk_un (by omega)]; exact c, fun i hi => ?_⟩
    by_cases q : w = x ∧ i = y
    · obtain ⟨q1, q2⟩ := q
      subst q1 q2; rw [pk_us, pk_us]
    · rw [pk_un (by omega), pk_un (by omega)]; exact d i hi
theorem FR.pt {P : Nat} {s e l u o rn rp k wn wp t sl : Nat → Int32} (h : FR P s e l u o rn rp k wn wp t sl) {i x : Nat} {v : Int32} (hx : x < 8) (e9 : i = 377 + 9 * x + 1) : FR P (upd s i v) e l u o rn rp k wn wp (upd t (x) v) sl := by
  subst e9
  obtain ⟨h1, h2, h3, h4⟩ := h
  refine ⟨fun j hj => ?_, fun j hj => ?_, fun r hr => ?_, fun w hw => ?_⟩
  · rw [pk_un (by omega)]; exact h1 j hj
  · obtain ⟨a, b, c, d⟩ := h2 j hj
    exact ⟨by rw [pk_un (by omega)]; exact a, by rw [pk_un (by omega)]; exact b, by rw [pk_un (by omega)]; exact c, d⟩
  · obtain ⟨a, b, c⟩ := h3 r hr
    exact ⟨by rw [pk_un (by omega)]; exact a, by rw [pk_un (by omega)]; exact b, fun i hi => by rw [pk_un (by omega)]; exact c i hi⟩
  · obtain ⟨a, b, c, d⟩ := h4 w hw
    by_cases q : w = x
    · subst q
      exact ⟨by rw [pk_un (by omega)]; exact a, by rw [pk_us, pk_us], by rw [pk_un (by omega)]; exact c, fun i hi => by rw [pk_un (by omega)]; exact d i hi⟩
    · exact ⟨by rw [pk_un (by omega)]; exact a, by rw [pk_un (by omega), pk_un q]; exact b, by rw [pk_un (by omega)]; exact c, fun i hi => by rw [pk_un (by omega)]; exact d i hi⟩
theorem FR.psl {P : Nat} {s e l u o rn rp k wn wp t sl : Nat → Int32} (h : FR P s e l u o rn rp k wn wp t sl) {i x : Nat} {v : Int32} (hx : x < 8) (e9 : i = 377 + 9 * x + 2) : FR P (upd s i v) e l u o rn rp k wn wp t (upd sl (x) v) := by
  subst e9
  obtain ⟨h1, h2, h3, h4⟩ := h
  refine ⟨fun j hj => ?_, fun j hj => ?_, fun r hr => ?_, fun w hw => ?_⟩
  · rw [pk_un (by omega)]; exact h1 j hj
  · obtain ⟨a, b, c, d⟩ := h2 j hj
    exact ⟨by rw [pk_un (by omega)]; exact a, by rw [pk_un (by omega)]; exact b, by rw [pk_un (by omega)]; exact c, d⟩
  · obtain ⟨a, b, c⟩ := h3 r hr
    exact ⟨by rw [pk_un (by omega)]; exact a, by rw [pk_un (by omega)]; exact b, fun i hi => by rw [pk_un (by omega)]; exact c i hi⟩
  · obtain ⟨a, b, c, d⟩ := h4 w hw
    by_cases q : w = x
    · subst q
      exact ⟨by rw [pk_un (by omega)]; exact a, by rw [pk_un (by omega)]; exact b, by rw [pk_us, pk_us], fun i hi => by rw [pk_un (by omega)]; exact d i hi⟩
    · exact ⟨by rw [pk_un (by omega)]; exact a, by rw [pk_un (by omega)]; exact b, by rw [pk_un (by omega), pk_un q]; exact c, fun i hi => by rw [pk_un (by omega)]; exact d i hi⟩
theorem FR.ge {P : Nat} {s e l u o rn rp k wn wp t sl : Nat → Int32} (h : FR P s e l u o rn rp k wn wp t sl) {i x : Nat} (hx : x < 10) (e9 : i = 3 + x) : s i = e (x) := by subst e9; exact (h.1 x hx).1
theorem FR.gl {P : Nat} {s e l u o rn rp k wn wp t sl : Nat → Int32} (h : FR P s e l u o rn rp k wn wp t sl) {i x : Nat} (hx : x < 100) (e9 : i = 13 + x) : s i = l (x) := by subst e9; exact (h.2.1 x hx).1
theorem FR.gu {P : Nat} {s e l u o rn rp k wn wp t sl : Nat → Int32} (h : FR P s e l u o rn rp k wn wp t sl) {i x : Nat} (hx : x < 100) (e9 : i = 113 + x) : s i = u (x) := by subst e9; exact (h.2.1 x hx).2.1
theorem FR.go {P : Nat} {s e l u o rn rp k wn wp t sl : Nat → Int32} (h : FR P s e l u o rn rp k wn wp t sl) {i x : Nat} (hx : x < 100) (e9 : i = 213 + x) : s i = o (x) := by subst e9; exact (h.2.1 x hx).2.2.1
theorem FR.grn {P : Nat} {s e l u o rn rp k wn wp t sl : Nat → Int32} (h : FR P s e l u o rn rp k wn wp t sl) {i x : Nat} (hx : x < 8) (e9 : i = 313 + 8 * x + 1) : s i = rn (x) := by subst e9; exact (h.2.2.1 x hx).2.1
theorem FR.grp {P : Nat} {s e l u o rn rp k wn wp t sl : Nat → Int32} (h : FR P s e l u o rn rp k wn wp t sl) {i x y : Nat} (hx : x < 8) (hy : y < 6) (e9 : i = 313 + 8 * x + 2 + y) : s i = rp (x * 6 + y) := by subst e9; exact (h.2.2.1 x hx).2.2 y hy
theorem FR.gk {P : Nat} {s e l u o rn rp k wn wp t sl : Nat → Int32} (h : FR P s e l u o rn rp k wn wp t sl) {i x : Nat} (hx : x < 8) (e9 : i = 313 + 8 * x) : s i = k (x) := by subst e9; exact (h.2.2.1 x hx).1
theorem FR.gwn {P : Nat} {s e l u o rn rp k wn wp t sl : Nat → Int32} (h : FR P s e l u o rn rp k wn wp t sl) {i x : Nat} (hx : x < 8) (e9 : i = 377 + 9 * x) : s i = wn (x) := by subst e9; exact (h.2.2.2 x hx).1
theorem FR.gwp {P : Nat} {s e l u o rn rp k wn wp t sl : Nat → Int32} (h : FR P s e l u o rn rp k wn wp t sl) {i x y : Nat} (hx : x < 8) (hy : y < 6) (e9 : i = 377 + 9 * x + 3 + y) : s i = wp (x * 6 + y) := by subst e9; exact (h.2.2.2 x hx).2.2.2 y hy
theorem FR.gt {P : Nat} {s e l u o rn rp k wn wp t sl : Nat → Int32} (h : FR P s e l u o rn rp k wn wp t sl) {i x : Nat} (hx : x < 8) (e9 : i = 377 + 9 * x + 1) : s i = t (x) := by subst e9; exact (h.2.2.2 x hx).2.1
theorem FR.gsl {P : Nat} {s e l u o rn rp k wn wp t sl : Nat → Int32} (h : FR P s e l u o rn rp k wn wp t sl) {i x : Nat} (hx : x < 8) (e9 : i = 377 + 9 * x + 2) : s i = sl (x) := by subst e9; exact (h.2.2.2 x hx).2.2.1
theorem FR.zero : FR 0 (fun _ => 0) (fun _ => 0) (fun _ => 0) (fun _ => 0) (fun _ => 0) (fun _ => 0) (fun _ => 0) (fun _ => 0) (fun _ => 0) (fun _ => 0) (fun _ => 0) (fun _ => 0) := ⟨fun _ _ => ⟨rfl, fun _ => rfl⟩, fun _ _ => ⟨rfl, rfl, rfl, Or.inl rfl⟩, fun _ _ => ⟨rfl, rfl, fun _ _ => rfl⟩, fun _ _ => ⟨rfl, rfl, rfl, fun _ _ => rfl⟩⟩
theorem FR.cnt {P : Nat} {s e l u o rn rp k wn wp t sl : Nat → Int32} (h : FR P s e l u o rn rp k wn wp t sl) {i : Nat} {v : Int32} (hi : i < 3) : FR P (upd s i v) e l u o rn rp k wn wp t sl := by
  obtain ⟨h1, h2, h3, h4⟩ := h
  refine ⟨fun j hj => ?_, fun j hj => ?_, fun r hr => ?_, fun w hw => ?_⟩
  · rw [pk_un (by omega)]; exact h1 j hj
  · obtain ⟨a, b, c, d⟩ := h2 j hj
    exact ⟨by rw [pk_un (by omega)]; exact a, by rw [pk_un (by omega)]; exact b, by rw [pk_un (by omega)]; exact c, d⟩
  · obtain ⟨a, b, c⟩ := h3 r hr
    exact ⟨by rw [pk_un (by omega)]; exact a, by rw [pk_un (by omega)]; exact b, fun i hi => by rw [pk_un (by omega)]; exact c i hi⟩
  · obtain ⟨a, b, c, d⟩ := h4 w hw
    exact ⟨by rw [pk_un (by omega)]; exact a, by rw [pk_un (by omega)]; exact b, by rw [pk_un (by omega)]; exact c, fun i hi => by rw [pk_un (by omega)]; exact d i hi⟩
theorem FR.inc {P : Nat} {s e l u o rn rp k wn wp t sl : Nat → Int32} (h : FR P s e l u o rn rp k wn wp t sl) {v : Int32} : FR (P + 1) (upd s 0 v) (upd e P 0) l u o rn rp k wn wp t sl := by
  obtain ⟨h1, h2⟩ := h.cnt (i := 0) (v := v) (by decide)
  refine ⟨fun j hj => ?_, h2⟩
  by_cases q : j = P
  · subst q; rw [pk_us]; exact ⟨(h1 j hj).1.trans ((h1 j hj).2 (Nat.le_refl _)), fun _ => rfl⟩
  · rw [pk_un q]; exact ⟨(h1 j hj).1, fun w => (h1 j hj).2 (by omega)⟩
theorem FR.di {P : Nat} {s e l u o rn rp k wn wp t sl : Nat → Int32} (h : FR P s e l u o rn rp k wn wp t sl) {j : Nat} (hj : j < 100) : o j = 0 ∨ o j = 1 ∨ o j = 2 := (h.2.1 j hj).2.2.2
theorem FR.pos {P : Nat} {s e l u o rn rp k wn wp t sl : Nat → Int32} (h : FR P s e l u o rn rp k wn wp t sl) {j : Nat} (hj : j < 100) (hp : 0 < o j) : ¬ o j = 0 := fun q => by rw [q] at hp; exact absurd hp (by decide)
theorem FR.npos {P : Nat} {s e l u o rn rp k wn wp t sl : Nat → Int32} (h : FR P s e l u o rn rp k wn wp t sl) {j : Nat} (hj : j < 100) (hp : ¬ 0 < o j) : o j = 0 := by
  rcases h.di hj with q | q | q
  · exact q
  · rw [q] at hp; exact absurd (by decide) hp
  · rw [q] at hp; exact absurd (by decide) hp
theorem FR.cl {P : Nat} {s e l u o rn rp k wn wp t sl : Nat → Int32} {l2 u2 : Nat → Int32} (h : FR P s e l u o rn rp k wn wp t sl) (hl : l = l2) (hu : u = u2) : FR P s e l2 u2 o rn rp k wn wp t sl := by subst hl hu; exact h
/-! ways -/
theorem twoP_nI {P j k : Nat} (hP : P ≤ 10) (hj : j < P) (hk : k < P) (hn : j ≠ k) : twoP P (nI j) (nI k) := ⟨isP_nI (by omega) hj, isP_nI (by omega) hk, fun h => hn (xn_eq (a := j) (b := k) (by omega) (by omega) h)⟩
abbrev ends (lo hi : Int32) : Prop := ¬ lo < (-99) ∧ ¬ hi < lo ∧ ¬ 999 < hi
theorem ends_n1 {a b : Int32} (h : a < (-99) ∨ 999 < a) : ¬ ends a b := fun q => by
  rcases h with h | h
  · exact q.1 h
  · have h1 := q.2.1
    have h2 := q.2.2
    rw [lt_iff9] at h h1 h2
    omega
theorem ends_n2 {a b : Int32} (h : b < a ∨ 999 < b) : ¬ ends a b := fun q => h.elim q.2.1 q.2.2
theorem ends_lo {a b : Int32} (h : ends a b) : -99 ≤ a.toInt ∧ a.toInt ≤ 999 := by
  have h1 := h.1
  have h2 := h.2.1
  have h3 := h.2.2
  rw [lt_iff9] at h1 h2 h3
  have e1 : (-99 : Int32).toInt = -99 := by decide
  have e2 : (999 : Int32).toInt = 999 := by decide
  omega
theorem rdL_1 {P R : Nat} {k p : Int32} {f : Nat → Int32} (h : okRn P R k p) : upd f R 1 = rdL P R k p f := by
  unfold rdL
  rw [if_pos h, upd_upd]; rfl
abbrev at10 (a b : Int32) : Nat := 10 * a.toNatClampNeg + b.toNatClampNeg
theorem at10_nI {j k : Nat} (hj : j < 10) (hk : k < 10) : at10 (nI j) (nI k) = 10 * j + k := by
  show 10 * (nI j).toNatClampNeg + (nI k).toNatClampNeg = _
  rw [nI_clamp (by omega), nI_clamp (by omega)]
abbrev okWy (P : Nat) (a b lo hi : Int32) : Prop := twoP P a b ∧ ends lo hi
def wyF (P : Nat) (a b lo hi v : Int32) (f : Nat → Int32) : Nat → Int32 := if okWy P a b lo hi then upd f (at10 a b) v else f
def wyR (P : Nat) (a b lo hi : Int32) (o : Nat → Int32) : Int32 := if okWy P a b lo hi then (if o (at10 a b) = 0 then 1 else 0) else -1000000001
theorem wy_no {P : Nat} {a b lo hi : Int32} (h : ¬ okWy P a b lo hi) : (∀ o, (-1000000001 : Int32) = wyR P a b lo hi o) ∧ ∀ v f, f = wyF P a b lo hi v f := ⟨fun _ => (if_neg h).symm, fun _ _ => (if_neg h).symm⟩
theorem wy_yes {P j k : Nat} {lo hi : Int32} (hP : P ≤ 10) (hj : j < P) (hk : k < P) (hn : j ≠ k) (he : ends lo hi) : (∀ v f, upd f (10 * j + k) v = wyF P (nI j) (nI k) lo hi v f) ∧ (∀ o : Nat → Int32, o (10 * j + k) = 0 → (1 : Int32) = wyR P (nI j) (nI k) lo hi o) ∧ ∀ o : Nat → Int32, ¬ o (10 * j + k) = 0 → (0 : Int32) = wyR P (nI j) (nI k) lo hi o := by
  have ok : okWy P (nI j) (nI k) lo hi := ⟨twoP_nI hP hj hk hn, he⟩
  have ea := at10_nI (show j < 10 by omega) (show k < 10 by omega)
  refine ⟨fun v f => ?_, fun o h => ?_, fun o h => ?_⟩
  · unfold wyF; rw [if_pos ok, ea]
  · unfold wyR; rw [if_pos ok, ea, if_pos h]
  · unfold wyR; rw [if_pos ok, ea, if_neg h]
def shF (P : Nat) (a b v : Int32) (o : Nat → Int32) : Nat → Int32 := if twoP P a b ∧ ¬ o (at10 a b) = 0 then upd o (at10 a b) v else o
def shR (P : Nat) (a b c1 c0 : Int32) (o : Nat → Int32) : Int32 := if twoP P a b then (if o (at10 a b) = 0 then -1000000004 else if o (at10 a b) = 1 then c1 else c0) else -1000000001
theorem sh_b {P : Nat} {a b c1 c0 : Int32} {o : Nat → Int32} (h : ¬ twoP P a b) : (-1000000001 : Int32) = shR P a b c1 c0 o ∧ ∀ v, o = shF P a b v o := ⟨(if_neg h).symm, fun _ => (if_neg (fun q => h q.1)).symm⟩
theorem sh_n {P j k : Nat} {c1 c0 : Int32} {o : Nat → Int32} (hP : P ≤ 10) (hj : j < P) (hk : k < P) (hn : j ≠ k) (h : o (10 * j + k) = 0) : (-1000000004 : Int32) = shR P (nI j) (nI k) c1 c0 o ∧ ∀ v, o = shF P (nI j) (nI k) v o := by
  have ok := twoP_nI hP hj hk hn
  have ea := at10_nI (show j < 10 by omega) (show k < 10 by omega)
  refine ⟨?_, fun v => ?_⟩
  · unfold shR; rw [if_pos ok, ea, if_pos h]
  · unfold shF; rw [if_neg (fun q => q.2 (by rw [ea]; exact h))]
theorem sh_y {P j k : Nat} {c1 c0 : Int32} {o : Nat → Int32} (hP : P ≤ 10) (hj : j < P) (hk : k < P) (hn : j ≠ k) (h : ¬ o (10 * j + k) = 0) : (o (10 * j + k) = 1 → c1 = shR P (nI j) (nI k) c1 c0 o) ∧ (¬ o (10 * j + k) = 1 → c0 = shR P (nI j) (nI k) c1 c0 o) ∧ ∀ v, upd o (10 * j + k) v = shF P (nI j) (nI k) v o := by
  have ok := twoP_nI hP hj hk hn
  have ea := at10_nI (show j < 10 by omega) (show k < 10 by omega)
  refine ⟨fun q => ?_, fun q => ?_, fun v => ?_⟩
  · unfold shR; rw [if_pos ok, ea, if_neg h, if_pos q]
  · unfold shR; rw [if_pos ok, ea, if_neg h, if_neg q]
  · unfold shF; rw [if_pos ⟨ok, by rw [ea]; exact h⟩, ea]
abbrev okWo (P : Nat) (a b w : Int32) : Prop := twoP P a b ∧ (¬ w < 0 ∧ ¬ 2 < w)
def woR (P : Nat) (a b w : Int32) (l u o : Nat → Int32) : Int32 := if okWo P a b w then (if o (at10 a b) = 0 then -1000000004 else if w = 0 then l (at10 a b) else if w = 1 then u (at10 a b) else if o (at10 a b) = 1 then 0 else 1) else -1000000001
theorem wo_no {P : Nat} {a b w : Int32} {l u o : Nat → Int32} (h : ¬ okWo P a b w) : (-1000000001 : Int32) = woR P a b w l u o := (if_neg h).symm
theorem wo_y {P j k : Nat} {w : Int32} {l u o : Nat → Int32} (hP : P ≤ 10) (hj : j < P) (hk : k < P) (hn : j ≠ k) (hw : ¬ w < 0 ∧ ¬ 2 < w) : woR P (nI j) (nI k) w l u o = if o (10 * j + k) = 0 then -1000000004 else if w = 0 then l (10 * j + k) else if w = 1 then u (10 * j + k) else if o (10 * j + k) = 1 then 0 else 1 := by
  have ea := at10_nI (show j < 10 by omega) (show k < 10 by omega)
  unfold woR; rw [if_pos ⟨twoP_nI hP hj hk hn, hw⟩, ea]
theorem x_o2 {x : Int32} (h : x = 0 ∨ x = 1 ∨ x = 2) (h0 : ¬ x = 0) : x - 1 = (if x = 1 then 0 else 1) ∧ (¬ x = 1 → x = 2) := by
  rcases h with rfl | rfl | rfl
  · exact absurd rfl h0
  · exact ⟨by decide, fun q => absurd rfl q⟩
  · exact ⟨by decide, fun _ => rfl⟩
theorem x_o1 {x : Int32} (h : x = 0 ∨ x = 1 ∨ x = 2) (h0 : ¬ x = 0) (h2 : ¬ x = 2) : x = 1 := by
  rcases h with rfl | rfl | rfl
  · exact absurd rfl h0
  · rfl
  · exact absurd rfl h2
theorem isw_z {p : Nat → Prop} {i : Nat} {b : Int32} (h : (b = 1 ∧ ∀ x, x < i → ¬ p x) ∨ (b = 0 ∧ ∃ x, x < i ∧ p x)) (h0 : b = 0) : ((0 : Int32) = 1 ∧ ∀ x, x < i + 1 → ¬ p x) ∨ ((0 : Int32) = 0 ∧ ∃ x, x < i + 1 ∧ p x) := by
  rcases h with h | ⟨_, x, h1, h2⟩
  · exact absurd (h.1.symm.trans h0) (by decide)
  · exact Or.inr ⟨rfl, x, by omega, h2⟩
theorem isw_y {p : Nat → Prop} {i : Nat} {b : Int32} (h : (b = 1 ∧ ∀ x, x < i → ¬ p x) ∨ (b = 0 ∧ ∃ x, x < i ∧ p x)) (h0 : ¬ b = 0) (hp : ¬ p i) : ((1 : Int32) = 1 ∧ ∀ x, x < i + 1 → ¬ p x) ∨ ((1 : Int32) = 0 ∧ ∃ x, x < i + 1 ∧ p x) := by
  rcases h with h | h
  · refine Or.inl ⟨rfl, fun x hx => ?_⟩
    by_cases e : x = i
    · subst e; exact hp
    · exact h.2 x (by omega)
  · exact absurd h.1 h0
theorem isw_n {p : Nat → Prop} {i : Nat} (hp : p i) : ((0 : Int32) = 1 ∧ ∀ x, x < i + 1 → ¬ p x) ∨ ((0 : Int32) = 0 ∧ ∃ x, x < i + 1 ∧ p x) := Or.inr ⟨rfl, i, by omega, hp⟩
theorem sv_l {l : Nat → Int32} {A B : Nat} {w w2 : Int32} : upd (upd (upd (upd l A w) B w2) A (l A)) B (l B) = l := by
  funext j
  by_cases e : j = B
  · subst e; exact pk_us
  · rw [pk_un e]
    by_cases g : j = A
    · subst g; exact pk_us
    · rw [pk_un g, pk_un e, pk_un g]
/-! walks -/
abbrev okWkn (P W : Nat) (p q t s : Int32) : Prop := okWk P p q t s ∧ W < 8
def wkN (P W : Nat) (p q t s : Int32) (f : Nat → Int32) : Nat → Int32 := if okWkn P W p q t s then upd f W 2 else f
def wkS (P W : Nat) (p q t s : Int32) (f : Nat → Int32) : Nat → Int32 := if okWkn P W p q t s then upd (upd f (W * 6 + 0) p) (W * 6 + 1) q else f
def wkT (P W : Nat) (p q t s v : Int32) (f : Nat → Int32) : Nat → Int32 := if okWkn P W p q t s then upd f W v else f
theorem wk_no {P W : Nat} {p q t s : Int32} (h : ¬ okWkn P W p q t s) : (∀ f, f = wkN P W p q t s f) ∧ (∀ f, f = wkS P W p q t s f) ∧ ∀ v f, f = wkT P W p q t s v f := ⟨fun _ => (if_neg h).symm, fun _ => (if_neg h).symm, fun _ _ => (if_neg h).symm⟩
theorem wk_yes {P W : Nat} {p q t s : Int32} (h : okWkn P W p q t s) : (∀ f, upd f W 2 = wkN P W p q t s f) ∧ (∀ f, upd (upd f (W * 6 + 0) p) (W * 6 + 1) q = wkS P W p q t s f) ∧ ∀ v f, upd f W v = wkT P W p q t s v f := ⟨fun _ => (if_pos h).symm, fun _ => (if_pos h).symm, fun _ _ => (if_pos h).symm⟩
theorem wk_n2 {f : Nat → Int32} {W : Nat} : upd (upd (upd f W 0) W (nI (0 + 1))) W (nI (1 + 1)) = upd f W 2 := by rw [upd_upd, upd_upd]; rfl
abbrev okOn (P W : Nat) (r p : Int32) (wn wp : Nat → Int32) : Prop := (isP W r ∧ isP P p) ∧ ¬ wp (r.toNatClampNeg * 6 + ((wn r.toNatClampNeg).toNatClampNeg - 1)) = p
def onR (P W : Nat) (r p : Int32) (wn wp : Nat → Int32) : Int32 := if okOn P W r p wn wp then (if wn r.toNatClampNeg < 6 then wn r.toNatClampNeg + 1 else -1000000002) else -1000000001
abbrev okOn6 (P W : Nat) (r p : Int32) (wn wp : Nat → Int32) : Prop := okOn P W r p wn wp ∧ wn r.toNatClampNeg < 6
def onN (P W : Nat) (r p : Int32) (wn wp : Nat → Int32) : Nat → Int32 := if okOn6 P W r p wn wp then upd wn r.toNatClampNeg (wn r.toNatClampNeg + 1) else wn
def onS (P W : Nat) (r p : Int32) (wn wp : Nat → Int32) : Nat → Int32 := if okOn6 P W r p wn wp then upd wp (r.toNatClampNeg * 6 + (wn r.toNatClampNeg).toNatClampNeg) p else wp
theorem on_no {P W : Nat} {r p : Int32} {wn wp : Nat → Int32} (h : ¬ okOn P W r p wn wp) : (-1000000001 : Int32) = onR P W r p wn wp ∧ wn = onN P W r p wn wp ∧ wp = onS P W r p wn wp := ⟨(if_neg h).symm, (if_neg (fun q => h q.1)).symm, (if_neg (fun q => h q.1)).symm⟩
theorem on_same {P W k j q : Nat} {wn wp : Nat → Int32} (hk : k < W) (hW : W ≤ 8) (hj : j < 10) (e : wn k = nI q) (hq : q < 7) (es : wp (k * 6 + (q - 1)) = nI j) : ¬ okOn P W (nI k) (nI j) wn wp := fun h => h.2 (by rw [nI_clamp (show k < 2 ^ 31 by omega), e, nI_clamp (show q < 2 ^ 31 by omega)]; exact es)
theorem on_ok {P W k j q : Nat} {wn wp : Nat → Int32} (hk : k < W) (hW : W ≤ 8) (hj : j < P) (hP : P ≤ 10) (e : wn k = nI q) (hq : q < 7) (es : ¬ wp (k * 6 + (q - 1)) = nI j) : okOn P W (nI k) (nI j) wn wp := by
  refine ⟨⟨isP_nI (by omega) hk, isP_nI (by omega) hj⟩, fun h => ?_⟩
  rw [nI_clamp (show k < 2 ^ 31 by omega), e, nI_clamp (show q < 2 ^ 31 by omega)] at h
  exact es h
theorem on_yes {P W k j q : Nat} {wn wp : Nat → Int32} (hk : k < W) (hW : W ≤ 8) (hj : j < P) (hP : P ≤ 10) (e : wn k = nI q) (hq : q < 6) (es : ¬ wp (k * 6 + (q - 1)) = nI j) : nI (q + 1) = onR P W (nI k) (nI j) wn wp ∧ upd wn k (nI (q + 1)) = onN P W (nI k) (nI j) wn wp ∧ upd wp (k * 6 + q) (nI j) = onS P W (nI k) (nI j) wn wp := by
  have ok := on_ok hk hW hj hP e (by omega) es
  have ck : (nI k).toNatClampNeg = k := nI_clamp (by omega)
  have h6 : wn (nI k).toNatClampNeg < 6 := by rw [ck, e]; exact (nI_ltI (b := 6) (by omega) (by omega)).mpr hq
  refine ⟨?_, ?_, ?_⟩
  · unfold onR; rw [if_pos ok, if_pos h6, ck, e, nI_1 q]
  · unfold onN; rw [if_pos ⟨ok, h6⟩, ck, e, nI_1 q]
  · unfold onS; rw [if_pos ⟨ok, h6⟩]; rw [ck, e, nI_clamp (show q < 2 ^ 31 by omega)]
theorem on_full {P W k j q : Nat} {wn wp : Nat → Int32} (hk : k < W) (hW : W ≤ 8) (hj : j < P) (hP : P ≤ 10) (e : wn k = nI q) (hq : 6 ≤ q) (hq7 : q < 7) (es : ¬ wp (k * 6 + (q - 1)) = nI j) : (-1000000002 : Int32) = onR P W (nI k) (nI j) wn wp ∧ wn = onN P W (nI k) (nI j) wn wp ∧ wp = onS P W (nI k) (nI j) wn wp := by
  have ok := on_ok hk hW hj hP e hq7 es
  have ck : (nI k).toNatClampNeg = k := nI_clamp (by omega)
  have h6 : ¬ wn (nI k).toNatClampNeg < 6 := by
    rw [ck, e]; intro h
    have := xn_lt (a := q) (b := 6) (by omega) (by omega) h
    omega
  refine ⟨?_, ?_, ?_⟩
  · unfold onR; rw [if_pos ok, if_neg h6]
  · unfold onN; rw [if_neg (fun q => h6 q.2)]
  · unfold onS; rw [if_neg (fun q => h6 q.2)]
/-! to learn -/
abbrev LSr : Type := (Nat → Int32) × (Nat → Int32) × Int32
def wyO (wp : Nat → Int32) (k i : Nat) : Nat := 10 * (wp (k * 6 + i)).toNatClampNeg + (wp (k * 6 + (i + 1))).toNatClampNeg
theorem wyO_eq {wp : Nat → Int32} {k i a b : Nat} (h1 : wp (k * 6 + i) = nI a) (h2 : wp (k * 6 + (i + 1)) = nI b) (ha : a < 10) (hb : b < 10) : wyO wp k i = 10 * a + b := by
  unfold wyO; rw [h1, h2, nI_clamp (by omega), nI_clamp (by omega)]
def lnS (way : Nat → Nat) (y : Nat) (f : Nat → Int32) : Nat → Int32
  | 0 => 0
  | n + 1 => if way n = y then lnS way y f n else lnS way y f n + f (way n)
def lnT (way : Nat → Nat) (y : Nat) : Nat → Nat
  | 0 => 0
  | n + 1 => if way n = y then lnT way y n + 1 else lnT way y n
theorem lnS_y {way : Nat → Nat} {y n : Nat} {f : Nat → Int32} (h : way n = y) : lnS way y f (n + 1) = lnS way y f n := if_pos h
theorem lnS_n {way : Nat → Nat} {y n : Nat} {f : Nat → Int32} (h : ¬ way n = y) : lnS way y f (n + 1) = lnS way y f n + f (way n) := if_neg h
theorem lnT_y {way : Nat → Nat} {y n : Nat} (h : way n = y) : lnT way y (n + 1) = lnT way y n + 1 := if_pos h
theorem lnT_n {way : Nat → Nat} {y n : Nat} (h : ¬ way n = y) : lnT way y (n + 1) = lnT way y n := if_neg h
theorem lnT_le (way : Nat → Nat) (y : Nat) : ∀ n, lnT way y n ≤ n
  | 0 => Nat.le_refl _
  | n + 1 => by
    have := lnT_le way y n
    unfold lnT
    split <;> omega
theorem lnT_pos {way : Nat → Nat} {y i : Nat} : ∀ {n}, i < n → way i = y → 1 ≤ lnT way y n
  | 0, h, _ => absurd h (Nat.not_lt_zero _)
  | n + 1, h, e => by
    by_cases q : i = n
    · subst q; rw [lnT_y e]; omega
    · have := lnT_pos (n := n) (by omega) e
      unfold lnT
      split <;> omega
def lnX (way : Nat → Nat) (n i : Nat) (tt sl : Int32) (l u : Nat → Int32) : Int32 := if tt + sl - lnS way (way i) l n < u (way i) then tt + sl - lnS way (way i) l n else u (way i)
def lnY (way : Nat → Nat) (n i : Nat) (tt sl : Int32) (l u : Nat → Int32) : Int32 := if l (way i) < tt - sl - lnS way (way i) u n then tt - sl - lnS way (way i) u n else l (way i)
def nwOk (way : Nat → Nat) (n i : Nat) (tt sl : Int32) (S : LSr) : Prop := lnT way (way i) n = 1 → ends (lnY way n i tt sl S.1 S.2.1) (lnX way n i tt sl S.1 S.2.1)
def nwS (way : Nat → Nat) (n i : Nat) (tt sl : Int32) (S : LSr) : LSr := if lnT way (way i) n = 1 then (upd S.1 (way i) (lnY way n i tt sl S.1 S.2.1), upd S.2.1 (way i) (lnX way n i tt sl S.1 S.2.1), if lnY way n i tt sl S.1 S.2.1 = S.1 (way i) ∧ lnX way n i tt sl S.1 S.2.1 = S.2.1 (way i) then S.2.2 else 1) else S
theorem nwS_0 {way : Nat → Nat} {n i : Nat} {tt sl : Int32} {S : LSr} (h : ¬ lnT way (way i) n = 1) : nwS way n i tt sl S = S ∧ nwOk way n i tt sl S := ⟨if_neg h, fun q => absurd q h⟩
theorem nwS_1 {way : Nat → Nat} {n i : Nat} {tt sl c a b : Int32} {l u : Nat → Int32} (h : lnT way (way i) n = 1) (ea : a = lnY way n i tt sl l u) (eb : b = lnX way n i tt sl l u) (h1 : a = l (way i)) (h2 : b = u (way i)) : nwS way n i tt sl (l, u, c) = (l, u, c) := by
  unfold nwS
  rw [if_pos h]
  show (upd l (way i) (lnY way n i tt sl l u), upd u (way i) (lnX way n i tt sl l u), if lnY way n i tt sl l u = l (way i) ∧ lnX way n i tt sl l u = u (way i) then c else 1) = (l, u, c)
  rw [← ea, ← eb, if_pos ⟨h1, h2⟩, h1, h2, upd_self, upd_self]
theorem nwS_2 {way : Nat → Nat} {n i : Nat} {tt sl c a b : Int32} {l u : Nat → Int32} (h : lnT way (way i) n = 1) (ea : a = lnY way n i tt sl l u) (eb : b = lnX way n i tt sl l u) (h1 : ¬ (a = l (way i) ∧ b = u (way i))) : nwS way n i tt sl (l, u, c) = (upd l (way i) a, upd u (way i) b, 1) := by
  unfold nwS
  rw [if_pos h]
  show (upd l (way i) (lnY way n i tt sl l u), upd u (way i) (lnX way n i tt sl l u), if lnY way n i tt sl l u = l (way i) ∧ lnX way n i tt sl l u = u (way i) then c else 1) = _
  rw [← ea, ← eb, if_neg h1]
theorem lnX_p {way : Nat → Nat} {n i : Nat} {tt sl v : Int32} {l u : Nat → Int32} (hS : lnS way (way i) l n = v) (h : tt + sl - v < u (way i)) : tt + sl - v = lnX way n i tt sl l u := by
  unfold lnX; rw [hS]; exact (if_pos h).symm
theorem lnX_n {way : Nat → Nat} {n i : Nat} {tt sl v : Int32} {l u : Nat → Int32} (hS : lnS way (way i) l n = v) (h : ¬ tt + sl - v < u (way i)) : u (way i) = lnX way n i tt sl l u := by
  unfold lnX; rw [hS]; exact (if_neg h).symm
theorem lnY_p {way : Nat → Nat} {n i : Nat} {tt sl v : Int32} {l u : Nat → Int32} (hS : lnS way (way i) u n = v) (h : l (way i) < tt - sl - v) : tt - sl - v = lnY way n i tt sl l u := by
  unfold lnY; rw [hS]; exact (if_pos h).symm
theorem lnY_n {way : Nat → Nat} {n i : Nat} {tt sl v : Int32} {l u : Nat → Int32} (hS : lnS way (way i) u n = v) (h : ¬ l (way i) < tt - sl - v) : l (way i) = lnY way n i tt sl l u := by
  unfold lnY; rw [hS]; exact (if_neg h).symm
theorem nwS_m {way : Nat → Nat} {n i : Nat} {tt sl c c2 a b : Int32} {l u : Nat → Int32} (h : lnT way (way i) n = 1) (ea : a = lnY way n i tt sl l u) (eb : b = lnX way n i tt sl l u) (hc : (c2 = 1 ∧ (c = 1 ∨ ¬ (a = l (way i) ∧ b = u (way i)))) ∨ (c2 = 0 ∧ c = 0 ∧ a = l (way i) ∧ b = u (way i))) : nwS way n i tt sl (l, u, c) = (upd l (way i) a, upd u (way i) b, c2) := by
  unfold nwS
  rw [if_pos h]
  show (upd l (way i) (lnY way n i tt sl l u), upd u (way i) (lnX way n i tt sl l u), if lnY way n i tt sl l u = l (way i) ∧ lnX way n i tt sl l u = u (way i) then c else 1) = _
  rw [← ea, ← eb]
  rcases hc with ⟨h2, h1 | h1⟩ | ⟨h2, h0, h1⟩
  · subst h2 h1; rw [ite_self]
  · subst h2; rw [if_neg h1]
  · subst h2 h0; rw [if_pos h1]
theorem nw_ok {way : Nat → Nat} {n i : Nat} {tt sl c a b : Int32} {l u : Nat → Int32} (ea : a = lnY way n i tt sl l u) (eb : b = lnX way n i tt sl l u) (he : ends a b) : nwOk way n i tt sl (l, u, c) := fun _ => by
  show ends (lnY way n i tt sl l u) (lnX way n i tt sl l u)
  rw [← ea, ← eb]; exact he
theorem nw_no {way : Nat → Nat} {n i : Nat} {tt sl c a b : Int32} {l u : Nat → Int32} (h : lnT way (way i) n = 1) (ea : a = lnY way n i tt sl l u) (eb : b = lnX way n i tt sl l u) (he : ¬ ends a b) : ¬ nwOk way n i tt sl (l, u, c) := fun q => he (by
  have g : ends (lnY way n i tt sl l u) (lnX way n i tt sl l u) := q h
  rw [← ea, ← eb] at g; exact g)
/-- of one walk, its ways from the i-th on -/
noncomputable def blv (way : Nat → Nat) (n : Nat) (tt sl : Int32) : Nat → Nat → LSr → Int32 × LSr
  | 0, _, S => (1, S)
  | m + 1, i, S => cif (nwOk way n i tt sl S) (blv way n tt sl m (i + 1) (nwS way n i tt sl S)) (0, S)
theorem blv_end {way : Nat → Nat} {n i : Nat} {tt sl : Int32} {S : LSr} (h : n ≤ i) : blv way n tt sl (n - i) i S = (1, S) := by
  rw [show n - i = 0 by omega, blv]
theorem blv_no {way : Nat → Nat} {n i : Nat} {tt sl : Int32} {S : LSr} (h : i < n) (q : ¬ nwOk way n i tt sl S) : blv way n tt sl (n - i) i S = (0, S) := by
  rw [show n - i = (n - (i + 1)) + 1 by omega, blv]; exact cif_neg q
theorem blv_go {way : Nat → Nat} {n i : Nat} {tt sl : Int32} {S S2 : LSr} (h : i < n) (q : nwOk way n i tt sl S) (e : nwS way n i tt sl S = S2) : blv way n tt sl (n - i) i S = blv way n tt sl (n - (i + 1)) (i + 1) S2 := by
  rw [show n - i = (n - (i + 1)) + 1 by omega, blv, ← e]; exact cif_pos q
abbrev wyN (wn : Nat → Int32) (k : Nat) : Nat := (wn k).toNatClampNeg - 1
noncomputable def bel (o wn wp t sl : Nat → Int32) (k : Nat) (S : LSr) : Int32 × LSr := cif (∀ i, i < wyN wn k → ¬ o (wyO wp k i) = 0) (blv (wyO wp k) (wyN wn k) (t k) (sl k) (wyN wn k) 0 S) (0, S)
theorem bel_y {o wn wp t sl : Nat → Int32} {k q : Nat} {S : LSr} {R : Int32 × LSr} (e : wn k = nI q) (hq : q < 7) (ha : ∀ i, i < q - 1 → ¬ o (wyO wp k i) = 0) (hb : blv (wyO wp k) (q - 1) (t k) (sl k) (q - 1) 0 S = R) : bel o wn wp t sl k S = R := by
  have en : wyN wn k = q - 1 := by
    show (wn k).toNatClampNeg - 1 = q - 1
    rw [e, nI_clamp (by omega)]
  unfold bel
  rw [en]; exact (cif_pos ha).trans hb
theorem bel_n {o wn wp t sl : Nat → Int32} {k q i : Nat} {S : LSr} (e : wn k = nI q) (hq : q < 7) (hi : i < q - 1) (h : o (wyO wp k i) = 0) : bel o wn wp t sl k S = (0, S) := by
  have en : wyN wn k = q - 1 := by
    show (wn k).toNatClampNeg - 1 = q - 1
    rw [e, nI_clamp (by omega)]
  unfold bel
  rw [en]; exact cif_neg (fun w => w i hi h)
theorem bel_all {p : Nat → Prop} {i : Nat} (h : ∀ j, j < i → p j) (h1 : p i) : ∀ j, j < i + 1 → p j := by
  intro j hj
  by_cases e : j = i
  · subst e; exact h1
  · exact h j (by omega)
def lyU (r : Int32) (k : Nat) (y : Int32) : Int32 := if r = 0 then y ||| (1 <<< (nI k &&& 31)) else y
theorem lyU_1 {k : Nat} {y : Int32} : lyU 1 k y = y := if_neg (by decide)
theorem lyU_0 {k : Nat} {y x : Int32} (e : x = 1 <<< (nI k &&& 31)) : lyU 0 k y = y ||| x := by unfold lyU; rw [if_pos rfl, e]
/-- all walks once -/
noncomputable def rnd (o wn wp t sl : Nat → Int32) : Nat → Nat → LSr → Int32 → LSr × Int32
  | 0, _, S, y => (S, y)
  | m + 1, k, S, y => rnd o wn wp t sl m (k + 1) (bel o wn wp t sl k S).2 (lyU (bel o wn wp t sl k S).1 k y)
theorem rnd_end {o wn wp t sl : Nat → Int32} {W k : Nat} {S : LSr} {y : Int32} (h : W ≤ k) : rnd o wn wp t sl (W - k) k S y = (S, y) := by
  rw [show W - k = 0 by omega, rnd]
theorem rnd_go {o wn wp t sl : Nat → Int32} {W k : Nat} {S S2 : LSr} {y y2 r : Int32} (h : k < W) (e : bel o wn wp t sl k S = (r, S2)) (ey : y2 = lyU r k y) : rnd o wn wp t sl (W - k) k S y = rnd o wn wp t sl (W - (k + 1)) (k + 1) S2 y2 := by
  rw [show W - k = (W - (k + 1)) + 1 by omega, rnd, e, ey]
/-- rounds, 50 at most: how many changed something; lows, highs; who lied -/
noncomputable def lrn (o wn wp t sl : Nat → Int32) (W : Nat) : Nat → Nat → (Nat → Int32) → (Nat → Int32) → Int32 → Nat × (Nat → Int32) × (Nat → Int32) × Int32
  | 0, c, l, u, y => (c, l, u, y)
  | m + 1, c, l, u, y => cif ((rnd o wn wp t sl W 0 (l, u, 0) y).1.2.2 = 0) (c, (rnd o wn wp t sl W 0 (l, u, 0) y).1.1, (rnd o wn wp t sl W 0 (l, u, 0) y).1.2.1, (rnd o wn wp t sl W 0 (l, u, 0) y).2) (lrn o wn wp t sl W m (c + 1) (rnd o wn wp t sl W 0 (l, u, 0) y).1.1 (rnd o wn wp t sl W 0 (l, u, 0) y).1.2.1 (rnd o wn wp t sl W 0 (l, u, 0) y).2)
theorem lrn_end {o wn wp t sl : Nat → Int32} {W i c : Nat} {l u : Nat → Int32} {y : Int32} (h : 50 ≤ i) : lrn o wn wp t sl W (50 - i) c l u y = (c, l, u, y) := by
  rw [show 50 - i = 0 by omega, lrn]
theorem lrn_no {o wn wp t sl : Nat → Int32} {W i c : Nat} {l u l2 u2 : Nat → Int32} {y y2 z : Int32} (h : i < 50) (e : rnd o wn wp t sl W 0 (l, u, 0) y = ((l2, u2, z), y2)) (h0 : z = 0) : lrn o wn wp t sl W (50 - i) c l u y = (c, l2, u2, y2) := by
  rw [show 50 - i = (50 - (i + 1)) + 1 by omega, lrn, e]; exact cif_pos h0
theorem lrn_go {o wn wp t sl : Nat → Int32} {W i c : Nat} {l u l2 u2 : Nat → Int32} {y y2 z : Int32} (h : i < 50) (e : rnd o wn wp t sl W 0 (l, u, 0) y = ((l2, u2, z), y2)) (h0 : ¬ z = 0) : lrn o wn wp t sl W (50 - i) c l u y = lrn o wn wp t sl W (50 - (i + 1)) (c + 1) l2 u2 y2 := by
  rw [show 50 - i = (50 - (i + 1)) + 1 by omega, lrn, e]; exact cif_neg h0
/-! sheets that tell ways -/
abbrev lyOk (nu : Nat → Int64) (P x n : Nat) : Prop := n < P ∧ ¬ n = x ∧ ¬ nu n < (-99) ∧ ¬ 999 < nu n
def lyF (nu : Nat → Int64) (P x : Nat) (f : Nat → Int32) : Nat → (Nat → Int32)
  | 0 => f
  | n + 1 => if lyOk nu P x n then upd (lyF nu P x f n) (10 * x + n) (nu n).toInt32 else lyF nu P x f n
def lyO (nu : Nat → Int64) (P x : Nat) (f : Nat → Int32) : Nat → (Nat → Int32)
  | 0 => f
  | n + 1 => if lyOk nu P x n then upd (lyO nu P x f n) (10 * x + n) 1 else lyO nu P x f n
def lyC (nu : Nat → Int64) (P x : Nat) : Nat → Nat
  | 0 => 0
  | n + 1 => if lyOk nu P x n then lyC nu P x n + 1 else lyC nu P x n
theorem ly_y {nu : Nat → Int64} {P x n : Nat} (h : lyOk nu P x n) : (∀ f, lyF nu P x f (n + 1) = upd (lyF nu P x f n) (10 * x + n) (nu n).toInt32) ∧ (∀ f, lyO nu P x f (n + 1) = upd (lyO nu P x f n) (10 * x + n) 1) ∧ lyC nu P x (n + 1) = lyC nu P x n + 1 := ⟨fun _ => if_pos h, fun _ => if_pos h, if_pos h⟩
theorem ly_n {nu : Nat → Int64} {P x n : Nat} (h : ¬ lyOk nu P x n) : (∀ f, lyF nu P x f (n + 1) = lyF nu P x f n) ∧ (∀ f, lyO nu P x f (n + 1) = lyO nu P x f n) ∧ lyC nu P x (n + 1) = lyC nu P x n := ⟨fun _ => if_neg h, fun _ => if_neg h, if_neg h⟩
theorem ly_out {nu : Nat → Int64} {P x i : Nat} (h : P ≤ i) : ∀ d, (∀ f, lyF nu P x f (i + d) = lyF nu P x f i) ∧ (∀ f, lyO nu P x f (i + d) = lyO nu P x f i) ∧ lyC nu P x (i + d) = lyC nu P x i
  | 0 => ⟨fun _ => rfl, fun _ => rfl, rfl⟩
  | d + 1 => by
    obtain ⟨a, b, c⟩ := ly_out (nu := nu) (x := x) h d
    obtain ⟨a2, b2, c2⟩ := ly_n (nu := nu) (x := x) (P := P) (n := i + d) (fun q => by have := q.1; omega)
    exact ⟨fun f => (a2 f).trans (a f), fun f => (b2 f).trans (b f), c2.trans c⟩
theorem ly_end {nu : Nat → Int64} {P x i z : Nat} (h : P ≤ i) (hz : i ≤ z) : (∀ f, lyF nu P x f z = lyF nu P x f i) ∧ (∀ f, lyO nu P x f z = lyO nu P x f i) ∧ lyC nu P x z = lyC nu P x i := by
  have := ly_out (nu := nu) (x := x) h (z - i)
  rw [show i + (z - i) = z by omega] at this
  exact this
theorem lyC_le {nu : Nat → Int64} {P x : Nat} : ∀ n, lyC nu P x n ≤ n
  | 0 => Nat.le_refl _
  | n + 1 => by
    have := lyC_le (nu := nu) (P := P) (x := x) n
    unfold lyC
    split <;> omega
theorem ly_in {v : Int64} (h1 : ¬ v < (-99 : Int32).toInt64) (h2 : ¬ (999 : Int32).toInt64 < v) : ¬ v < (-99 : Int64) ∧ ¬ (999 : Int64) < v := by
  rw [show (-99 : Int64) = (-99 : Int32).toInt64 from by decide, show (999 : Int64) = (999 : Int32).toInt64 from by decide]
  exact ⟨h1, h2⟩
theorem ly_nin {v : Int64} (h : v < (-99 : Int32).toInt64 ∨ (999 : Int32).toInt64 < v) (q : ¬ v < (-99 : Int64) ∧ ¬ (999 : Int64) < v) : False := by
  rw [show (-99 : Int64) = (-99 : Int32).toInt64 from by decide, show (999 : Int64) = (999 : Int32).toInt64 from by decide] at q
  exact h.elim q.1 q.2
abbrev okLa (P : Nat) (b p : Int32) : Prop := ¬ b = 0 ∧ isP P p
def laR (P z : Nat) (b p : Int32) (nu : Nat → Int64) : Int32 := if b = 0 then -1000000006 else if isP P p then nI (lyC nu P p.toNatClampNeg z) else -1000000001
def laF (P z : Nat) (b p : Int32) (nu : Nat → Int64) (f : Nat → Int32) : Nat → Int32 := if okLa P b p then lyF nu P p.toNatClampNeg f z else f
def laO (P z : Nat) (b p : Int32) (nu : Nat → Int64) (f : Nat → Int32) : Nat → Int32 := if okLa P b p then lyO nu P p.toNatClampNeg f z else f
theorem la_m {P z : Nat} {b p : Int32} {nu : Nat → Int64} (h : b = 0) : (-1000000006 : Int32) = laR P z b p nu ∧ (∀ f, f = laF P z b p nu f) ∧ ∀ f, f = laO P z b p nu f := ⟨(if_pos h).symm, fun _ => (if_neg (fun q => q.1 h)).symm, fun _ => (if_neg (fun q => q.1 h)).symm⟩
theorem la_b {P z : Nat} {b p : Int32} {nu : Nat → Int64} (h0 : ¬ b = 0) (h : ¬ isP P p) : (-1000000001 : Int32) = laR P z b p nu ∧ (∀ f, f = laF P z b p nu f) ∧ ∀ f, f = laO P z b p nu f := ⟨by unfold laR; rw [if_neg h0, if_neg h], fun _ => (if_neg (fun q => h q.2)).symm, fun _ => (if_neg (fun q => h q.2)).symm⟩
theorem la_y {P z k : Nat} {b : Int32} {nu : Nat → Int64} (hP : P ≤ 10) (h0 : ¬ b = 0) (hk : k < P) : nI (lyC nu P k z) = laR P z b (nI k) nu ∧ (∀ f, lyF nu P k f z = laF P z b (nI k) nu f) ∧ ∀ f, lyO nu P k f z = laO P z b (nI k) nu f := by
  have ok : isP P (nI k) := isP_nI (by omega) hk
  have ck : (nI k).toNatClampNeg = k := nI_clamp (by omega)
  refine ⟨?_, fun f => ?_, fun f => ?_⟩
  · unfold laR; rw [if_neg h0, if_pos ok, ck]
  · unfold laF; rw [if_pos ⟨h0, ok⟩, ck]
  · unfold laO; rw [if_pos ⟨h0, ok⟩, ck]
/-! the items of a text -/
def itN (b : Nat → Int32) (z : Nat) : Nat → Nat → Nat
  | 0, u => u
  | n + 1, u => nx b z (itN b z n u)
abbrev wyFr (b : Nat → Int32) (z u : Nat) : Nat := tC b z (nx b z u)
abbrev wyTo (b : Nat → Int32) (z u : Nat) : Nat := tC b z (nx b z (nx b z u))
abbrev wyM1 (b : Nat → Int32) (z u : Nat) : Nat := nx b z (nx b z (nx b z u))
abbrev wyV1 (b : Nat → Int32) (z u : Nat) : Nat := nx b z (mSt b z (wyM1 b z u))
noncomputable def wyHi (b : Nat → Int32) (z u : Nat) : Int32 := cif (tW b z (wyV1 b z u) 4) (mV b z (nx b z (wyV1 b z u))) (mV b z (wyM1 b z u))
noncomputable def wyV2 (b : Nat → Int32) (z u : Nat) : Nat := cif (tW b z (wyV1 b z u) 4) (nx b z (mSt b z (nx b z (wyV1 b z u)))) (wyV1 b z u)
noncomputable abbrev wyBk (b : Nat → Int32) (z u : Nat) : Int32 := mV b z (nx b z (wyV2 b z u))
noncomputable def wy2 (b : Nat → Int32) (z u : Nat) (v w : Int32) (f : Nat → Int32) : Nat → Int32 := cif (tW b z (wyV2 b z u) 5) (upd (upd f (10 * wyFr b z u + wyTo b z u) v) (10 * wyTo b z u + wyFr b z u) w) (upd f (10 * wyFr b z u + wyTo b z u) v)
theorem wyV2_p {b : Nat → Int32} {z u : Nat} (h : tW b z (wyV1 b z u) 4) : wyV2 b z u = nx b z (mSt b z (nx b z (wyV1 b z u))) := cif_pos h
theorem wyV2_n {b : Nat → Int32} {z u : Nat} (h : ¬ tW b z (wyV1 b z u) 4) : wyV2 b z u = wyV1 b z u := cif_neg h
theorem wyHi_p {b : Nat → Int32} {z u : Nat} (h : tW b z (wyV1 b z u) 4) : mV b z (nx b z (wyV1 b z u)) = wyHi b z u := (cif_pos h).symm
theorem wyHi_n {b : Nat → Int32} {z u : Nat} (h : ¬ tW b z (wyV1 b z u) 4) : mV b z (wyM1 b z u) = wyHi b z u := (cif_neg h).symm
theorem wyBk_e {b : Nat → Int32} {z u x : Nat} (e : wyV2 b z u = x) : mV b z (nx b z x) = wyBk b z u := by rw [← e]
theorem wy2_y {b : Nat → Int32} {z u x : Nat} {v w v' w' : Int32} {f g h : Nat → Int32} (e2 : wyV2 b z u = x) (h5 : tW b z x 5) (eg : g = upd f (10 * wyFr b z u + wyTo b z u) v') (eh : h = upd g (10 * wyTo b z u + wyFr b z u) w') (ev : v' = v) (ew : w' = w) : h = wy2 b z u v w f := by
  rw [eh, eg, ev, ew]
  unfold wy2
  rw [e2]; exact (cif_pos h5).symm
theorem wy2_n {b : Nat → Int32} {z u x : Nat} {v w v' : Int32} {f g : Nat → Int32} (e2 : wyV2 b z u = x) (h5 : ¬ tW b z x 5) (eg : g = upd f (10 * wyFr b z u + wyTo b z u) v') (ev : v' = v) : g = wy2 b z u v w f := by
  rw [eg, ev]
  unfold wy2
  rw [e2]; exact (cif_neg h5).symm
theorem wy2_Y {b : Nat → Int32} {z u x x1 x2 : Nat} {v w v' w' : Int32} {f : Nat → Int32} (e2 : wyV2 b z u = x) (h5 : tW b z x 5) (hx1 : x1 = 10 * wyFr b z u + wyTo b z u) (hx2 : x2 = 10 * wyTo b z u + wyFr b z u) (ev : v' = v) (ew : w' = w) : upd (upd f x1 v') x2 w' = wy2 b z u v w f := by
  rw [hx1, hx2, ev, ew]
  unfold wy2
  rw [e2]; exact (cif_pos h5).symm
theorem wy2_N {b : Nat → Int32} {z u x x1 : Nat} {v w v' : Int32} {f : Nat → Int32} (e2 : wyV2 b z u = x) (h5 : ¬ tW b z x 5) (hx1 : x1 = 10 * wyFr b z u + wyTo b z u) (ev : v' = v) : upd f x1 v' = wy2 b z u v w f := by
  rw [hx1, ev]
  unfold wy2
  rw [e2]; exact (cif_neg h5).symm
noncomputable def stL (b : Nat → Int32) (z u _P _W : Nat) (f : Nat → Int32) : Nat → Int32 := cif (tW b z u 1) (wy2 b z u (mV b z (wyM1 b z u)) (wyBk b z u) f) f
noncomputable def stU (b : Nat → Int32) (z u _P _W : Nat) (f : Nat → Int32) : Nat → Int32 := cif (tW b z u 1) (wy2 b z u (wyHi b z u) (wyBk b z u) f) f
noncomputable def stO (b : Nat → Int32) (z u _P _W : Nat) (f : Nat → Int32) : Nat → Int32 := cif (tW b z u 1) (wy2 b z u 1 1 f) f
noncomputable def stE (b : Nat → Int32) (z u P _W : Nat) (f : Nat → Int32) : Nat → Int32 := eSt b z u P f
/-- how many stops a walk has -/
noncomputable def wkn (b : Nat → Int32) (z : Nat) : Nat → Nat → Nat → Nat
  | 0, _, n => n
  | q + 1, u, n => cif (tK b z u = 2) (wkn b z q (nx b z u) (n + 1)) n
theorem wkn_go {b : Nat → Int32} {z i u : Nat} (h : i < 6) (k : tK b z u = 2) : wkn b z (6 - i) u i = wkn b z (6 - (i + 1)) (nx b z u) (i + 1) := by
  rw [show 6 - i = (6 - (i + 1)) + 1 by omega, wkn]; exact cif_pos k
theorem wkn_end {b : Nat → Int32} {z i u : Nat} (h : i < 6) (k : ¬ tK b z u = 2) : wkn b z (6 - i) u i = i := by
  rw [show 6 - i = (6 - (i + 1)) + 1 by omega, wkn]; exact cif_neg k
theorem wkn_six {b : Nat → Int32} {z i u : Nat} (h : 6 ≤ i) : wkn b z (6 - i) u i = i := by
  rw [show 6 - i = 0 by omega, wkn]
noncomputable def wkC (b : Nat → Int32) (z u : Nat) : Nat := wkn b z 5 (nx b z (nx b z u)) 1
/-- the token behind its stops; its total; its slack -/
noncomputable def wkE (b : Nat → Int32) (z u : Nat) : Nat := itN b z (wkC b z u) (nx b z u)
noncomputable def wkTo (b : Nat → Int32) (z u : Nat) : Int32 := mV b z (nx b z (wkE b z u))
noncomputable def wkV (b : Nat → Int32) (z u : Nat) : Nat := nx b z (mSt b z (nx b z (wkE b z u)))
noncomputable def wkSl (b : Nat → Int32) (z u : Nat) : Int32 := cif (tW b z (wkV b z u) 7) (nI (tC b z (nx b z (wkV b z u)))) 0
theorem wkE_e {b : Nat → Int32} {z u i x : Nat} (hC : wkC b z u = i) (hu : x = itN b z i (nx b z u)) : wkE b z u = x := by
  unfold wkE; rw [hC, hu]
theorem wkTo_e {b : Nat → Int32} {z u x : Nat} (hE : wkE b z u = x) : mV b z (nx b z x) = wkTo b z u := by
  unfold wkTo; rw [hE]
theorem wkSl_n {b : Nat → Int32} {z u x : Nat} (hE : wkE b z u = x) (h : ¬ tW b z (nx b z (mSt b z (nx b z x))) 7) : (0 : Int32) = wkSl b z u := by
  subst hE; exact (cif_neg h).symm
theorem wkSl_y {b : Nat → Int32} {z u x : Nat} (hE : wkE b z u = x) (h : tW b z (nx b z (mSt b z (nx b z x))) 7) : nI (tC b z (nx b z (nx b z (mSt b z (nx b z x))))) = wkSl b z u := by
  subst hE; exact (cif_pos h).symm
/-- the row of stops, n of them read -/
def wkR (b : Nat → Int32) (z u W n : Nat) (f : Nat → Int32) : Nat → Int32 := fun j => if W * 6 ≤ j ∧ j < W * 6 + n then nI (tC b z (itN b z (j - W * 6) (nx b z u))) else f j
theorem wkR_0 {b : Nat → Int32} {z u W : Nat} {f : Nat → Int32} : wkR b z u W 0 f = f := by
  funext j; unfold wkR; rw [if_neg (by omega)]
theorem wkR_put {b : Nat → Int32} {z u W n j : Nat} {f : Nat → Int32} {v : Int32} (hj : j = W * 6 + n) (hv : v = nI (tC b z (itN b z n (nx b z u)))) : upd (wkR b z u W n f) j v = wkR b z u W (n + 1) f := by
  subst hj hv
  funext j
  by_cases e : j = W * 6 + n
  · subst e; rw [pk_us]; unfold wkR; rw [if_pos (by omega), show W * 6 + n - W * 6 = n by omega]
  · rw [pk_un e]; unfold wkR
    by_cases q : W * 6 ≤ j ∧ j < W * 6 + n
    · rw [if_pos q, if_pos (by omega)]
    · rw [if_neg q, if_neg (by omega)]
theorem wkR_2 {b : Nat → Int32} {z u W : Nat} {f : Nat → Int32} {v0 v1 : Int32} (h0 : v0 = nI (tC b z (itN b z 0 (nx b z u)))) (h1 : v1 = nI (tC b z (itN b z 1 (nx b z u)))) : upd (upd f (W * 6 + 0) v0) (W * 6 + 1) v1 = wkR b z u W 2 f := by
  have h := wkR_put (b := b) (z := z) (u := u) (W := W) (n := 0) (f := f) (j := W * 6 + 0) rfl h0
  rw [wkR_0] at h
  rw [h]
  exact wkR_put rfl h1
theorem wkA_put {a a2 g : Nat → Int32} {n : Nat} {v : Int32} (h : ∀ j, j < n → a j = g j) (e : a2 = upd a n v) (hv : v = g n) : ∀ j, j < n + 1 → a2 j = g j := by
  intro j hj
  rw [e]
  by_cases q : j = n
  · subst q; rw [pk_us]; exact hv
  · rw [pk_un q]; exact h j (by omega)
theorem wkR_1 {b : Nat → Int32} {z u W : Nat} {f : Nat → Int32} : upd f (W * 6 + 0) (nI (tC b z (nx b z u))) = wkR b z u W 1 f := by
  have h := wkR_put (b := b) (z := z) (u := u) (W := W) (n := 0) (f := f) (j := W * 6 + 0) rfl rfl
  rw [wkR_0] at h
  exact h
noncomputable def stN (b : Nat → Int32) (z u _P W : Nat) (f : Nat → Int32) : Nat → Int32 := cif (tW b z u 2) (upd f W (nI (wkC b z u))) f
noncomputable def stR (b : Nat → Int32) (z u _P W : Nat) (f : Nat → Int32) : Nat → Int32 := cif (tW b z u 2) (wkR b z u W (wkC b z u) f) f
noncomputable def stT (b : Nat → Int32) (z u _P W : Nat) (f : Nat → Int32) : Nat → Int32 := cif (tW b z u 2) (upd f W (wkTo b z u)) f
noncomputable def stS (b : Nat → Int32) (z u _P W : Nat) (f : Nat → Int32) : Nat → Int32 := cif (tW b z u 2) (upd f W (wkSl b z u)) f
/-- all items, one of the arrays -/
noncomputable def spLz (b : Nat → Int32) (z : Nat) (st : Nat → Nat → Nat → (Nat → Int32) → (Nat → Int32)) : Nat → Nat → Nat → Nat → (Nat → Int32) → (Nat → Int32)
  | 0, _, _, _, x => x
  | q + 1, u, P, W, x => match spItem b z u P W with
    | .inl _ => x
    | .inr v => cif (tK b z v = 3) (spLz b z st q (nx b z v) (spP b z u P) (spW b z u W) (st u P W x)) (st u P W x)
theorem spLz_end {b : Nat → Int32} {z i u P W v : Nat} {st : Nat → Nat → Nat → (Nat → Int32) → (Nat → Int32)} {x : Nat → Int32} (hi : i < 121) (h : spItem b z u P W = .inr v) (k : ¬ tK b z v = 3) : spLz b z st (121 - i) u P W x = st u P W x := by
  rw [show 121 - i = (121 - (i + 1)) + 1 by omega, spLz, h]; exact cif_neg k
theorem spLz_go {b : Nat → Int32} {z i u P W v : Nat} {st : Nat → Nat → Nat → (Nat → Int32) → (Nat → Int32)} {x : Nat → Int32} (hi : i < 121) (h : spItem b z u P W = .inr v) (k : tK b z v = 3) : spLz b z st (121 - i) u P W x = spLz b z st (121 - (i + 1)) (nx b z v) (spP b z u P) (spW b z u W) (st u P W x) := by
  rw [show 121 - i = (121 - (i + 1)) + 1 by omega, spLz, h]; exact cif_pos k
theorem spLz_aft {b : Nat → Int32} {z i u P W v : Nat} {st : Nat → Nat → Nat → (Nat → Int32) → (Nat → Int32)} {x : Nat → Int32} (hi : i < 121) (h : spItem b z u P W = .inr v) : spLz b z st (121 - i) u P W x = cif (tK b z v = 3) (spLz b z st (121 - (i + 1)) (nx b z v) (spP b z u P) (spW b z u W) (st u P W x)) (st u P W x) := by
  rw [show 121 - i = (121 - (i + 1)) + 1 by omega, spLz, h]
