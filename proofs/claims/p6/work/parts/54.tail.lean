/-! worlds with a rest that nobody looks at -/
theorem xt_l {D : va_G} {cl : List vw_C} {ws tl : va_W} {H : Heap} (h : va_P D cl (ws ++ tl) H) : va_P D cl ws H := fun k q hk => h k q (by rw [List.getElem?_append_left (List.getElem?_eq_some_iff.mp hk).1]; exact hk)
theorem xt_r {D : va_G} {cl : List vw_C} {ws tl : va_W} {H : Heap} (h : va_P D cl (ws ++ tl) H) : va_P D cl tl H := fun k q hk => h (ws.length + k) q (by rw [List.getElem?_append_right (Nat.le_add_right _ _), Nat.add_sub_cancel_left]; exact hk)
theorem xt_m {ws tl : va_W} : ∀ (is : List Nat) (w : va_W), is.map (fun i => ws[i]?) = w.map some → is.map (fun i => (ws ++ tl)[i]?) = w.map some ∧ ∀ i ∈ is, i < ws.length
  | [], w, h => ⟨h, fun i hi => absurd hi List.not_mem_nil⟩
  | i :: is, [], h => by simp at h
  | i :: is, q :: w, h => by
    rw [List.map_cons, List.map_cons, List.cons.injEq] at h
    have h1 : ws[i]? = some q := h.1
    have hi : i < ws.length := (List.getElem?_eq_some_iff.mp h1).1
    obtain ⟨h3, h4⟩ := xt_m is w h.2
    refine ⟨?_, fun j hj => ?_⟩
    · rw [List.map_cons, List.map_cons, h3]
      show (ws ++ tl)[i]? :: w.map some = some q :: w.map some
      rw [List.getElem?_append_left hi, h1]
    · rcases List.mem_cons.mp hj with e | e
      · subst e; exact hi
      · exact h4 j e
theorem xt_rg : ∀ (tl ws : va_W), (List.range' ws.length tl.length).map (fun i => (ws ++ tl)[i]?) = tl.map some
  | [], ws => rfl
  | a :: t, ws => by
    have h := xt_rg t (ws ++ [a])
    have e1 : (ws ++ a :: t)[ws.length]? = some a := by rw [List.getElem?_append_right (Nat.le_refl _), Nat.sub_self]; rfl
    have e2 : (ws ++ [a]).length = ws.length + 1 := by rw [List.length_append]; rfl
    have e3 : (ws ++ [a]) ++ t = ws ++ a :: t := by rw [List.append_assoc]; rfl
    rw [e2, e3] at h
    rw [List.length_cons, List.range'_succ, List.map_cons, List.map_cons, h]
    show (ws ++ a :: t)[ws.length]? :: t.map some = some a :: t.map some
    rw [e1]
theorem xt_mr {ws tl wr : va_W} {isR : List Nat} (h : isR.map (fun i => ws[i]?) = wr.map some) : (isR ++ List.range' ws.length tl.length).map (fun i => (ws ++ tl)[i]?) = (wr ++ tl).map some := by
  rw [List.map_append, List.map_append, (xt_m isR wr h).1, xt_rg]
theorem xt_ndr : ∀ (k n : Nat), va_nd (List.range' n k) = true
  | 0, n => rfl
  | k + 1, n => by
    rw [List.range'_succ]
    unfold va_nd
    rw [xt_ndr k (n + 1), Bool.and_true]
    exact decide_eq_true (fun h => by have := (List.mem_range'_1.mp h).1; omega)
theorem xt_nd : ∀ (is : List Nat) (n k : Nat), va_nd is = true → (∀ i ∈ is, i < n) → va_nd (is ++ List.range' n k) = true
  | [], n, k, _, _ => xt_ndr k n
  | a :: l, n, k, h, hl => by
    simp only [va_nd, Bool.and_eq_true, decide_eq_true_eq] at h
    have ih := xt_nd l n k h.2 (fun i hi => hl i (List.mem_cons_of_mem _ hi))
    rw [List.cons_append]
    simp only [va_nd, Bool.and_eq_true, decide_eq_true_eq]
    refine ⟨fun q => ?_, ih⟩
    rcases List.mem_append.mp q with q | q
    · exact h.1 q
    · have h5 := (List.mem_range'_1.mp q).1
      have h6 := hl a List.mem_cons_self
      omega
theorem xt_di {isC isR : List Nat} {n k : Nat} (hC : ∀ i ∈ isC, i < n) (h : ∀ i ∈ isR, i ∉ isC) : ∀ i ∈ isR ++ List.range' n k, i ∉ isC := by
  intro i hi
  rcases List.mem_append.mp hi with q | q
  · exact h i q
  · intro w
    have h5 := hC i w
    have h6 := (List.mem_range'_1.mp q).1
    omega
theorem xt_sw {D : va_G} {cl : List vw_C} {wr w1 tl : va_W} {H : Heap} (h : va_P D cl ((wr ++ tl) ++ w1) H) : va_P D cl ((wr ++ w1) ++ tl) H := ((xt_l (xt_l h)).app (xt_r h)).app (xt_r (xt_l h))
theorem xt_DN {A : Nat → Prop} {ws : va_W} (h : va_D A ws) : (ws.map Prod.fst).Nodup ∧ ∀ q ∈ ws, A q.1 := by
  refine ⟨?_, fun q hq => ?_⟩
  · refine List.pairwise_iff_getElem.mpr (fun i j hi hj hij e => ?_)
    have hi' : i < ws.length := by rw [List.length_map] at hi; exact hi
    have hj' : j < ws.length := by rw [List.length_map] at hj; exact hj
    rw [List.getElem_map, List.getElem_map] at e
    have := h.1 i j ws[i] ws[j] (List.getElem?_eq_getElem hi') (List.getElem?_eq_getElem hj') e
    omega
  · obtain ⟨k, hk⟩ := List.getElem?_of_mem hq
    exact h.2 k q hk
theorem xt_ND {A : Nat → Prop} {ws : va_W} (h1 : (ws.map Prod.fst).Nodup) (h2 : ∀ q ∈ ws, A q.1) : va_D A ws := by
  refine ⟨fun i j p q hi hj e => ?_, fun k q hk => h2 q (List.mem_of_getElem? hk)⟩
  obtain ⟨ai, ae⟩ := List.getElem?_eq_some_iff.mp hi
  obtain ⟨bj, be⟩ := List.getElem?_eq_some_iff.mp hj
  have h := List.pairwise_iff_getElem.mp h1
  rcases Nat.lt_trichotomy i j with l | l | l
  · exact absurd (by rw [List.getElem_map, List.getElem_map, ae, be]; exact e) (h i j (by rw [List.length_map]; exact ai) (by rw [List.length_map]; exact bj) l)
  · exact l
  · exact absurd (by rw [List.getElem_map, List.getElem_map, ae, be]; exact e.symm) (h j i (by rw [List.length_map]; exact bj) (by rw [List.length_map]; exact ai) l)
theorem xt_swD {A : Nat → Prop} {wr w1 tl : va_W} (h : va_D A ((wr ++ tl) ++ w1)) : va_D A ((wr ++ w1) ++ tl) := by
  obtain ⟨n1, n2⟩ := xt_DN h
  refine xt_ND ?_ (fun q hq => n2 q ?_)
  · refine (List.Perm.nodup_iff (List.Perm.map Prod.fst ?_)).mpr n1
    rw [List.append_assoc, List.append_assoc]
    exact List.Perm.append_left wr List.perm_append_comm
  · rcases List.mem_append.mp hq with q1 | q1
    · rcases List.mem_append.mp q1 with q2 | q2
      · exact List.mem_append_left _ (List.mem_append_left _ q2)
      · exact List.mem_append_right _ q2
    · exact List.mem_append_left _ (List.mem_append_right _ q1)
theorem xt_P {D : va_G} {cl : List vw_C} {ws w tl : va_W} {H : Heap} (h : va_P D cl (ws ++ tl) H) (is : List Nat) (hs : is.map (fun i => ws[i]?) = w.map some) : va_P D cl (w ++ tl) H := ((xt_l h).sub is (xsub hs)).app (xt_r h)
theorem xt_D {A : Nat → Prop} {ws w tl : va_W} (h : va_D A (ws ++ tl)) (is : List Nat) (hn : va_nd is = true) (hs : is.map (fun i => ws[i]?) = w.map some) : va_D A (w ++ tl) := h.sub (is ++ List.range' ws.length tl.length) (xt_nd is _ _ hn (xt_m (tl := tl) is w hs).2) (xt_mr hs)
section XT
variable {p : Program} {l : Launch} {e : Env} {R : Room} {s : State} {m : MethodId} {args : Array Value} {below : List Frame} {meth : Method} {c : Code} {H : Heap} {locs : List Loc} {cells slots : Nat} {Q : State → Prop}
variable {cc : ByteArray} {pc nL : Nat} {ls : Array Slot} {rest st0 : List Value} {D : va_G} {T : List (ClassId × FieldType)} {ta : Nat} {sa sv : Nat → Nat} {A : Nat → Prop} {ws : va_W} {c0 : Cond} {own : String}
variable {y : MethodName} {bytes : ByteArray} {maxL mc ms n index : Nat} {ret : Option FieldType} {rm : Room} {C : String} {b : Addr} {As : List Value} {wc wr : va_W}
theorem xc_VrT {tl : va_W} (hF : CallFix p m c cc nL s args (c0 :: wsU) own) {post : Int32 → Prop} (hM : Met l y (Cond.code y bytes maxL ret :: wsU) rm (va_Pc (.ref b :: As) (XW D T ta sa sv wc H.size)) (vp_Si post) 0 0 (fun _ => False)) (hw : xWV own index C y bytes maxL ret n) (hR : rm.cells = 0 ∧ rm.slots = 0 ∧ rm.frames + 1 ≤ R.frames ∧ 8 + (maxL + 11) + rm.locals ≤ R.locals) (hf : cells ≤ R.cells ∧ slots ≤ R.slots)
    (hK : va_K D vwCl T s) (hN : XN sa s) (hZ : ST ta sa sv A s s.heap) (hP : va_P D vwCl (ws ++ tl) H) (hD : va_D A (ws ++ tl)) (hS : va_S A s.heap H locs) (hA : ∀ q : Nat, s.heap.size ≤ q → A q) (isC : List Nat) (hC : isC.map (fun i => ws[i]?) = wc.map some) (hnC : va_nd isC = true) (q0 : Nat) {ci : Nat} {fs : List Value} {cq : vw_C} (he : wc[q0]? = some (b, .inr (ci, fs))) (hc : vwCl[ci]? = some cq) (hcC : cq.1 = C)
    (hn : As.length = n) (hsz : ls.size = nL) (hst : st0 = As.reverse ++ .ref b :: rest) (hrest : (rest.map fun v => v.category).sum ≤ 8) (hdg : decode cc pc = .ok (.invokevirtual index, 3))
    (kk : ∀ r : Int32, post r → W p l e R s m args below meth c H locs cells slots Q (F0 m (pc + 3) ls (.int r :: rest))) : W p l e R s m args below meth c H locs cells slots Q (F0 m pc ls st0) := by
  exact xc_Vr (ws := ws ++ tl) hF hM hw hR hf hK hN hZ hP hD hS hA isC (xt_m isC wc hC).1 hnC q0 he hc hcC hn hsz hst hrest hdg kk
theorem xc_ViT {tl : va_W} (hF : CallFix p m c cc nL s args (c0 :: wsU) own) {S : Type} {post : Int32 → S → Prop} {w1 : S → va_W} (hM : Met l y (Cond.code y bytes maxL ret :: wsU) rm (va_Pc (.ref b :: As) (XW D T ta sa sv wc H.size)) (XQi post D w1 (va_A wc H.size)) 0 0 (va_A wc H.size)) (hw : xWV own index C y bytes maxL ret n) (hR : rm.cells = 0 ∧ rm.slots = 0 ∧ rm.frames + 1 ≤ R.frames ∧ 8 + (maxL + 11) + rm.locals ≤ R.locals) (hf : cells ≤ R.cells ∧ slots ≤ R.slots)
    (hK : va_K D vwCl T s) (hN : XN sa s) (hZ : ST ta sa sv A s s.heap) (hP : va_P D vwCl (ws ++ tl) H) (hD : va_D A (ws ++ tl)) (hS : va_S A s.heap H locs) (hA : ∀ q : Nat, s.heap.size ≤ q → A q) (isC isR : List Nat) (hC : isC.map (fun i => ws[i]?) = wc.map some) (hRr : isR.map (fun i => ws[i]?) = wr.map some) (hnC : va_nd isC = true) (hnR : va_nd isR = true) (hdis : ∀ i ∈ isR, i ∉ isC) (q0 : Nat) {ci : Nat} {fs : List Value} {cq : vw_C} (he : wc[q0]? = some (b, .inr (ci, fs))) (hc : vwCl[ci]? = some cq) (hcC : cq.1 = C)
    (hn : As.length = n) (hsz : ls.size = nL) (hst : st0 = As.reverse ++ .ref b :: rest) (hrest : (rest.map fun v => v.category).sum ≤ 8) (hdg : decode cc pc = .ok (.invokevirtual index, 3))
    (kk : ∀ (r : Int32) (u : S) (H1 : Heap) (locs1 : List Loc), post r u → va_P D vwCl ((wr ++ w1 u) ++ tl) H1 → va_D A ((wr ++ w1 u) ++ tl) → va_S A s.heap H1 locs1 → W p l e R s m args below meth c H1 locs1 cells slots Q (F0 m (pc + 3) ls (.int r :: rest))) : W p l e R s m args below meth c H locs cells slots Q (F0 m pc ls st0) := by
  exact xc_Vi (ws := ws ++ tl) (wr := wr ++ tl) hF hM hw hR hf hK hN hZ hP hD hS hA isC (isR ++ List.range' ws.length tl.length) (xt_m isC wc hC).1 (xt_mr hRr) hnC (xt_nd isR _ _ hnR (xt_m (tl := tl) isR wr hRr).2) (xt_di (xt_m (tl := tl) isC wc hC).2 hdis) q0 he hc hcC hn hsz hst hrest hdg (fun r u H1 locs1 hp hP hD hS => kk r u H1 locs1 hp (xt_sw hP) (xt_swD hD) hS)
theorem xc_VlT {tl : va_W} (hF : CallFix p m c cc nL s args (c0 :: wsU) own) {S : Type} {post : Int64 → S → Prop} {w1 : S → va_W} (hM : Met l y (Cond.code y bytes maxL ret :: wsU) rm (va_Pc (.ref b :: As) (XW D T ta sa sv wc H.size)) (XQl post D w1 (va_A wc H.size)) 0 0 (va_A wc H.size)) (hw : xWV own index C y bytes maxL ret n) (hR : rm.cells = 0 ∧ rm.slots = 0 ∧ rm.frames + 1 ≤ R.frames ∧ 8 + (maxL + 11) + rm.locals ≤ R.locals) (hf : cells ≤ R.cells ∧ slots ≤ R.slots)
    (hK : va_K D vwCl T s) (hN : XN sa s) (hZ : ST ta sa sv A s s.heap) (hP : va_P D vwCl (ws ++ tl) H) (hD : va_D A (ws ++ tl)) (hS : va_S A s.heap H locs) (hA : ∀ q : Nat, s.heap.size ≤ q → A q) (isC isR : List Nat) (hC : isC.map (fun i => ws[i]?) = wc.map some) (hRr : isR.map (fun i => ws[i]?) = wr.map some) (hnC : va_nd isC = true) (hnR : va_nd isR = true) (hdis : ∀ i ∈ isR, i ∉ isC) (q0 : Nat) {ci : Nat} {fs : List Value} {cq : vw_C} (he : wc[q0]? = some (b, .inr (ci, fs))) (hc : vwCl[ci]? = some cq) (hcC : cq.1 = C)
    (hn : As.length = n) (hsz : ls.size = nL) (hst : st0 = As.reverse ++ .ref b :: rest) (hrest : (rest.map fun v => v.category).sum ≤ 8) (hdg : decode cc pc = .ok (.invokevirtual index, 3))
    (kk : ∀ (r : Int64) (u : S) (H1 : Heap) (locs1 : List Loc), post r u → va_P D vwCl ((wr ++ w1 u) ++ tl) H1 → va_D A ((wr ++ w1 u) ++ tl) → va_S A s.heap H1 locs1 → W p l e R s m args below meth c H1 locs1 cells slots Q (F0 m (pc + 3) ls (.long r :: rest))) : W p l e R s m args below meth c H locs cells slots Q (F0 m pc ls st0) := by
  exact xc_Vl (ws := ws ++ tl) (wr := wr ++ tl) hF hM hw hR hf hK hN hZ hP hD hS hA isC (isR ++ List.range' ws.length tl.length) (xt_m isC wc hC).1 (xt_mr hRr) hnC (xt_nd isR _ _ hnR (xt_m (tl := tl) isR wr hRr).2) (xt_di (xt_m (tl := tl) isC wc hC).2 hdis) q0 he hc hcC hn hsz hst hrest hdg (fun r u H1 locs1 hp hP hD hS => kk r u H1 locs1 hp (xt_sw hP) (xt_swD hD) hS)
end XT
theorem x_si {i L k : Nat} (hk : k < 6) (hi : i + 6 ≤ L) (hL : L ≤ 3072) : vp_in (nI (i + k)) L := vp_in_nI (by omega) (by omega)
theorem x_sc {i L k : Nat} (hk : k < 6) (hi : i + 6 ≤ L) (hL : L ≤ 3072) : (nI (i + k)).toNatClampNeg = i + k := nI_clamp (by omega)
