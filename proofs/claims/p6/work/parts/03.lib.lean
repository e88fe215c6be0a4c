/-! words: one list for all methods: the good ones of the tables -/
def wsU : List Cond := lw_tbl.filter goodWord
theorem wsU_in : ∀ w ∈ wsU, w ∈ lw_tbl := fun _ h => (List.mem_filter.mp h).1
theorem ut_ok {w : Cond} (h : w ∈ tables_1) (g : goodWord w = true) : w ∈ wsU := List.mem_filter.mpr ⟨List.mem_append_right _ h, g⟩
theorem ut1 {w : Cond} (h : w ∈ tables_1_1) (g : goodWord w = true) : w ∈ wsU := ut_ok (List.mem_append_left _ h) g
theorem ut2 {w : Cond} (h : w ∈ tables_1_2) (g : goodWord w = true) : w ∈ wsU := ut_ok (List.mem_append_right _ (List.mem_append_left _ h)) g
theorem ut3 {w : Cond} (h : w ∈ tables_1_3) (g : goodWord w = true) : w ∈ wsU := ut_ok (List.mem_append_right _ (List.mem_append_right _ (List.mem_append_left _ h))) g
theorem ut4 {w : Cond} (h : w ∈ tables_1_4) (g : goodWord w = true) : w ∈ wsU := ut_ok (List.mem_append_right _ (List.mem_append_right _ (List.mem_append_right _ (List.mem_append_left _ h)))) g
theorem ut5 {w : Cond} (h : w ∈ tables_1_5) (g : goodWord w = true) : w ∈ wsU := ut_ok (List.mem_append_right _ (List.mem_append_right _ (List.mem_append_right _ (List.mem_append_right _ (List.mem_append_left _ h))))) g
theorem ut6 {w : Cond} (h : w ∈ tables_1_6) (g : goodWord w = true) : w ∈ wsU := ut_ok (List.mem_append_right _ (List.mem_append_right _ (List.mem_append_right _ (List.mem_append_right _ (List.mem_append_right _ h))))) g
theorem us_sel {q : MethodName × Nat} (h : q ∈ lw_privs) (g : goodWord (Cond.selects q.1.cls q.1 q.1) = true) : Cond.selects q.1.cls q.1 q.1 ∈ wsU := List.mem_filter.mpr ⟨List.mem_append_left _ (List.mem_map.mpr ⟨q, h, rfl⟩), g⟩
theorem xU_ok {c0 : Cond} : GoodIn (c0 :: wsU) wsU := fun w h => ⟨List.mem_cons_of_mem _ h, good_of_word (List.mem_filter.mp h).2⟩
theorem xU_cons {c0 c1 : Cond} (h : c1 ∈ wsU) : GoodIn (c0 :: wsU) (c1 :: wsU) := fun w hw => (List.mem_cons.mp hw).elim (fun e => by subst e; exact xU_ok _ h) (fun h2 => xU_ok _ h2)
/-- what a call of an instance method needs of the tables -/
def xWV (own : String) (index : Nat) (C : String) (y : MethodName) (bytes : ByteArray) (maxL : Nat) (ret : Option FieldType) (n : Nat) : Prop :=
  (Cond.methodLink own index y ∈ wsU ∧ Cond.instanceMethod y ∈ wsU ∧ Cond.selects C y y ∈ wsU ∧ Cond.initialized C ∈ wsU ∧ Cond.code y bytes maxL ret ∈ wsU) ∧
  (y.cls = C ∧ y.cls ≠ "java/lang/invoke/MethodHandle" ∧ y.cls ≠ "java/lang/invoke/VarHandle" ∧ (parseMethodDescriptor y.desc).map (fun d => d.parameters.length) = some n)
/-- .. of a static method of its own class -/
def xWS (own : String) (index : Nat) (y : MethodName) (bytes : ByteArray) (maxL : Nat) (ret : Option FieldType) (n : Nat) : Prop :=
  (Cond.methodLink own index y ∈ wsU ∧ Cond.static y ∈ wsU ∧ Cond.initialized y.cls ∈ wsU ∧ Cond.code y bytes maxL ret ∈ wsU) ∧
  (y.cls ≠ "java/lang/invoke/MethodHandle" ∧ y.cls ≠ "java/lang/invoke/VarHandle" ∧ (parseMethodDescriptor y.desc).map (fun d => d.parameters.length) = some n)
/-- .. of a constructor, linked the plain way -/
def xWI (own : String) (index : Nat) (y : MethodName) (bytes : ByteArray) (maxL : Nat) (n : Nat) : Prop :=
  (Cond.methodLink own index y ∈ wsU ∧ Cond.instanceMethod y ∈ wsU ∧ Cond.initialized y.cls ∈ wsU ∧ Cond.code y bytes maxL none ∈ wsU) ∧
  (y.name = "<init>" ∧ y.cls ≠ "java/lang/invoke/MethodHandle" ∧ y.cls ≠ "java/lang/invoke/VarHandle" ∧ (parseMethodDescriptor y.desc).map (fun d => d.parameters.length) = some n)
/-- the words that lie beside the list: private members of nest mates, the array of sheets, String constants -/
def xNest : List Cond := [.methodLinkNest RX8 11 yX1_init RX8, .methodLinkNest RX8 28 yX0_init RX8, .methodLinkNest RX8 38 yX6_init RX8, .methodLinkNest RX8 45 yX5_init RX8, .methodLinkNest RX8 52 yX2_init RX8, .methodLinkNest RX8 59 yX7_init RX8, .methodLinkNest RX8 74 yX4_init RX8, .methodLinkNest RX0 42 yX8_together RX8, .methodLinkNest RX1 30 yX3_init RX8, .methodLinkNest RX2 75 yX8_areEnds RX8, .methodLinkNest RX6 62 yX8_together RX8]
def xStr : List (Nat × String × Nat) := [(41, "place", 0), (50, "way", 1), (55, "walk", 2), (65, "errands", 3), (82, "to", 4), (88, "back", 5), (118, "all", 6), (123, "slack", 7)]
def XN (sa : Nat → Nat) (U : State) : Prop := (∀ w ∈ xNest, va_Nw w U) ∧ va_AO RX4 U ∧ ∀ q ∈ xStr, vk_R RX7 q.1 q.2.1 (sa q.2.2) U
theorem xNest_form : ∀ w ∈ xNest, ∃ (a : String) (i : Nat) (y : MethodName) (h : String), w = .methodLinkNest a i y h := by
  intro w hw
  simp only [xNest, List.mem_cons, List.not_mem_nil, or_false] at hw
  rcases hw with rfl | rfl | rfl | rfl | rfl | rfl | rfl | rfl | rfl | rfl | rfl <;> exact ⟨_, _, _, _, rfl⟩
theorem XN.same {sa : Nat → Nat} {u U : State} (h : U.vm = u.vm) (q : XN sa u) : XN sa U := by
  refine ⟨fun w hw => ?_, va_AO.moved (by rw [h]; exact Vm.Alike.refl _) q.2.1, fun x hx => (q.2.2 x hx).same h⟩
  obtain ⟨a, i, y, hh, rfl⟩ := xNest_form w hw
  exact va_Nw.same rfl h.symm (q.1 _ hw)
theorem XN.warm {sa : Nat → Nat} {s U : State} (hW : s.WarmedH U.vm) (q : XN sa s) : XN sa U := by
  refine ⟨fun w hw => ?_, va_AO.moved hW.alike q.2.1, fun x hx => (q.2.2 x hx).warm hW⟩
  obtain ⟨a, i, y, hh, rfl⟩ := xNest_form w hw
  exact (q.1 _ hw : va_Nw _ s).warmM hW
def xLen : List Nat := [5, 3, 4, 7, 2, 4, 3, 5]
def xByt : List (List Int32) := [[112, 108, 97, 99, 101], [119, 97, 121], [119, 97, 108, 107], [101, 114, 114, 97, 110, 100, 115], [116, 111], [98, 97, 99, 107], [97, 108, 108], [115, 108, 97, 99, 107]]
/-- what never changes and lies beside the cells: ABOVE, the texts, String's own flag, the formatter -/
def ST (ta : Nat) (sa sv : Nat → Nat) (A : Nat → Prop) (U : State) (H : Heap) : Prop :=
  (va_Z RX8 "ABOVE" "[I" (.ref ta) A U H ∧ va_T .int ta 7 (fun j => .int (([-1, 0, 0, 0, 1, 0, 2] : List Int32).getD j 0)) A U H) ∧ va_Z "java/lang/String" "COMPACT_STRINGS" "Z" (.int 1) A U H ∧ va_Zq "jdk/internal/util/Preconditions" "SIOOBE_FORMATTER" "Ljava/util/function/BiFunction;" A U H ∧ vk_S 8 xLen xByt sa sv A U H
theorem ST.moved {ta : Nat} {sa sv : Nat → Nat} {A : Nat → Prop} {u U : State} {H : Heap} (hvm : u.vm.Alike U.vm) (h : ST ta sa sv A u H) : ST ta sa sv A U H := ⟨⟨h.1.1.moved hvm, h.1.2.moved hvm⟩, h.2.1.moved hvm, h.2.2.1.moved hvm, h.2.2.2.moved hvm⟩
theorem ST.kept {ta : Nat} {sa sv : Nat → Nat} {A : Nat → Prop} {U : State} {H H1 : Heap} (h : ST ta sa sv A U H) (hq : ∀ a : Nat, a < H.size → ¬ A a → H1[a]? = H[a]?) : ST ta sa sv A U H1 := ⟨⟨h.1.1.kept hq, h.1.2.kept hq⟩, h.2.1.kept hq, h.2.2.1.kept hq, h.2.2.2.kept hq⟩
theorem ST.narrow {ta : Nat} {sa sv : Nat → Nat} {A B : Nat → Prop} {U : State} {H : Heap} (h : ST ta sa sv A U H) (hAB : ∀ q, B q → A q) : ST ta sa sv B U H := ⟨⟨h.1.1.narrow hAB, h.1.2.narrow hAB⟩, h.2.1.narrow hAB, h.2.2.1.narrow hAB, h.2.2.2.narrow hAB⟩
/-- the types of arrays -/
abbrev xT (cI cJ cZ cS : ClassId) : List (ClassId × FieldType) := [(cI, .int), (cJ, .long), (cZ, .boolean), (cS, .object RX4)]
/-- a contract's start: the cells wc, and no more is known of the heap but its size -/
def XW (D : va_G) (T : List (ClassId × FieldType)) (ta : Nat) (sa sv : Nat → Nat) (wc : va_W) (sz : Nat) (U : State) : Prop := U.heap.size = sz ∧ va_P D vwCl wc U.heap ∧ va_K D vwCl T U ∧ va_D (fun _ => True) wc ∧ XN sa U ∧ ST ta sa sv (va_A wc sz) U U.heap
def XQi {S : Type} (post : Int32 → S → Prop) (D : va_G) (w1 : S → va_W) (A : Nat → Prop) : Array Value → State → Outcome → State → Prop := va_Qi post (fun u t => va_P D vwCl (w1 u) t.heap ∧ va_D A (w1 u)) A
def XQl {S : Type} (post : Int64 → S → Prop) (D : va_G) (w1 : S → va_W) (A : Nat → Prop) : Array Value → State → Outcome → State → Prop := va_Ql post (fun u t => va_P D vwCl (w1 u) t.heap ∧ va_D A (w1 u)) A
def XQv {S : Type} (post : S → Prop) (D : va_G) (w1 : S → va_W) (A : Nat → Prop) : Array Value → State → Outcome → State → Prop := va_Qv post (fun u t => va_P D vwCl (w1 u) t.heap ∧ va_D A (w1 u)) A
theorem xMet {l : Launch} {y : MethodName} {ws ws' : List Cond} {rm : Room} {Pc : Array Value → State → Prop} {Qc : Array Value → State → Outcome → State → Prop} {mc ms : Nat} {free : Addr → Prop} {cc : ByteArray} {maxL : Nat} {ret : Option FieldType}
    (hy : plainFor y = true) (hw : ws = Cond.code y cc maxL ret :: ws')
    (body : ∀ p e s m args below meth c s₁, BodyLoose p l y (headSpec ws rm) cc maxL ret e s m args below meth c s₁ → c.maxLocals = maxL → Pc args s →
      W p l e (headSpec ws rm).room s m args below meth c s.heap [] 0 0 (MQ below Qc args s mc ms free) (entryFrame m args maxL)) : Met l y ws rm Pc Qc mc ms free := by
  refine MetFree.of_bodySF (code := cc) (maxLocals := maxL) (ret := ret) hy ?_ ?_
  · intro args s m h hn
    obtain ⟨meth, c, h1, h2, h3, h4, h5, h6, -, -⟩ := Cond.code_spec hn (atoms_spec (ws := ws) h _ (by rw [hw]; exact List.mem_cons_self))
    exact ⟨meth, c, h1, h2, h3, h4, h5, h6⟩
  · intro p e s m args below meth c s₁ B hml hP _
    have hh0 : s₁.heap = s.heap := by rw [B.state]; rfl
    obtain ⟨t, a1, o, b1, b2, b3⟩ := body p e s m args below meth c s₁ B hml hP s₁ hh0 (Stand.of_body B)
    exact ⟨t, o, a1, b1, b2, ⟨b3.1, b3.2⟩⟩
theorem xh {l : Launch} {y : MethodName} {cc : ByteArray} {maxL : Nat} {ret : Option FieldType} {rm : Room} {D : va_G} {T : List (ClassId × FieldType)} {ta : Nat} {sa sv : Nat → Nat} {av : List Value} {wc : va_W} {sz : Nat} {QA : (Nat → Prop) → Array Value → State → Outcome → State → Prop} {fr : (Nat → Prop) → Nat → Prop} {mc ms : Nat} (hy : plainFor y = true) (hlen : (lg_sl av).length ≤ maxL)
    (body : ∀ (p : Program) (e : Env) (s : State) (m : MethodId) (below : List Frame) (meth : Method) (c : Code) (ls : Array Slot) (A : Nat → Prop), CallFix p m c cc maxL s av.toArray (Cond.code y cc maxL ret :: wsU) y.cls → meth.sig.returnType = ret → meth.locks = false → meth.name = y.name → s.heap.size = sz → va_P D vwCl wc s.heap → va_K D vwCl T s → va_D A wc → XN sa s → ST ta sa sv A s s.heap → (∀ q : Nat, s.heap.size ≤ q → A q) → va_S A s.heap s.heap [] → lv_has ls maxL (lv_args 0 av) →
      W p l e rm s m av.toArray below meth c s.heap [] 0 0 (MQ below (QA A) av.toArray s mc ms (fr A)) (F0 m 0 ls [])) :
    Met l y (Cond.code y cc maxL ret :: wsU) rm (va_Pc av (XW D T ta sa sv wc sz)) (QA (va_A wc sz)) mc ms (fr (va_A wc sz)) := by
  refine xMet (cc := cc) (maxL := maxL) (ret := ret) hy rfl ?_
  intro p e s m args below meth c s₁ B hml hv
  obtain ⟨rfl, hsz, hP, hK, hD, hN, hZ⟩ := hv
  have hl := lv_entry av (n := maxL) hlen
  rw [lg_entry_eq]
  exact body p e s m below meth c _ (va_A wc sz) ⟨B.exec, B.bytes, hml, findClass_of_methodNamed B.named, atoms_spec (ws := _) B.pre⟩ B.returns B.notSynchronized (name_of_methodNamed B.named B.method).1 hsz hP hK hD.self hN hZ (fun _ h => Or.inr (by rw [← hsz]; exact h)) va_S.rf hl
theorem xsub {ws wc : va_W} {is : List Nat} (h : is.map (fun i => ws[i]?) = wc.map some) : is.filterMap (fun i => ws[i]?) = wc := by
  have e : is.filterMap (fun i => ws[i]?) = (is.map (fun i => ws[i]?)).filterMap id := by rw [List.filterMap_map]; rfl
  rw [e, h, List.filterMap_map]
  exact List.filterMap_some
section XR
variable {p : Program} {l : Launch} {e : Env} {R : Room} {s : State} {m : MethodId} {args : Array Value} {below : List Frame} {meth : Method} {c : Code} {H : Heap} {locs : List Loc} {cells slots : Nat} {Q : State → Prop}
variable {cc : ByteArray} {pc nL : Nat} {ls : Array Slot} {rest st0 : List Value} {D : va_G} {T : List (ClassId × FieldType)} {ta : Nat} {sa sv : Nat → Nat} {A : Nat → Prop} {ws : va_W} {c0 : Cond} {own : String}
theorem xl_i {x y : Int32} (h : x = y) (k : W p l e R s m args below meth c H locs cells slots Q (F0 m pc ls (.int y :: rest))) : W p l e R s m args below meth c H locs cells slots Q (F0 m pc ls (.int x :: rest)) := by subst h; exact k
theorem xl_v {v w : Value} (h : v = w) (k : W p l e R s m args below meth c H locs cells slots Q (F0 m pc ls (w :: rest))) : W p l e R s m args below meth c H locs cells slots Q (F0 m pc ls (v :: rest)) := by subst h; exact k
theorem xl_l {x y : Int64} (h : x = y) (k : W p l e R s m args below meth c H locs cells slots Q (F0 m pc ls (.long y :: rest))) : W p l e R s m args below meth c H locs cells slots Q (F0 m pc ls (.long x :: rest)) := by subst h; exact k
/-- a field of an object: where its word stands -/
def xWF (own : String) (index ci k : Nat) (C : String) (X : u_T) (N : Nat) : Prop := (∀ w ∈ u_ws C X N, w ∈ wsU) ∧ vwCl[ci]? = some (C, X, N) ∧ k < N ∧ Cond.fieldLink own index (X k).1 (X k).2.1 (X k).2.2.1 ∈ wsU
theorem xg (hF : CallFix p m c cc nL s args (c0 :: wsU) own) {index ci k : Nat} {C : String} {X : u_T} {N : Nat} (hw : xWF own index ci k C X N) (hK : va_K D vwCl T s) (hP : va_P D vwCl ws H) (q0 : Nat) {a : Nat} {fs : List Value} (he : ws[q0]? = some (a, .inr (ci, fs))) {v : Value} (hv : fs[k]? = some v) (hdg : decode cc pc = .ok (.getfield index, 3))
    (kk : W p l e R s m args below meth c H locs cells slots Q (F0 m (pc + 3) ls (v :: rest))) : W p l e R s m args below meth c H locs cells slots Q (F0 m pc ls (.ref a :: rest)) :=
  va_get (D := D) (C := C) (T := X) (N := N) (ref := (X k).1) hF.1 hF.2.1 hF.2.2.2.2 (fun w h => List.mem_cons_of_mem _ (hw.1 w h)) hF.2.2.2.1 hK hP q0 he hw.2.1 k hw.2.2.1 (hF.2.2.2.2 _ (List.mem_cons_of_mem _ hw.2.2.2)) (fun _ h => h) hv hdg kk
theorem xp (hF : CallFix p m c cc nL s args (c0 :: wsU) own) {index ci k : Nat} {C : String} {X : u_T} {N : Nat} (hw : xWF own index ci k C X N) {ty0 : Nat → FieldType} (hty : ∀ k, k < N → parseFieldDescriptor (X k).2.2.1 = some (ty0 k)) (hnm : ∀ a, a < N → ∀ b, b < N → a ≠ b → (X a).2.1 ≠ (X b).2.1) (hK : va_K D vwCl T s) (hP : va_P D vwCl ws H) (hD : va_D A ws) (hS : va_S A s.heap H locs) (q0 : Nat) {a : Nat} {fs : List Value} (he : ws[q0]? = some (a, .inr (ci, fs))) (hfin : (X k).2.2.2 = false) {v : Value} (hn : narrow (ty0 k) v = v) (hfit : fits (ty0 k) v = true) (hl : k < fs.length) (hdg : decode cc pc = .ok (.putfield index, 3))
    (kk : ∀ (H1 : Heap) (locs1 : List Loc), va_P D vwCl (ws.set q0 (a, .inr (ci, fs.set k v))) H1 → va_D A (ws.set q0 (a, .inr (ci, fs.set k v))) → va_S A s.heap H1 locs1 → W p l e R s m args below meth c H1 locs1 cells slots Q (F0 m (pc + 3) ls rest)) : W p l e R s m args below meth c H locs cells slots Q (F0 m pc ls (v :: .ref a :: rest)) :=
  va_put (D := D) (C := C) (T := X) (N := N) (ref := (X k).1) hF.1 hF.2.1 hF.2.2.2.2 (fun w h => List.mem_cons_of_mem _ (hw.1 w h)) ty0 hty hnm hF.2.2.2.1 hK hP hD hS q0 he hw.2.1 k hw.2.2.1 (hF.2.2.2.2 _ (List.mem_cons_of_mem _ hw.2.2.2)) (fun _ h => h) hfin (hty k hw.2.2.1) hn hfit hl hdg kk
theorem xpF (hF : CallFix p m c cc nL s args (c0 :: wsU) own) {index ci k : Nat} {C : String} {X : u_T} {N : Nat} (hw : xWF own index ci k C X N) {ty0 : Nat → FieldType} (hty : ∀ k, k < N → parseFieldDescriptor (X k).2.2.1 = some (ty0 k)) (hnm : ∀ a, a < N → ∀ b, b < N → a ≠ b → (X a).2.1 ≠ (X b).2.1) (hK : va_K D vwCl T s) (hP : va_P D vwCl ws H) (hD : va_D A ws) (hS : va_S A s.heap H locs) (q0 : Nat) {a : Nat} {fs : List Value} (he : ws[q0]? = some (a, .inr (ci, fs))) (hfin : (X k).2.2.2 = true) (hin : meth.name = "<init>") (hdecl : (X k).1 = own) {v : Value} (hn : narrow (ty0 k) v = v) (hfit : fits (ty0 k) v = true) (hl : k < fs.length) (hdg : decode cc pc = .ok (.putfield index, 3))
    (kk : ∀ (H1 : Heap) (locs1 : List Loc), va_P D vwCl (ws.set q0 (a, .inr (ci, fs.set k v))) H1 → va_D A (ws.set q0 (a, .inr (ci, fs.set k v))) → va_S A s.heap H1 locs1 → W p l e R s m args below meth c H1 locs1 cells slots Q (F0 m (pc + 3) ls rest)) : W p l e R s m args below meth c H locs cells slots Q (F0 m pc ls (v :: .ref a :: rest)) :=
  va_putF (D := D) (C := C) (T := X) (N := N) (ref := (X k).1) hF.1 hF.2.1 hF.2.2.2.2 (fun w h => List.mem_cons_of_mem _ (hw.1 w h)) ty0 hty hnm hF.2.2.2.1 hK hP hD hS q0 he hw.2.1 k hw.2.2.1 (hF.2.2.2.2 _ (List.mem_cons_of_mem _ hw.2.2.2)) (fun _ h => h) hfin hin hdecl (hty k hw.2.2.1) hn hfit hl hdg kk
variable {y : MethodName} {bytes : ByteArray} {maxL mc ms n index : Nat} {ret : Option FieldType} {rm : Room} {C : String} {b : Addr} {As : List Value} {wc wr : va_W}
theorem xPS (hK : va_K D vwCl T s) (hN : XN sa s) (hZ : ST ta sa sv A s s.heap) (hP : va_P D vwCl ws H) (hD : va_D A ws) (hS : va_S A s.heap H locs) (hA : ∀ q : Nat, s.heap.size ≤ q → A q) (isC : List Nat) (hC : isC.map (fun i => ws[i]?) = wc.map some) (hnC : va_nd isC = true) : PreS s H (va_Pc As (XW D T ta sa sv wc H.size)) As :=
  ⟨fun a U g mk q => ⟨q.1, q.2.1, q.2.2.1, va_K.moved (u := U) (U := U.calling g mk a) (Vm.Alike.refl U.vm) q.2.2.2.1, q.2.2.2.2.1, XN.same (u := U) (U := U.calling g mk a) rfl q.2.2.2.2.2.1, ST.moved (u := U) (U := U.calling g mk a) (Vm.Alike.refl U.vm) q.2.2.2.2.2.2⟩,
   fun U hU hW => ⟨rfl, by rw [hU], by rw [hU]; exact hP.sub isC (xsub hC), va_K.moved hW.alike hK, (hD.sub isC hnC hC).weaken (fun _ _ _ _ => trivial), XN.warm hW hN, by rw [hU]; exact ((hZ.kept hS.2.1).narrow (va_free (wc := wc) hD hS hA isC hC)).moved hW.alike⟩⟩
theorem xPV (hK : va_K D vwCl T s) (hN : XN sa s) (hZ : ST ta sa sv A s s.heap) (hP : va_P D vwCl ws H) (hD : va_D A ws) (hS : va_S A s.heap H locs) (hA : ∀ q : Nat, s.heap.size ≤ q → A q) (isC : List Nat) (hC : isC.map (fun i => ws[i]?) = wc.map some) (hnC : va_nd isC = true) (q0 : Nat) {ci : Nat} {fs : List Value} {cq : vw_C} (he : wc[q0]? = some (b, .inr (ci, fs))) (hc : vwCl[ci]? = some cq) (hcC : cq.1 = C) : PreV s H C b (va_Pc (.ref b :: As) (XW D T ta sa sv wc H.size)) As := by
  subst hcC
  exact ⟨(xPS (As := .ref b :: As) hK hN hZ hP hD hS hA isC hC hnC).1, va_recv hK (hP.sub isC (xsub hC)) hc he, (xPS (As := .ref b :: As) hK hN hZ hP hD hS hA isC hC hnC).2⟩
theorem xCW (hF : CallFix p m c cc nL s args (c0 :: wsU) own) (hw : xWV own index C y bytes maxL ret n) (hR : rm.cells = mc ∧ rm.slots = ms ∧ rm.frames + 1 ≤ R.frames ∧ 8 + (maxL + 11) + rm.locals ≤ R.locals) : CallW R s args own C index y bytes maxL ret (Cond.code y bytes maxL ret :: wsU) rm mc ms n := by
  have g : GoodIn (c0 :: wsU) (wsV own index C y (Cond.code y bytes maxL ret :: wsU)) := by
    refine goodIn_app ?_ (xU_cons hw.1.2.2.2.2)
    intro w h
    simp only [List.mem_cons, List.not_mem_nil, or_false] at h
    rcases h with rfl | rfl | rfl | rfl
    · exact xU_ok _ hw.1.1
    · exact xU_ok _ hw.1.2.1
    · exact xU_ok _ hw.1.2.2.1
    · exact xU_ok _ hw.1.2.2.2.1
  exact cwV n hF.2.2.2.2 g rfl hR.1 hR.2.1 hw.2 hR.2.2
theorem xCS (hF : CallFix p m c cc nL s args (c0 :: wsU) own) (hw : xWS own index y bytes maxL ret n) (hR : rm.cells = mc ∧ rm.slots = ms ∧ rm.frames + 1 ≤ R.frames ∧ 8 + (maxL + 11) + rm.locals ≤ R.locals) : CallB R s args own index y bytes maxL ret (Cond.code y bytes maxL ret :: wsU) rm mc ms n ∧ (Cond.static y).before args s = true :=
  have ok : ∀ w ∈ wsU, w.before args s = true := fun w h => hF.2.2.2.2 w (List.mem_cons_of_mem _ h)
  ⟨callB_of n hF.2.2.2.2 (xU_cons hw.1.2.2.2) rfl hR.1 hR.2.1 (ok _ hw.1.2.2.1) (ok _ hw.1.1) hw.2 hR.2.2, ok _ hw.1.2.1⟩
/-- RO: a call that only reads; int or boolean back -/
theorem xc_Vr (hF : CallFix p m c cc nL s args (c0 :: wsU) own) {post : Int32 → Prop} (hM : Met l y (Cond.code y bytes maxL ret :: wsU) rm (va_Pc (.ref b :: As) (XW D T ta sa sv wc H.size)) (vp_Si post) 0 0 (fun _ => False)) (hw : xWV own index C y bytes maxL ret n) (hR : rm.cells = 0 ∧ rm.slots = 0 ∧ rm.frames + 1 ≤ R.frames ∧ 8 + (maxL + 11) + rm.locals ≤ R.locals) (hf : cells ≤ R.cells ∧ slots ≤ R.slots)
    (hK : va_K D vwCl T s) (hN : XN sa s) (hZ : ST ta sa sv A s s.heap) (hP : va_P D vwCl ws H) (hD : va_D A ws) (hS : va_S A s.heap H locs) (hA : ∀ q : Nat, s.heap.size ≤ q → A q) (isC : List Nat) (hC : isC.map (fun i => ws[i]?) = wc.map some) (hnC : va_nd isC = true) (q0 : Nat) {ci : Nat} {fs : List Value} {cq : vw_C} (he : wc[q0]? = some (b, .inr (ci, fs))) (hc : vwCl[ci]? = some cq) (hcC : cq.1 = C)
    (hn : As.length = n) (hsz : ls.size = nL) (hst : st0 = As.reverse ++ .ref b :: rest) (hrest : (rest.map fun v => v.category).sum ≤ 8) (hdg : decode cc pc = .ok (.invokevirtual index, 3))
    (kk : ∀ r : Int32, post r → W p l e R s m args below meth c H locs cells slots Q (F0 m (pc + 3) ls (.int r :: rest))) : W p l e R s m args below meth c H locs cells slots Q (F0 m pc ls st0) := by
  subst hst
  exact vp_callSi (W.runV hF hM (xCW hF hw hR) (xPV hK hN hZ hP hD hS hA isC hC hnC q0 he hc hcC) rfl hn hsz rfl (lv_room hrest) hdg ⟨hf.1, hf.2⟩) kk
theorem xc_Vrv (hF : CallFix p m c cc nL s args (c0 :: wsU) own) {post : Unit → Prop} (hM : Met l y (Cond.code y bytes maxL ret :: wsU) rm (va_Pc (.ref b :: As) (XW D T ta sa sv wc H.size)) (va_Sv post) 0 0 (fun _ => False)) (hw : xWV own index C y bytes maxL ret n) (hR : rm.cells = 0 ∧ rm.slots = 0 ∧ rm.frames + 1 ≤ R.frames ∧ 8 + (maxL + 11) + rm.locals ≤ R.locals) (hf : cells ≤ R.cells ∧ slots ≤ R.slots)
    (hK : va_K D vwCl T s) (hN : XN sa s) (hZ : ST ta sa sv A s s.heap) (hP : va_P D vwCl ws H) (hD : va_D A ws) (hS : va_S A s.heap H locs) (hA : ∀ q : Nat, s.heap.size ≤ q → A q) (isC : List Nat) (hC : isC.map (fun i => ws[i]?) = wc.map some) (hnC : va_nd isC = true) (q0 : Nat) {ci : Nat} {fs : List Value} {cq : vw_C} (he : wc[q0]? = some (b, .inr (ci, fs))) (hc : vwCl[ci]? = some cq) (hcC : cq.1 = C)
    (hn : As.length = n) (hsz : ls.size = nL) (hst : st0 = As.reverse ++ .ref b :: rest) (hrest : (rest.map fun v => v.category).sum ≤ 8) (hdg : decode cc pc = .ok (.invokevirtual index, 3))
    (kk : post () → W p l e R s m args below meth c H locs cells slots Q (F0 m (pc + 3) ls rest)) : W p l e R s m args below meth c H locs cells slots Q (F0 m pc ls st0) := by
  subst hst
  exact va_csv (W.runV hF hM (xCW hF hw hR) (xPV hK hN hZ hP hD hS hA isC hC hnC q0 he hc hcC) rfl hn hsz rfl (lv_room hrest) hdg ⟨hf.1, hf.2⟩) kk
theorem xc_Sr (hF : CallFix p m c cc nL s args (c0 :: wsU) own) {post : Int32 → Prop} (hM : Met l y (Cond.code y bytes maxL ret :: wsU) rm (va_Pc As (XW D T ta sa sv wc H.size)) (vp_Si post) 0 0 (fun _ => False)) (hw : xWS own index y bytes maxL ret n) (hR : rm.cells = 0 ∧ rm.slots = 0 ∧ rm.frames + 1 ≤ R.frames ∧ 8 + (maxL + 11) + rm.locals ≤ R.locals) (hf : cells ≤ R.cells ∧ slots ≤ R.slots)
    (hK : va_K D vwCl T s) (hN : XN sa s) (hZ : ST ta sa sv A s s.heap) (hP : va_P D vwCl ws H) (hD : va_D A ws) (hS : va_S A s.heap H locs) (hA : ∀ q : Nat, s.heap.size ≤ q → A q) (isC : List Nat) (hC : isC.map (fun i => ws[i]?) = wc.map some) (hnC : va_nd isC = true)
    (hn : As.length = n) (hsz : ls.size = nL) (hst : st0 = As.reverse ++ rest) (hrest : (rest.map fun v => v.category).sum ≤ 8) (hdg : decode cc pc = .ok (.invokestatic index, 3))
    (kk : ∀ r : Int32, post r → W p l e R s m args below meth c H locs cells slots Q (F0 m (pc + 3) ls (.int r :: rest))) : W p l e R s m args below meth c H locs cells slots Q (F0 m pc ls st0) := by
  subst hst
  exact vp_callSi (W.runS hF hM (xCS hF hw hR) (xPS hK hN hZ hP hD hS hA isC hC hnC) rfl hn hsz rfl (lv_room hrest) hdg ⟨hf.1, hf.2⟩) kk
theorem xc_Srv (hF : CallFix p m c cc nL s args (c0 :: wsU) own) {post : Unit → Prop} (hM : Met l y (Cond.code y bytes maxL ret :: wsU) rm (va_Pc As (XW D T ta sa sv wc H.size)) (va_Sv post) 0 0 (fun _ => False)) (hw : xWS own index y bytes maxL ret n) (hR : rm.cells = 0 ∧ rm.slots = 0 ∧ rm.frames + 1 ≤ R.frames ∧ 8 + (maxL + 11) + rm.locals ≤ R.locals) (hf : cells ≤ R.cells ∧ slots ≤ R.slots)
    (hK : va_K D vwCl T s) (hN : XN sa s) (hZ : ST ta sa sv A s s.heap) (hP : va_P D vwCl ws H) (hD : va_D A ws) (hS : va_S A s.heap H locs) (hA : ∀ q : Nat, s.heap.size ≤ q → A q) (isC : List Nat) (hC : isC.map (fun i => ws[i]?) = wc.map some) (hnC : va_nd isC = true)
    (hn : As.length = n) (hsz : ls.size = nL) (hst : st0 = As.reverse ++ rest) (hrest : (rest.map fun v => v.category).sum ≤ 8) (hdg : decode cc pc = .ok (.invokestatic index, 3))
    (kk : post () → W p l e R s m args below meth c H locs cells slots Q (F0 m (pc + 3) ls rest)) : W p l e R s m args below meth c H locs cells slots Q (F0 m pc ls st0) := by
  subst hst
  exact va_csv (W.runS hF hM (xCS hF hw hR) (xPS hK hN hZ hP hD hS hA isC hC hnC) rfl hn hsz rfl (lv_room hrest) hdg ⟨hf.1, hf.2⟩) kk
/-- a static method of a nest mate, that only reads -/
theorem xc_SNr (hF : CallFix p m c cc nL s args (c0 :: wsU) own) {post : Int32 → Prop} {host : String} (hM : Met l y (Cond.code y bytes maxL ret :: wsU) rm (va_Pc As (XW D T ta sa sv wc H.size)) (vp_Si post) 0 0 (fun _ => False)) (hwc : Cond.code y bytes maxL ret ∈ wsU ∧ Cond.static y ∈ wsU ∧ Cond.initialized y.cls ∈ wsU) (hwd : y.cls ≠ "java/lang/invoke/MethodHandle" ∧ y.cls ≠ "java/lang/invoke/VarHandle" ∧ (parseMethodDescriptor y.desc).map (fun d => d.parameters.length) = some n) (hne : Cond.methodLinkNest own index y host ∈ xNest) (hR : rm.cells = 0 ∧ rm.slots = 0 ∧ rm.frames + 1 ≤ R.frames ∧ 8 + (maxL + 11) + rm.locals ≤ R.locals) (hf : cells ≤ R.cells ∧ slots ≤ R.slots)
    (hK : va_K D vwCl T s) (hN : XN sa s) (hZ : ST ta sa sv A s s.heap) (hP : va_P D vwCl ws H) (hD : va_D A ws) (hS : va_S A s.heap H locs) (hA : ∀ q : Nat, s.heap.size ≤ q → A q) (isC : List Nat) (hC : isC.map (fun i => ws[i]?) = wc.map some) (hnC : va_nd isC = true)
    (hn : As.length = n) (hsz : ls.size = nL) (hst : st0 = As.reverse ++ rest) (hrest : (rest.map fun v => v.category).sum ≤ 8) (hdg : decode cc pc = .ok (.invokestatic index, 3))
    (kk : ∀ r : Int32, post r → W p l e R s m args below meth c H locs cells slots Q (F0 m (pc + 3) ls (.int r :: rest))) : W p l e R s m args below meth c H locs cells slots Q (F0 m pc ls st0) := by
  subst hst
  have ok : ∀ w ∈ wsU, w.before args s = true := fun w h => hF.2.2.2.2 w (List.mem_cons_of_mem _ h)
  exact vp_callSi (va_Run.run (va_runSN hF hM ⟨va_cnB (host := host) n hF.2.2.2.2 (xU_cons hwc.1) rfl hR.1 hR.2.1 (hN.1 _ hne) (ok _ hwc.2.2) hwd hR.2.2, ok _ hwc.2.1, trivial⟩ (xPS hK hN hZ hP hD hS hA isC hC hnC) rfl hn hsz rfl (lv_room hrest) hdg ⟨hf.1, hf.2⟩)) kk
/-- a method of a String constant, that only reads -/
theorem xc_Kr (hF : CallFix p m c cc nL s args (c0 :: wsU) own) {post : Int32 → Prop} (hM : Met l y (Cond.code y bytes maxL ret :: wsU) rm (va_Pc (.ref b :: As) (XW D T ta sa sv wc H.size)) (vp_Si post) 0 0 (fun _ => False)) (hw : xWV own index "java/lang/String" y bytes maxL ret n) (hR : rm.cells = 0 ∧ rm.slots = 0 ∧ rm.frames + 1 ≤ R.frames ∧ 8 + (maxL + 11) + rm.locals ≤ R.locals) (hf : cells ≤ R.cells ∧ slots ≤ R.slots)
    (hK : va_K D vwCl T s) (hN : XN sa s) (hZ : ST ta sa sv A s s.heap) (hP : va_P D vwCl ws H) (hD : va_D A ws) (hS : va_S A s.heap H locs) (hA : ∀ q : Nat, s.heap.size ≤ q → A q) (isC : List Nat) (hC : isC.map (fun i => ws[i]?) = wc.map some) (hnC : va_nd isC = true) {i : Nat} (hi : i < 8) (hbi : b = sa i)
    (hn : As.length = n) (hsz : ls.size = nL) (hst : st0 = As.reverse ++ .ref b :: rest) (hrest : (rest.map fun v => v.category).sum ≤ 8) (hdg : decode cc pc = .ok (.invokevirtual index, 3))
    (kk : ∀ r : Int32, post r → W p l e R s m args below meth c H locs cells slots Q (F0 m (pc + 3) ls (.int r :: rest))) : W p l e R s m args below meth c H locs cells slots Q (F0 m pc ls st0) := by
  subst hst
  subst hbi
  have q := xPS (As := .ref (sa i) :: As) hK hN hZ hP hD hS hA isC hC hnC
  exact vp_callSi (W.runV hF hM (xCW hF hw hR) ⟨q.1, vk_recv hZ.2.2.2 hi hS, q.2⟩ rfl hn hsz rfl (lv_room hrest) hdg ⟨hf.1, hf.2⟩) kk
/-- RW: a call that may write its cells; the cells wr stay beside it -/
theorem xc_Vi (hF : CallFix p m c cc nL s args (c0 :: wsU) own) {S : Type} {post : Int32 → S → Prop} {w1 : S → va_W} (hM : Met l y (Cond.code y bytes maxL ret :: wsU) rm (va_Pc (.ref b :: As) (XW D T ta sa sv wc H.size)) (XQi post D w1 (va_A wc H.size)) 0 0 (va_A wc H.size)) (hw : xWV own index C y bytes maxL ret n) (hR : rm.cells = 0 ∧ rm.slots = 0 ∧ rm.frames + 1 ≤ R.frames ∧ 8 + (maxL + 11) + rm.locals ≤ R.locals) (hf : cells ≤ R.cells ∧ slots ≤ R.slots)
    (hK : va_K D vwCl T s) (hN : XN sa s) (hZ : ST ta sa sv A s s.heap) (hP : va_P D vwCl ws H) (hD : va_D A ws) (hS : va_S A s.heap H locs) (hA : ∀ q : Nat, s.heap.size ≤ q → A q) (isC isR : List Nat) (hC : isC.map (fun i => ws[i]?) = wc.map some) (hRr : isR.map (fun i => ws[i]?) = wr.map some) (hnC : va_nd isC = true) (hnR : va_nd isR = true) (hdis : ∀ i ∈ isR, i ∉ isC) (q0 : Nat) {ci : Nat} {fs : List Value} {cq : vw_C} (he : wc[q0]? = some (b, .inr (ci, fs))) (hc : vwCl[ci]? = some cq) (hcC : cq.1 = C)
    (hn : As.length = n) (hsz : ls.size = nL) (hst : st0 = As.reverse ++ .ref b :: rest) (hrest : (rest.map fun v => v.category).sum ≤ 8) (hdg : decode cc pc = .ok (.invokevirtual index, 3))
    (kk : ∀ (r : Int32) (u : S) (H1 : Heap) (locs1 : List Loc), post r u → va_P D vwCl (wr ++ w1 u) H1 → va_D A (wr ++ w1 u) → va_S A s.heap H1 locs1 → W p l e R s m args below meth c H1 locs1 cells slots Q (F0 m (pc + 3) ls (.int r :: rest))) : W p l e R s m args below meth c H locs cells slots Q (F0 m pc ls st0) := by
  subst hst
  have hFc := va_free (wc := wc) hD hS hA isC hC
  refine va_calli (va_runV hF hM (xCW hF hw hR) (xPV hK hN hZ hP hD hS hA isC hC hnC q0 he hc hcC) rfl hn hsz rfl (lv_room hrest) hdg ⟨hf.1, hf.2⟩) hS (fun q _ h => hFc q h) hFc (fun r u t H1 locs1 ht hvm hp hB hz hk hS1 => ?_)
  obtain ⟨hP1, hD1⟩ := hB
  rw [ht] at hP1
  obtain ⟨hP2, hD2⟩ := va_join (wr := wr) (w1 := w1 u) hP hD isC isR hC hRr hnR hdis hk hFc hP1 hD1
  exact kk r u H1 locs1 hp hP2 hD2 hS1
theorem xc_Vl (hF : CallFix p m c cc nL s args (c0 :: wsU) own) {S : Type} {post : Int64 → S → Prop} {w1 : S → va_W} (hM : Met l y (Cond.code y bytes maxL ret :: wsU) rm (va_Pc (.ref b :: As) (XW D T ta sa sv wc H.size)) (XQl post D w1 (va_A wc H.size)) 0 0 (va_A wc H.size)) (hw : xWV own index C y bytes maxL ret n) (hR : rm.cells = 0 ∧ rm.slots = 0 ∧ rm.frames + 1 ≤ R.frames ∧ 8 + (maxL + 11) + rm.locals ≤ R.locals) (hf : cells ≤ R.cells ∧ slots ≤ R.slots)
    (hK : va_K D vwCl T s) (hN : XN sa s) (hZ : ST ta sa sv A s s.heap) (hP : va_P D vwCl ws H) (hD : va_D A ws) (hS : va_S A s.heap H locs) (hA : ∀ q : Nat, s.heap.size ≤ q → A q) (isC isR : List Nat) (hC : isC.map (fun i => ws[i]?) = wc.map some) (hRr : isR.map (fun i => ws[i]?) = wr.map some) (hnC : va_nd isC = true) (hnR : va_nd isR = true) (hdis : ∀ i ∈ isR, i ∉ isC) (q0 : Nat) {ci : Nat} {fs : List Value} {cq : vw_C} (he : wc[q0]? = some (b, .inr (ci, fs))) (hc : vwCl[ci]? = some cq) (hcC : cq.1 = C)
    (hn : As.length = n) (hsz : ls.size = nL) (hst : st0 = As.reverse ++ .ref b :: rest) (hrest : (rest.map fun v => v.category).sum ≤ 8) (hdg : decode cc pc = .ok (.invokevirtual index, 3))
    (kk : ∀ (r : Int64) (u : S) (H1 : Heap) (locs1 : List Loc), post r u → va_P D vwCl (wr ++ w1 u) H1 → va_D A (wr ++ w1 u) → va_S A s.heap H1 locs1 → W p l e R s m args below meth c H1 locs1 cells slots Q (F0 m (pc + 3) ls (.long r :: rest))) : W p l e R s m args below meth c H locs cells slots Q (F0 m pc ls st0) := by
  subst hst
  have hFc := va_free (wc := wc) hD hS hA isC hC
  refine va_calll (va_runV hF hM (xCW hF hw hR) (xPV hK hN hZ hP hD hS hA isC hC hnC q0 he hc hcC) rfl hn hsz rfl (lv_room hrest) hdg ⟨hf.1, hf.2⟩) hS (fun q _ h => hFc q h) hFc (fun r u t H1 locs1 ht hvm hp hB hz hk hS1 => ?_)
  obtain ⟨hP1, hD1⟩ := hB
  rw [ht] at hP1
  obtain ⟨hP2, hD2⟩ := va_join (wr := wr) (w1 := w1 u) hP hD isC isR hC hRr hnR hdis hk hFc hP1 hD1
  exact kk r u H1 locs1 hp hP2 hD2 hS1
theorem xc_Vv (hF : CallFix p m c cc nL s args (c0 :: wsU) own) {S : Type} {post : S → Prop} {w1 : S → va_W} (hM : Met l y (Cond.code y bytes maxL ret :: wsU) rm (va_Pc (.ref b :: As) (XW D T ta sa sv wc H.size)) (XQv post D w1 (va_A wc H.size)) 0 0 (va_A wc H.size)) (hw : xWV own index C y bytes maxL ret n) (hR : rm.cells = 0 ∧ rm.slots = 0 ∧ rm.frames + 1 ≤ R.frames ∧ 8 + (maxL + 11) + rm.locals ≤ R.locals) (hf : cells ≤ R.cells ∧ slots ≤ R.slots)
    (hK : va_K D vwCl T s) (hN : XN sa s) (hZ : ST ta sa sv A s s.heap) (hP : va_P D vwCl ws H) (hD : va_D A ws) (hS : va_S A s.heap H locs) (hA : ∀ q : Nat, s.heap.size ≤ q → A q) (isC isR : List Nat) (hC : isC.map (fun i => ws[i]?) = wc.map some) (hRr : isR.map (fun i => ws[i]?) = wr.map some) (hnC : va_nd isC = true) (hnR : va_nd isR = true) (hdis : ∀ i ∈ isR, i ∉ isC) (q0 : Nat) {ci : Nat} {fs : List Value} {cq : vw_C} (he : wc[q0]? = some (b, .inr (ci, fs))) (hc : vwCl[ci]? = some cq) (hcC : cq.1 = C)
    (hn : As.length = n) (hsz : ls.size = nL) (hst : st0 = As.reverse ++ .ref b :: rest) (hrest : (rest.map fun v => v.category).sum ≤ 8) (hdg : decode cc pc = .ok (.invokevirtual index, 3))
    (kk : ∀ (u : S) (H1 : Heap) (locs1 : List Loc), post u → va_P D vwCl (wr ++ w1 u) H1 → va_D A (wr ++ w1 u) → va_S A s.heap H1 locs1 → W p l e R s m args below meth c H1 locs1 cells slots Q (F0 m (pc + 3) ls rest)) : W p l e R s m args below meth c H locs cells slots Q (F0 m pc ls st0) := by
  subst hst
  have hFc := va_free (wc := wc) hD hS hA isC hC
  refine va_callv (va_runV hF hM (xCW hF hw hR) (xPV hK hN hZ hP hD hS hA isC hC hnC q0 he hc hcC) rfl hn hsz rfl (lv_room hrest) hdg ⟨hf.1, hf.2⟩) hS (fun q _ h => hFc q h) hFc (fun u t H1 locs1 ht hvm hp hB hz hk hS1 => ?_)
  obtain ⟨hP1, hD1⟩ := hB
  rw [ht] at hP1
  obtain ⟨hP2, hD2⟩ := va_join (wr := wr) (w1 := w1 u) hP hD isC isR hC hRr hnR hdis hk hFc hP1 hD1
  exact kk u H1 locs1 hp hP2 hD2 hS1
/-- a constructor of a nest mate -/
theorem xc_IN (hF : CallFix p m c cc nL s args (c0 :: wsU) own) {S : Type} {post : S → Prop} {w1 : S → va_W} {host : String} (hM : Met l y (Cond.code y bytes maxL none :: wsU) rm (va_Pc (.ref b :: As) (XW D T ta sa sv wc H.size)) (XQv post D w1 (va_A wc H.size)) mc ms (va_A wc H.size)) (hwc : Cond.code y bytes maxL none ∈ wsU ∧ Cond.instanceMethod y ∈ wsU ∧ Cond.initialized y.cls ∈ wsU) (hwd : y.name = "<init>" ∧ y.cls ≠ "java/lang/invoke/MethodHandle" ∧ y.cls ≠ "java/lang/invoke/VarHandle" ∧ (parseMethodDescriptor y.desc).map (fun d => d.parameters.length) = some n) (hne : Cond.methodLinkNest own index y host ∈ xNest) (hR : rm.cells = mc ∧ rm.slots = ms ∧ rm.frames + 1 ≤ R.frames ∧ 8 + (maxL + 11) + rm.locals ≤ R.locals) (hf : cells + mc ≤ R.cells ∧ slots + ms ≤ R.slots)
    (hK : va_K D vwCl T s) (hN : XN sa s) (hZ : ST ta sa sv A s s.heap) (hP : va_P D vwCl ws H) (hD : va_D A ws) (hS : va_S A s.heap H locs) (hA : ∀ q : Nat, s.heap.size ≤ q → A q) (isC isR : List Nat) (hC : isC.map (fun i => ws[i]?) = wc.map some) (hRr : isR.map (fun i => ws[i]?) = wr.map some) (hnC : va_nd isC = true) (hnR : va_nd isR = true) (hdis : ∀ i ∈ isR, i ∉ isC)
    (hn : As.length = n) (hsz : ls.size = nL) (hst : st0 = As.reverse ++ .ref b :: rest) (hrest : (rest.map fun v => v.category).sum ≤ 8) (hdg : decode cc pc = .ok (.invokespecial index, 3))
    (kk : ∀ (u : S) (H1 : Heap) (locs1 : List Loc), post u → va_P D vwCl (wr ++ w1 u) H1 → va_D A (wr ++ w1 u) → va_S A s.heap H1 locs1 → W p l e R s m args below meth c H1 locs1 (cells + mc) (slots + ms) Q (F0 m (pc + 3) ls rest)) : W p l e R s m args below meth c H locs cells slots Q (F0 m pc ls st0) := by
  subst hst
  have ok : ∀ w ∈ wsU, w.before args s = true := fun w h => hF.2.2.2.2 w (List.mem_cons_of_mem _ h)
  have hFc := va_free (wc := wc) hD hS hA isC hC
  refine va_callv (va_runIN hF hM ⟨va_cnB (host := host) n hF.2.2.2.2 (xU_cons hwc.1) rfl hR.1 hR.2.1 (hN.1 _ hne) (ok _ hwc.2.2) hwd.2 hR.2.2, hwd.1, ok _ hwc.2.1⟩ (xPS hK hN hZ hP hD hS hA isC hC hnC) rfl hn hsz rfl (lv_room hrest) hdg hf) hS (fun q _ h => hFc q h) hFc (fun u t H1 locs1 ht hvm hp hB hz hk hS1 => ?_)
  obtain ⟨hP1, hD1⟩ := hB
  rw [ht] at hP1
  obtain ⟨hP2, hD2⟩ := va_join (wr := wr) (w1 := w1 u) hP hD isC isR hC hRr hnR hdis hk hFc hP1 hD1
  exact kk u H1 locs1 hp hP2 hD2 hS1
/-- .. linked the plain way -/
theorem xc_I (hF : CallFix p m c cc nL s args (c0 :: wsU) own) {S : Type} {post : S → Prop} {w1 : S → va_W} (hM : Met l y (Cond.code y bytes maxL none :: wsU) rm (va_Pc (.ref b :: As) (XW D T ta sa sv wc H.size)) (XQv post D w1 (va_A wc H.size)) mc ms (va_A wc H.size)) (hw : xWI own index y bytes maxL n) (hR : rm.cells = mc ∧ rm.slots = ms ∧ rm.frames + 1 ≤ R.frames ∧ 8 + (maxL + 11) + rm.locals ≤ R.locals) (hf : cells + mc ≤ R.cells ∧ slots + ms ≤ R.slots)
    (hK : va_K D vwCl T s) (hN : XN sa s) (hZ : ST ta sa sv A s s.heap) (hP : va_P D vwCl ws H) (hD : va_D A ws) (hS : va_S A s.heap H locs) (hA : ∀ q : Nat, s.heap.size ≤ q → A q) (isC isR : List Nat) (hC : isC.map (fun i => ws[i]?) = wc.map some) (hRr : isR.map (fun i => ws[i]?) = wr.map some) (hnC : va_nd isC = true) (hnR : va_nd isR = true) (hdis : ∀ i ∈ isR, i ∉ isC)
    (hn : As.length = n) (hsz : ls.size = nL) (hst : st0 = As.reverse ++ .ref b :: rest) (hrest : (rest.map fun v => v.category).sum ≤ 8) (hdg : decode cc pc = .ok (.invokespecial index, 3))
    (kk : ∀ (u : S) (H1 : Heap) (locs1 : List Loc), post u → va_P D vwCl (wr ++ w1 u) H1 → va_D A (wr ++ w1 u) → va_S A s.heap H1 locs1 → W p l e R s m args below meth c H1 locs1 (cells + mc) (slots + ms) Q (F0 m (pc + 3) ls rest)) : W p l e R s m args below meth c H locs cells slots Q (F0 m pc ls st0) := by
  subst hst
  have ok : ∀ w ∈ wsU, w.before args s = true := fun w h => hF.2.2.2.2 w (List.mem_cons_of_mem _ h)
  have hFc := va_free (wc := wc) hD hS hA isC hC
  refine va_callv (va_runI hF hM ⟨callB_of n hF.2.2.2.2 (xU_cons hw.1.2.2.2) rfl hR.1 hR.2.1 (ok _ hw.1.2.2.1) (ok _ hw.1.1) hw.2.2 hR.2.2, hw.2.1, ok _ hw.1.2.1⟩ (xPS hK hN hZ hP hD hS hA isC hC hnC) rfl hn hsz rfl (lv_room hrest) hdg hf) hS (fun q _ h => hFc q h) hFc (fun u t H1 locs1 ht hvm hp hB hz hk hS1 => ?_)
  obtain ⟨hP1, hD1⟩ := hB
  rw [ht] at hP1
  obtain ⟨hP2, hD2⟩ := va_join (wr := wr) (w1 := w1 u) hP hD isC isR hC hRr hnR hdis hk hFc hP1 hD1
  exact kk u H1 locs1 hp hP2 hD2 hS1
/-- a new array of a class that is known -/
theorem xna (hF : CallFix p m c cc nL s args (c0 :: wsU) own) {atype : ArrayType} {ty : FieldType} (hty : newarray.typeOf atype = ty) (harr : Cond.arrayClass (newarray.typeOf atype) ∈ wsU) (hK : va_K D vwCl T s) (hP : va_P D vwCl ws H) (hD : va_D A ws) (hS : va_S A s.heap H locs) (hA : ∀ q : Nat, s.heap.size ≤ q → A q) (t0 : Nat) {cA0 : ClassId} (ht : T[t0]? = some (cA0, ty)) (huq : ∀ cA, va_RA s cA ty → va_RA s cA0 ty → cA = cA0)
    {n : Int32} {N' : Nat} {a0 : vp_A} (ha : ∀ cA : ClassId, vp_cell cA a0 = arrV cA N' (fun _ => defaultValue ty)) (hn : ¬ n < 0) (hN : n.toNatClampNeg = N') (hbytes : N' * componentBytes ty ≤ 536870912) (hcells : cells + 1 ≤ R.cells) (hslots : slots + N' ≤ R.slots) (hdg : decode cc pc = .ok (.newarray atype, 2))
    (kk : ∀ (q : Nat) (H1 : Heap), va_P D vwCl (ws ++ [(q, .inl (cA0, a0))]) H1 → va_D A (ws ++ [(q, .inl (cA0, a0))]) → va_S A s.heap H1 locs →
      W p l e R s m args below meth c H1 locs (cells + 1) (slots + N') Q (F0 m (pc + 2) ls (.ref q :: rest))) : W p l e R s m args below meth c H locs cells slots Q (F0 m pc ls (.int n :: rest)) := by
  refine va_newa (atype := atype) hF.1 hF.2.1 (hF.2.2.2.2 _ (List.mem_cons_of_mem _ harr)) hty hK hP hD hS hA ha hn hN hbytes hcells hslots hdg (fun q cA H1 hK1 hP1 hD1 hS1 => ?_)
  have e1 : cA = cA0 := huq cA (hK1.2 T.length (cA, ty) (by simp)).2 (hK.2 t0 _ ht).2
  subst e1
  exact kk q H1 hP1 hD1 hS1
/-- .. of the sheets -/
theorem xnq (hF : CallFix p m c cc nL s args (c0 :: wsU) own) {index : Nat} (hcl : (Cond.classLink own index RX4).before args s = true) (hN : XN sa s) (hK : va_K D vwCl T s) (hP : va_P D vwCl ws H) (hD : va_D A ws) (hS : va_S A s.heap H locs) (hA : ∀ q : Nat, s.heap.size ≤ q → A q) (t0 : Nat) {cA0 : ClassId} (ht : T[t0]? = some (cA0, .object RX4))
    {n : Int32} {N' : Nat} (hn : ¬ n < 0) (hN' : n.toNatClampNeg = N') (hbytes : N' * 4 ≤ 536870912) (hcells : cells + 1 ≤ R.cells) (hslots : slots + N' ≤ R.slots) (hdg : decode cc pc = .ok (.anewarray index, 3))
    (kk : ∀ (q : Nat) (H1 : Heap), va_P D vwCl (ws ++ [(q, .inl (cA0, N', .inr (.inr (.inr (.inr (fun _ => none))))))]) H1 → va_D A (ws ++ [(q, .inl (cA0, N', .inr (.inr (.inr (.inr (fun _ => none))))))]) → va_S A s.heap H1 locs →
      W p l e R s m args below meth c H1 locs (cells + 1) (slots + N') Q (F0 m (pc + 3) ls (.ref q :: rest))) : W p l e R s m args below meth c H locs cells slots Q (F0 m pc ls (.int n :: rest)) := by
  refine va_newq hF.1 hF.2.1 hF.2.2.2.1 hcl hN.2.1 hK hP hD hS hA hn hN' hbytes hcells hslots hdg (fun q cA H1 hK1 hP1 hD1 hS1 => ?_)
  have h1 : va_RA s cA (.object RX4) := (hK1.2 T.length (cA, .object RX4) (by simp)).2
  have h2 : va_RA s cA0 (.object RX4) := (hK.2 t0 _ ht).2
  obtain ⟨-, -, -, -, -, e1⟩ := h1
  obtain ⟨-, -, -, -, -, e2⟩ := h2
  have e3 : cA = cA0 := Option.some.inj (e1.symm.trans e2)
  subst e3
  exact kk q H1 hP1 hD1 hS1
end XR
theorem xuq_int {s : State} {a b : ClassId} (h1 : va_RA s a .int) (h2 : va_RA s b .int) : a = b := Option.some.inj ((va_nm_int h1).symm.trans (va_nm_int h2))
theorem xuq_long {s : State} {a b : ClassId} (h1 : va_RA s a .long) (h2 : va_RA s b .long) : a = b := Option.some.inj ((va_nm_long h1).symm.trans (va_nm_long h2))
theorem xuq_boolean {s : State} {a b : ClassId} (h1 : va_RA s a .boolean) (h2 : va_RA s b .boolean) : a = b := Option.some.inj ((va_nm_boolean h1).symm.trans (va_nm_boolean h2))
/-- numbers by their places -/
theorem xn_lt {a b : Nat} (ha : a < 2 ^ 31) (hb : b < 2 ^ 31) (h : nI a < nI b) : a < b := (nI_ltI ha hb).mp h
theorem xn_nlt {a b : Nat} (ha : a < 2 ^ 31) (hb : b < 2 ^ 31) (h : ¬ nI a < nI b) : b ≤ a := Nat.not_lt.mp (fun q => h ((nI_ltI ha hb).mpr q))
theorem xn_le {a b : Nat} (ha : a < 2 ^ 31) (hb : b < 2 ^ 31) (h : nI a ≤ nI b) : a ≤ b := (nI_leI ha hb).mp h
theorem xn_nle {a b : Nat} (ha : a < 2 ^ 31) (hb : b < 2 ^ 31) (h : ¬ nI a ≤ nI b) : b < a := Nat.not_le.mp (fun q => h ((nI_leI ha hb).mpr q))
theorem xn_eq {a b : Nat} (ha : a < 2 ^ 31) (hb : b < 2 ^ 31) (h : nI a = nI b) : a = b := (nI_eq ha hb).mp h
theorem xn_ne {a b : Nat} (ha : a < 2 ^ 31) (hb : b < 2 ^ 31) (h : ¬ nI a = nI b) : a ≠ b := fun q => h ((nI_eq ha hb).mpr q)
/-- an array of small numbers -/
def BA (n B : Nat) (f : Nat → Int32) : Prop := ∀ j, j < n → ∃ q, q < B ∧ f j = nI q
theorem BA.upd {n B k q : Nat} {f : Nat → Int32} (h : BA n B f) (hq : q < B) : BA n B (upd f k (nI q)) := by
  intro j hj
  by_cases e : j = k
  · subst e; exact ⟨q, hq, pk_us⟩
  · obtain ⟨q2, h1, h2⟩ := h j hj
    exact ⟨q2, h1, (pk_un e).trans h2⟩
theorem BA.cpy {n m B a b : Nat} {f g : Nat → Int32} (hf : BA n B f) (hg : BA m B g) (c : Nat) (h : a + c ≤ n) : BA m B (va_cpy f g a b c) := by
  intro j hj
  unfold va_cpy
  split
  · exact hf _ (by omega)
  · exact hg j hj
theorem BA.zero {n B : Nat} (h : 0 < B) : BA n B (fun _ => 0) := fun _ _ => ⟨0, h, rfl⟩
theorem xin (k n : Nat) (h : k < n) (hn : n < 2 ^ 31) : vp_in (OfNat.ofNat k : Int32) n := vp_in_nI h hn
theorem xcpy0 (a b n : Nat) : va_cpy (fun _ => (0 : Int32)) (fun _ => (0 : Int32)) a b n = fun _ => (0 : Int32) := by
  funext k
  unfold va_cpy
  split <;> rfl
theorem xnl {a b : Int32} (h : ¬ a < b) : b ≤ a := Int32.not_lt.mp h
theorem xlt {a b : Int32} (h : ¬ b ≤ a) : a < b := Int32.not_le.mp h
theorem xw_lt (a b : Int32) : a.toInt64 < b.toInt64 ↔ a < b := by
  rw [Int64.lt_iff_toInt_lt, Int32.lt_iff_toInt_lt, Int32.toInt_toInt64, Int32.toInt_toInt64]
theorem xq_lt (x y : Int64) : lg_cmp x y < 0 ↔ x < y := by
  have h := lg_cmp_ge x y
  rw [← Int32.not_le, h, Int64.not_le]
theorem xq_gt (x y : Int64) : 0 < lg_cmp x y ↔ y < x := by
  unfold lg_cmp
  by_cases h1 : y < x
  · simp [h1]
  · by_cases h2 : x = y
    · subst h2; simp
    · simp [h1, h2]
theorem xq1 {a b : Int32} : lg_cmp a.toInt64 b.toInt64 < 0 ↔ a < b := (xq_lt _ _).trans (xw_lt a b)
theorem xq2 {a b : Int32} : 0 < lg_cmp a.toInt64 b.toInt64 ↔ b < a := (xq_gt _ _).trans (xw_lt b a)
theorem x_m1 {a : Int32} (h1 : ¬ a < 0) (h2 : ¬ (-1) < a) : False := by
  rw [Int32.lt_iff_toInt_lt] at h1 h2
  have e0 : (0 : Int32).toInt = 0 := by decide
  have e1 : (-1 : Int32).toInt = -1 := by decide
  omega
theorem x_i4 {a : Int32} (h1 : ¬ a < 0) (h2 : ¬ 3 < a) : a = 0 ∨ a = 1 ∨ a = 2 ∨ a = 3 := by
  rw [Int32.lt_iff_toInt_lt] at h1 h2
  have e0 : (0 : Int32).toInt = 0 := by decide
  have e1 : (1 : Int32).toInt = 1 := by decide
  have e2 : (2 : Int32).toInt = 2 := by decide
  have e3 : (3 : Int32).toInt = 3 := by decide
  simp only [← Int32.toInt_inj]
  omega
theorem x_f4 {a : Int32} (h1 : ¬ a < 1) (h2 : ¬ 4 < a) : a = 1 ∨ a = 2 ∨ a = 3 ∨ a = 4 := by
  rw [Int32.lt_iff_toInt_lt] at h1 h2
  have e1 : (1 : Int32).toInt = 1 := by decide
  have e2 : (2 : Int32).toInt = 2 := by decide
  have e3 : (3 : Int32).toInt = 3 := by decide
  have e4 : (4 : Int32).toInt = 4 := by decide
  simp only [← Int32.toInt_inj]
  omega
theorem x_k3 {a : Int32} (h1 : ¬ a < 0) (h2 : ¬ 2 < a) : a = 0 ∨ a = 1 ∨ a = 2 := by
  rw [Int32.lt_iff_toInt_lt] at h1 h2
  have e0 : (0 : Int32).toInt = 0 := by decide
  have e1 : (1 : Int32).toInt = 1 := by decide
  have e2 : (2 : Int32).toInt = 2 := by decide
  simp only [← Int32.toInt_inj]
  omega
theorem x_s6 (a : Int32) : (a.toInt < 0 ∨ 5 < a.toInt) ∨ a = 0 ∨ a = 1 ∨ a = 2 ∨ a = 3 ∨ a = 4 ∨ a = 5 := by
  have e0 : (0 : Int32).toInt = 0 := by decide
  have e1 : (1 : Int32).toInt = 1 := by decide
  have e2 : (2 : Int32).toInt = 2 := by decide
  have e3 : (3 : Int32).toInt = 3 := by decide
  have e4 : (4 : Int32).toInt = 4 := by decide
  have e5 : (5 : Int32).toInt = 5 := by decide
  simp only [← Int32.toInt_inj]
  omega
theorem x_st {a : Int32} (h1 : ¬ a < (-1)) (h2 : ¬ 6 < a) : a = -1 ∨ a = 0 ∨ a = 1 ∨ a = 2 ∨ a = 3 ∨ a = 4 ∨ a = 5 ∨ a = 6 := by
  rw [Int32.lt_iff_toInt_lt] at h1 h2
  have em : (-1 : Int32).toInt = -1 := by decide
  have e0 : (0 : Int32).toInt = 0 := by decide
  have e1 : (1 : Int32).toInt = 1 := by decide
  have e2 : (2 : Int32).toInt = 2 := by decide
  have e3 : (3 : Int32).toInt = 3 := by decide
  have e4 : (4 : Int32).toInt = 4 := by decide
  have e5 : (5 : Int32).toInt = 5 := by decide
  have e6 : (6 : Int32).toInt = 6 := by decide
  simp only [← Int32.toInt_inj]
  omega
theorem xdec {n : Nat} (h : 1 ≤ n) : nI n + (-1) = nI (n - 1) := by
  obtain ⟨k, rfl⟩ : ∃ k, n = k + 1 := ⟨n - 1, by omega⟩
  exact pk_m1 k
theorem xq_self (x : Int64) : lg_cmp x x = 0 := by simp [lg_cmp]
theorem x_num {a : Int32} {P : Nat} (hP : P < 2 ^ 31) (h1 : ¬ a < 0) (h2 : a < nI P) : ∃ k : Nat, a = nI k ∧ k < P := by
  obtain ⟨k, hk, rfl⟩ := nI_of h1
  exact ⟨k, rfl, xn_lt hk hP h2⟩
theorem x_numL {a : Int64} {P : Nat} (hP : P < 2 ^ 31) (h1 : ¬ lg_cmp a 0 < 0) (h2 : ¬ 0 ≤ lg_cmp a (nI P).toInt64) : ∃ k : Nat, a = lN k ∧ k < P := by
  have g1 : ¬ a < 0 := fun h => h1 ((xq_lt _ _).mpr h)
  have g2 : a < (nI P).toInt64 := by
    have := mt (lg_cmp_ge a (nI P).toInt64).mpr h2
    exact Int64.not_le.mp this
  rw [nI_l hP] at g2
  obtain ⟨k, hk, rfl⟩ := pk_lOf g1
  exact ⟨k, rfl, (pk_lLT hk (by omega)).mp g2⟩
theorem x_place {a : Int32} {P : Nat} (hP : P < 2 ^ 31) (h1 : ¬ lg_cmp a.toInt64 0 < 0) (h2 : ¬ 0 ≤ lg_cmp a.toInt64 (nI P).toInt64) : ∃ k : Nat, (1 : Int32) = 1 ∧ a = nI k ∧ k < P := by
  have g1 : ¬ a < 0 := fun h => h1 ((xq_lt _ _).mpr ((xw_lt a 0).mpr h))
  have g2 : a < nI P := (xw_lt _ _).mp (Int64.not_le.mp (mt (lg_cmp_ge _ _).mpr h2))
  obtain ⟨k, e, hk⟩ := x_num hP g1 g2
  exact ⟨k, rfl, e, hk⟩
theorem xopt {x : Int32} {P : Nat} (h : x = -1 ∨ ∃ y, y < P ∧ x = nI y) (h0 : ¬ x < 0) : ∃ y, y < P ∧ x = nI y := by
  rcases h with h | h
  · subst h; exact absurd (by decide) h0
  · exact h
theorem xrange {x : Int32} {w : Nat} (hw : w < 2 ^ 31) (h0 : ¬ x < 0) (h : ¬ nI w < x) : ∃ y, y ≤ w ∧ x = nI y := by
  obtain ⟨y, hy, rfl⟩ := nI_of h0
  exact ⟨y, xn_nlt hw hy h, rfl⟩
theorem xoptp {x : Int32} {P : Nat} (h : x = -1 ∨ ∃ y, y < P ∧ x = nI y) : x = -1 ∨ ∃ y : Nat, x = nI y ∧ y < P := h.imp id (fun ⟨y, h1, h2⟩ => ⟨y, h2, h1⟩)
theorem xpow_ : ∀ q, q < 7 → (1 : Int32) <<< (nI q &&& 31) = nI (2 ^ q) ∧ 1 ≤ 2 ^ q ∧ 2 ^ q ≤ 64 := by decide +kernel
theorem xpow {q : Nat} (h : q < 7) : ∃ z : Nat, (1 : Int32) <<< (nI q &&& 31) = nI z ∧ 1 ≤ z ∧ z ≤ 64 ∧ z = 2 ^ q := ⟨2 ^ q, (xpow_ q h).1, (xpow_ q h).2.1, (xpow_ q h).2.2, rfl⟩
theorem xorb_ : ∀ t, t < 64 → ∀ n, n < 6 → nI t ||| nI (2 ^ n) = nI (t ||| 2 ^ n) ∧ (t ||| 2 ^ n) < 64 := by decide +kernel
theorem xorb {t n z : Nat} (ht : t < 64) (hn : n < 6) (hz : z = 2 ^ n) : ∃ y : Nat, nI t ||| nI z = nI y ∧ y < 64 := ⟨t ||| 2 ^ n, by rw [hz]; exact (xorb_ t ht n hn).1, (xorb_ t ht n hn).2⟩
/-- how many places are marked -/
def mk_n (f : Nat → Int32) : Nat → Nat
  | 0 => 0
  | n + 1 => mk_n f n + (if f n = 0 then 0 else 1)
theorem mk_le (f : Nat → Int32) (n : Nat) : mk_n f n ≤ n := by
  induction n with
  | zero => exact Nat.le_refl 0
  | succ n ih => unfold mk_n; split <;> omega
theorem mk_lt {f : Nat → Int32} {n k : Nat} (h : k < n) (h0 : f k = 0) : mk_n f n + 1 ≤ n := by
  induction n with
  | zero => omega
  | succ n ih =>
    unfold mk_n
    by_cases e : k = n
    · subst e; rw [if_pos h0]; have := mk_le f k; omega
    · have := ih (by omega); split <;> omega
theorem mk_out {f : Nat → Int32} {n k : Nat} {x : Int32} (h : n ≤ k) : mk_n (upd f k x) n = mk_n f n := by
  induction n with
  | zero => rfl
  | succ n ih => unfold mk_n; rw [ih (by omega), pk_un (by omega)]
theorem mk_set {f : Nat → Int32} {n k : Nat} (h : k < n) (h0 : f k = 0) : mk_n (upd f k 1) n = mk_n f n + 1 := by
  induction n with
  | zero => omega
  | succ n ih =>
    unfold mk_n
    by_cases e : k = n
    · subst e; rw [mk_out (Nat.le_refl _), pk_us, if_pos h0, if_neg (by decide)]
    · rw [ih (by omega), pk_un (fun q => e q.symm)]; omega
theorem mk_any {f : Nat → Int32} {n k : Nat} (h : k < n) (h0 : ¬ f k = 0) : 1 ≤ mk_n f n := by
  induction n with
  | zero => omega
  | succ n ih =>
    unfold mk_n
    by_cases e : k = n
    · subst e; rw [if_neg h0]; omega
    · have := ih (by omega); omega
theorem x_s7 (a : Int32) : (a.toInt < 0 ∨ 6 < a.toInt) ∨ a = 0 ∨ a = 1 ∨ a = 2 ∨ a = 3 ∨ a = 4 ∨ a = 5 ∨ a = 6 := by
  have e0 : (0 : Int32).toInt = 0 := by decide
  have e1 : (1 : Int32).toInt = 1 := by decide
  have e2 : (2 : Int32).toInt = 2 := by decide
  have e3 : (3 : Int32).toInt = 3 := by decide
  have e4 : (4 : Int32).toInt = 4 := by decide
  have e5 : (5 : Int32).toInt = 5 := by decide
  have e6 : (6 : Int32).toInt = 6 := by decide
  simp only [← Int32.toInt_inj]
  omega
theorem x_in4 {a : Int32} (h1 : ¬ a < 0) (h2 : ¬ 3 < a) : vp_in a 4 := by
  rcases x_i4 h1 h2 with rfl | rfl | rfl | rfl <;> exact xin _ 4 (by decide) (by decide)
theorem x_in7 {a : Int32} (h1 : ¬ a < 0) (h2 : ¬ 6 < a) : vp_in a 7 := by
  have h3 : ¬ a < (-1) := fun h => h1 (Int32.lt_trans h (by decide))
  rcases x_st h3 h2 with rfl | rfl | rfl | rfl | rfl | rfl | rfl | rfl
  · exact absurd (by decide) h1
  all_goals exact xin _ 7 (by decide) (by decide)
abbrev xSh (s0 s1 s2 s3 : Nat) : Nat → Option Nat := va_up (va_up (va_up (va_up (fun _ => none) 0 (some s0)) 1 (some s1)) 2 (some s2)) 3 (some s3)
theorem xdig {x : Int32} (h1 : ¬ x < 48) (h2 : ¬ 57 < x) : ∃ z : Nat, x = nI z ∧ 48 ≤ z ∧ z ≤ 57 := by
  have h0 : ¬ x < 0 := fun h => h1 (Int32.lt_trans h (by decide))
  obtain ⟨z, hz, rfl⟩ := nI_of h0
  exact ⟨z, rfl, xn_nlt hz (by omega) h1, xn_nlt (a := 57) (by omega) hz h2⟩
theorem xmin {a : Nat} (ha : a < 2 ^ 31) : ∃ z : Nat, (if (10000 : Int32) < nI a then 10000 else nI a) = nI z ∧ z ≤ 10000 := by
  by_cases h : (10000 : Int32) < nI a
  · exact ⟨10000, by rw [if_pos h]; rfl, Nat.le_refl _⟩
  · exact ⟨a, by rw [if_neg h], xn_nlt (a := 10000) (by omega) ha h⟩
theorem xshr0 {n : Nat} (h : n < 2 ^ 31) : nI n >>> ((0 : Int32) &&& 31) = nI n := by
  rw [pk_shrN h _ 0 (by decide), Nat.pow_zero, Nat.div_one]
theorem x_most {P t : Nat} (hP : P ≤ 10) (ht : t ≤ 10000) {x : Int32} (hx : x = nI P - 1) (h : ¬ x < nI t) : t < P := by
  subst hx
  by_cases h0 : P = 0
  · subst h0
    exfalso
    apply h
    rw [Int32.lt_iff_toInt_lt, nI_toInt (by omega)]
    have : (nI 0 - 1).toInt = -1 := by decide
    omega
  · have e : nI P - 1 = nI (P - 1) := pk_sub (a := P) (b := 1) (by omega)
    rw [e] at h
    have := xn_nlt (a := P - 1) (b := t) (by omega) (by omega) h
    omega
theorem x_span {p0 p1 : Int32} {z : Nat} (hz : z ≤ 40) (h1 : ¬ p0 < 0) (h2 : ¬ p1 < 0) (h3 : ¬ nI z < p1) (h4 : ¬ nI z - p1 < p0) : ∃ j k : Nat, (1 : Int32) = 1 ∧ p0 = nI j ∧ p1 = nI k ∧ j + k ≤ z := by
  obtain ⟨k, hk, rfl⟩ := nI_of h2
  obtain ⟨j, hj, rfl⟩ := nI_of h1
  have g : k ≤ z := xn_nlt (a := z) (by omega) hk h3
  rw [pk_sub g] at h4
  have := xn_nlt (a := z - k) (b := j) (by omega) hj h4
  exact ⟨j, k, rfl, rfl, rfl, by omega⟩
theorem xLen_lt : ∀ i, i < 8 → xLen.getD i 0 < 10 := by decide
/-- each row that is there has one stop or more -/
def LL (cn : Nat) (ln : Nat → Int32) : Prop := ∀ r, r < cn → ∃ q, 1 ≤ q ∧ q < 7 ∧ ln r = nI q
theorem LL.put {cn k q : Nat} {ln : Nat → Int32} (h : LL cn ln) (h1 : 1 ≤ q) (h2 : q < 7) : LL cn (upd ln k (nI q)) := by
  intro r hr
  by_cases e : r = k
  · subst e; exact ⟨q, h1, h2, pk_us⟩
  · obtain ⟨y, a, b, c⟩ := h r hr
    exact ⟨y, a, b, (pk_un e).trans c⟩
theorem LL.new {cn : Nat} {ln : Nat → Int32} (h : LL cn ln) : LL (cn + 1) (upd (upd ln cn 0) cn (nI (0 + 1))) := by
  intro r hr
  by_cases e : r = cn
  · subst e; exact ⟨1, by decide, by decide, pk_us⟩
  · obtain ⟨y, a, b, c⟩ := h r (by omega)
    exact ⟨y, a, b, (pk_un e).trans ((pk_un e).trans c)⟩
theorem LL.same {cn : Nat} {ln lm : Nat → Int32} (hc : cn ≤ 8) (h : LL cn ln) (e : ∀ j, j < 8 → lm j = ln j) : LL cn lm := fun r hr => by
  obtain ⟨y, a, b, c⟩ := h r hr
  exact ⟨y, a, b, (e r (by omega)).trans c⟩
theorem x_fill {g g8 : Nat → Int64} {i : Nat} (e : g = vp_updL g8 i 0) (h : ∀ j, j < i → g8 j = 0) : ∀ j, j < i + 1 → g j = 0 := by
  intro j hj
  rw [e]
  by_cases q : j = i
  · subst q; exact pk_uLs
  · rw [pk_uLn q]; exact h j (by omega)
theorem x_ro {a : Int32} (h1 : ¬ a < (-2)) (h2 : ¬ a = (-1)) (h3 : ¬ a = (-2)) (h4 : ¬ 5 < a) : ∃ y, y ≤ 5 ∧ a = nI y := by
  have h0 : ¬ a < 0 := by
    rw [Int32.lt_iff_toInt_lt] at h1 ⊢
    rw [← Int32.toInt_inj] at h2 h3
    have e1 : (-1 : Int32).toInt = -1 := by decide
    have e2 : (-2 : Int32).toInt = -2 := by decide
    have e0 : (0 : Int32).toInt = 0 := by decide
    omega
  exact xrange (w := 5) (by omega) h0 h4
theorem xrange2 {x : Int32} {w : Nat} (hw : w < 2 ^ 31) (h0 : 0 ≤ x) (h : x ≤ nI w) : ∃ y, y ≤ w ∧ x = nI y :=
  xrange hw (fun q => absurd h0 (Int32.not_le.mpr q)) (fun q => absurd h (Int32.not_le.mpr q))
theorem xnum2 {x : Int32} {P : Nat} (hP : P ≤ 40) (h0 : ¬ x < 0) (h : x < nI P) : ∃ y, y < 40 ∧ x = nI y := by
  obtain ⟨k, e, hk⟩ := x_num (by omega) h0 h
  exact ⟨k, by omega, e⟩
