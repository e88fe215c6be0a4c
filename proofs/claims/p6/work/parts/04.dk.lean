/-! instructions by their bytes -/
theorem dk_run {c : ByteArray} {pc : Nat} {o : UInt8} (h : c.data.toList[pc]? = some o) : (Jvm.ClassFile.Reader.u1 : Jvm.ClassFile.Decoder Nat) c pc = .ok (o.toNat, pc + 1) := by
  obtain ⟨hlt, he⟩ := List.getElem?_eq_some_iff.mp h
  have hs : pc < c.size := hlt
  have e1 : c[pc] = o := he
  have e0 : (Jvm.ClassFile.Reader.u1 : Jvm.ClassFile.Decoder Nat) c pc = (if h : pc < c.size then (Except.ok (c[pc].toNat, pc + 1) : Except Jvm.ClassFile.DecodeError (Nat × Nat)) else .error (Jvm.ClassFile.DecodeError.truncated pc)) := by
    unfold Jvm.ClassFile.Reader.u1
    show (if h : pc < c.size then _ else _ : Jvm.ClassFile.Decoder Nat) c pc = _
    split <;> rfl
  rw [e0, dif_pos hs, e1]
theorem dk_u2 {c : ByteArray} {pc : Nat} {o q : UInt8} (h : c.data.toList[pc]? = some o) (h2 : c.data.toList[pc + 1]? = some q) : (Jvm.ClassFile.Reader.u2 : Jvm.ClassFile.Decoder Nat) c pc = .ok (o.toNat * 256 + q.toNat, pc + 1 + 1) := by
  have e : (Jvm.ClassFile.Reader.u2 : Jvm.ClassFile.Decoder Nat) c pc = Except.bind ((Jvm.ClassFile.Reader.u1 : Jvm.ClassFile.Decoder Nat) c pc) (fun x => Except.bind ((Jvm.ClassFile.Reader.u1 : Jvm.ClassFile.Decoder Nat) c x.2) (fun y => .ok (x.1 * 256 + y.1, y.2))) := rfl
  rw [e, dk_run h]
  show Except.bind ((Jvm.ClassFile.Reader.u1 : Jvm.ClassFile.Decoder Nat) c (pc + 1)) _ = _
  rw [dk_run h2]
  rfl
theorem dk_s2 {c : ByteArray} {pc : Nat} {o q : UInt8} (h : c.data.toList[pc]? = some o) (h2 : c.data.toList[pc + 1]? = some q) : (Jvm.ClassFile.Reader.s2 : Jvm.ClassFile.Decoder Int) c pc = .ok (Jvm.ClassFile.Reader.signed 16 (o.toNat * 256 + q.toNat), pc + 1 + 1) := by
  have e : (Jvm.ClassFile.Reader.s2 : Jvm.ClassFile.Decoder Int) c pc = Except.bind ((Jvm.ClassFile.Reader.u2 : Jvm.ClassFile.Decoder Nat) c pc) (fun x => .ok (Jvm.ClassFile.Reader.signed 16 x.1, x.2)) := rfl
  rw [e, dk_u2 h h2]
  rfl
theorem dk_ins {c : ByteArray} {pc n : Nat} {o : UInt8} {ins : Jvm.ClassFile.Instr} (h : c.data.toList[pc]? = some o) {K : Nat → Jvm.ClassFile.Decoder Jvm.ClassFile.Instr} (e : Jvm.ClassFile.Decoder.instr pc = (Jvm.ClassFile.Reader.u1 >>= K)) (k : K o.toNat c (pc + 1) = .ok (ins, pc + n)) : decode c pc = .ok (ins, n) := by
  have h1 : (Jvm.ClassFile.Decoder.instr pc) c pc = .ok (ins, pc + n) := by
    rw [e]
    have e2 : (Jvm.ClassFile.Reader.u1 >>= K) c pc = Except.bind ((Jvm.ClassFile.Reader.u1 : Jvm.ClassFile.Decoder Nat) c pc) (fun x => K x.1 c x.2) := rfl
    rw [e2, dk_run h]
    exact k
  have e3 : decode c pc = Except.bind ((Jvm.ClassFile.Decoder.instr pc) c pc) (fun x => .ok (x.1, x.2 - pc)) := rfl
  rw [e3, h1]
  show Except.ok (ins, pc + n - pc) = _
  rw [Nat.add_sub_cancel_left]
theorem dk_one {c : ByteArray} {pc : Nat} {o : UInt8} {ins : Jvm.ClassFile.Instr} (h : c.data.toList[pc]? = some o) {K : Nat → Jvm.ClassFile.Decoder Jvm.ClassFile.Instr} (e : Jvm.ClassFile.Decoder.instr pc = (Jvm.ClassFile.Reader.u1 >>= K)) (k : K o.toNat = Pure.pure ins) : decode c pc = .ok (ins, 1) := by
  refine dk_ins h e ?_
  rw [k]
  rfl
theorem dk_two {c : ByteArray} {pc : Nat} {o q r : UInt8} {f : Nat → Jvm.ClassFile.Instr} (h : c.data.toList[pc]? = some o) (h1 : c.data.toList[pc + 1]? = some q) (h2 : c.data.toList[pc + 1 + 1]? = some r) {K : Nat → Jvm.ClassFile.Decoder Jvm.ClassFile.Instr} (e : Jvm.ClassFile.Decoder.instr pc = (Jvm.ClassFile.Reader.u1 >>= K)) (k : K o.toNat = (Jvm.ClassFile.Reader.u2 >>= fun i => Pure.pure (f i))) : decode c pc = .ok (f (q.toNat * 256 + r.toNat), 3) := by
  refine dk_ins h e ?_
  rw [k]
  have e2 : (Jvm.ClassFile.Reader.u2 >>= fun i => (Pure.pure (f i) : Jvm.ClassFile.Decoder Jvm.ClassFile.Instr)) c (pc + 1) = Except.bind ((Jvm.ClassFile.Reader.u2 : Jvm.ClassFile.Decoder Nat) c (pc + 1)) (fun x => .ok (f x.1, x.2)) := rfl
  rw [e2, dk_u2 h1 h2]
  rfl
theorem dk_twoS {c : ByteArray} {pc : Nat} {o q r : UInt8} {f : Int → Jvm.ClassFile.Instr} (h : c.data.toList[pc]? = some o) (h1 : c.data.toList[pc + 1]? = some q) (h2 : c.data.toList[pc + 1 + 1]? = some r) {K : Nat → Jvm.ClassFile.Decoder Jvm.ClassFile.Instr} (e : Jvm.ClassFile.Decoder.instr pc = (Jvm.ClassFile.Reader.u1 >>= K)) (k : K o.toNat = (Jvm.ClassFile.Reader.s2 >>= fun i => Pure.pure (f i))) : decode c pc = .ok (f (Jvm.ClassFile.Reader.signed 16 (q.toNat * 256 + r.toNat)), 3) := by
  refine dk_ins h e ?_
  rw [k]
  have e2 : (Jvm.ClassFile.Reader.s2 >>= fun i => (Pure.pure (f i) : Jvm.ClassFile.Decoder Jvm.ClassFile.Instr)) c (pc + 1) = Except.bind ((Jvm.ClassFile.Reader.s2 : Jvm.ClassFile.Decoder Int) c (pc + 1)) (fun x => .ok (f x.1, x.2)) := rfl
  rw [e2, dk_s2 h1 h2]
  rfl
theorem dk_s1 {c : ByteArray} {pc : Nat} {o : UInt8} (h : c.data.toList[pc]? = some o) : (Jvm.ClassFile.Reader.s1 : Jvm.ClassFile.Decoder Int) c pc = .ok (Jvm.ClassFile.Reader.signed 8 o.toNat, pc + 1) := by
  have e : (Jvm.ClassFile.Reader.s1 : Jvm.ClassFile.Decoder Int) c pc = Except.bind ((Jvm.ClassFile.Reader.u1 : Jvm.ClassFile.Decoder Nat) c pc) (fun x => .ok (Jvm.ClassFile.Reader.signed 8 x.1, x.2)) := rfl
  rw [e, dk_run h]
  rfl
theorem dk_oneU {c : ByteArray} {pc : Nat} {o q : UInt8} {f : Nat → Jvm.ClassFile.Instr} (h : c.data.toList[pc]? = some o) (h1 : c.data.toList[pc + 1]? = some q) {K : Nat → Jvm.ClassFile.Decoder Jvm.ClassFile.Instr} (e : Jvm.ClassFile.Decoder.instr pc = (Jvm.ClassFile.Reader.u1 >>= K)) (k : K o.toNat = (Jvm.ClassFile.Reader.u1 >>= fun i => Pure.pure (f i))) : decode c pc = .ok (f q.toNat, 2) := by
  refine dk_ins h e ?_
  rw [k]
  have e2 : (Jvm.ClassFile.Reader.u1 >>= fun i => (Pure.pure (f i) : Jvm.ClassFile.Decoder Jvm.ClassFile.Instr)) c (pc + 1) = Except.bind ((Jvm.ClassFile.Reader.u1 : Jvm.ClassFile.Decoder Nat) c (pc + 1)) (fun x => .ok (f x.1, x.2)) := rfl
  rw [e2, dk_run h1]
  rfl
theorem dk_oneS {c : ByteArray} {pc : Nat} {o q : UInt8} {f : Int → Jvm.ClassFile.Instr} (h : c.data.toList[pc]? = some o) (h1 : c.data.toList[pc + 1]? = some q) {K : Nat → Jvm.ClassFile.Decoder Jvm.ClassFile.Instr} (e : Jvm.ClassFile.Decoder.instr pc = (Jvm.ClassFile.Reader.u1 >>= K)) (k : K o.toNat = (Jvm.ClassFile.Reader.s1 >>= fun i => Pure.pure (f i))) : decode c pc = .ok (f (Jvm.ClassFile.Reader.signed 8 q.toNat), 2) := by
  refine dk_ins h e ?_
  rw [k]
  have e2 : (Jvm.ClassFile.Reader.s1 >>= fun i => (Pure.pure (f i) : Jvm.ClassFile.Decoder Jvm.ClassFile.Instr)) c (pc + 1) = Except.bind ((Jvm.ClassFile.Reader.s1 : Jvm.ClassFile.Decoder Int) c (pc + 1)) (fun x => .ok (f x.1, x.2)) := rfl
  rw [e2, dk_s1 h1]
  rfl
theorem dk_inc {c : ByteArray} {pc : Nat} {o q r : UInt8} {f : Nat → Int → Jvm.ClassFile.Instr} (h : c.data.toList[pc]? = some o) (h1 : c.data.toList[pc + 1]? = some q) (h2 : c.data.toList[pc + 1 + 1]? = some r) {K : Nat → Jvm.ClassFile.Decoder Jvm.ClassFile.Instr} (e : Jvm.ClassFile.Decoder.instr pc = (Jvm.ClassFile.Reader.u1 >>= K)) (k : K o.toNat = (Jvm.ClassFile.Reader.u1 >>= fun i => Jvm.ClassFile.Reader.s1 >>= fun j => Pure.pure (f i j))) : decode c pc = .ok (f q.toNat (Jvm.ClassFile.Reader.signed 8 r.toNat), 3) := by
  refine dk_ins h e ?_
  rw [k]
  have e2 : (Jvm.ClassFile.Reader.u1 >>= fun i => Jvm.ClassFile.Reader.s1 >>= fun j => (Pure.pure (f i j) : Jvm.ClassFile.Decoder Jvm.ClassFile.Instr)) c (pc + 1) = Except.bind ((Jvm.ClassFile.Reader.u1 : Jvm.ClassFile.Decoder Nat) c (pc + 1)) (fun x => Except.bind ((Jvm.ClassFile.Reader.s1 : Jvm.ClassFile.Decoder Int) c x.2) (fun y => .ok (f x.1 y.1, y.2))) := rfl
  rw [e2, dk_run h1]
  show Except.bind ((Jvm.ClassFile.Reader.s1 : Jvm.ClassFile.Decoder Int) c (pc + 1 + 1)) _ = _
  rw [dk_s1 h2]
  rfl
theorem dk_42 (pc : Nat) : ∃ K : Nat → Jvm.ClassFile.Decoder Jvm.ClassFile.Instr, Jvm.ClassFile.Decoder.instr pc = (Jvm.ClassFile.Reader.u1 >>= K) ∧ K 42 = Pure.pure (.aload_n 0 : Jvm.ClassFile.Instr) := ⟨_, rfl, rfl⟩
theorem dk_42_ {c : ByteArray} {pc : Nat} (h : c.data.toList[pc]? = some 0x2a) : decode c pc = .ok (.aload_n 0, 1) := by
  obtain ⟨K, e, k⟩ := dk_42 pc
  exact dk_one h e k
theorem dk_183 (pc : Nat) : ∃ K : Nat → Jvm.ClassFile.Decoder Jvm.ClassFile.Instr, Jvm.ClassFile.Decoder.instr pc = (Jvm.ClassFile.Reader.u1 >>= K) ∧ K 183 = (Jvm.ClassFile.Reader.u2 >>= fun i => Pure.pure (.invokespecial i : Jvm.ClassFile.Instr)) := ⟨_, rfl, rfl⟩
theorem dk_183_ {c : ByteArray} {pc : Nat} {q r : UInt8} {i : Nat} (h : c.data.toList[pc]? = some 0xb7) (h1 : c.data.toList[pc + 1]? = some q) (h2 : c.data.toList[pc + 1 + 1]? = some r) (hi : q.toNat * 256 + r.toNat = i) : decode c pc = .ok (.invokespecial i, 3) := by
  obtain ⟨K, e, k⟩ := dk_183 pc
  subst hi
  exact dk_two h h1 h2 e k
theorem dk_3 (pc : Nat) : ∃ K : Nat → Jvm.ClassFile.Decoder Jvm.ClassFile.Instr, Jvm.ClassFile.Decoder.instr pc = (Jvm.ClassFile.Reader.u1 >>= K) ∧ K 3 = Pure.pure (.iconst 0 : Jvm.ClassFile.Instr) := ⟨_, rfl, rfl⟩
theorem dk_3_ {c : ByteArray} {pc : Nat} (h : c.data.toList[pc]? = some 0x03) : decode c pc = .ok (.iconst 0, 1) := by
  obtain ⟨K, e, k⟩ := dk_3 pc
  exact dk_one h e k
theorem dk_181 (pc : Nat) : ∃ K : Nat → Jvm.ClassFile.Decoder Jvm.ClassFile.Instr, Jvm.ClassFile.Decoder.instr pc = (Jvm.ClassFile.Reader.u1 >>= K) ∧ K 181 = (Jvm.ClassFile.Reader.u2 >>= fun i => Pure.pure (.putfield i : Jvm.ClassFile.Instr)) := ⟨_, rfl, rfl⟩
theorem dk_181_ {c : ByteArray} {pc : Nat} {q r : UInt8} {i : Nat} (h : c.data.toList[pc]? = some 0xb5) (h1 : c.data.toList[pc + 1]? = some q) (h2 : c.data.toList[pc + 1 + 1]? = some r) (hi : q.toNat * 256 + r.toNat = i) : decode c pc = .ok (.putfield i, 3) := by
  obtain ⟨K, e, k⟩ := dk_181 pc
  subst hi
  exact dk_two h h1 h2 e k
theorem dk_16 (pc : Nat) : ∃ K : Nat → Jvm.ClassFile.Decoder Jvm.ClassFile.Instr, Jvm.ClassFile.Decoder.instr pc = (Jvm.ClassFile.Reader.u1 >>= K) ∧ K 16 = (Jvm.ClassFile.Reader.s1 >>= fun i => Pure.pure (.bipush i : Jvm.ClassFile.Instr)) := ⟨_, rfl, rfl⟩
theorem dk_16_ {c : ByteArray} {pc : Nat} {q : UInt8} {i : Int} (h : c.data.toList[pc]? = some 0x10) (h1 : c.data.toList[pc + 1]? = some q) (hi : Jvm.ClassFile.Reader.signed 8 q.toNat = i) : decode c pc = .ok (.bipush i, 2) := by
  obtain ⟨K, e, k⟩ := dk_16 pc
  subst hi
  exact dk_oneS h h1 e k
theorem dk_177 (pc : Nat) : ∃ K : Nat → Jvm.ClassFile.Decoder Jvm.ClassFile.Instr, Jvm.ClassFile.Decoder.instr pc = (Jvm.ClassFile.Reader.u1 >>= K) ∧ K 177 = Pure.pure (.return_ : Jvm.ClassFile.Instr) := ⟨_, rfl, rfl⟩
theorem dk_177_ {c : ByteArray} {pc : Nat} (h : c.data.toList[pc]? = some 0xb1) : decode c pc = .ok (.return_, 1) := by
  obtain ⟨K, e, k⟩ := dk_177 pc
  exact dk_one h e k
theorem dk_43 (pc : Nat) : ∃ K : Nat → Jvm.ClassFile.Decoder Jvm.ClassFile.Instr, Jvm.ClassFile.Decoder.instr pc = (Jvm.ClassFile.Reader.u1 >>= K) ∧ K 43 = Pure.pure (.aload_n 1 : Jvm.ClassFile.Instr) := ⟨_, rfl, rfl⟩
theorem dk_43_ {c : ByteArray} {pc : Nat} (h : c.data.toList[pc]? = some 0x2b) : decode c pc = .ok (.aload_n 1, 1) := by
  obtain ⟨K, e, k⟩ := dk_43 pc
  exact dk_one h e k
theorem dk_180 (pc : Nat) : ∃ K : Nat → Jvm.ClassFile.Decoder Jvm.ClassFile.Instr, Jvm.ClassFile.Decoder.instr pc = (Jvm.ClassFile.Reader.u1 >>= K) ∧ K 180 = (Jvm.ClassFile.Reader.u2 >>= fun i => Pure.pure (.getfield i : Jvm.ClassFile.Instr)) := ⟨_, rfl, rfl⟩
theorem dk_180_ {c : ByteArray} {pc : Nat} {q r : UInt8} {i : Nat} (h : c.data.toList[pc]? = some 0xb4) (h1 : c.data.toList[pc + 1]? = some q) (h2 : c.data.toList[pc + 1 + 1]? = some r) (hi : q.toNat * 256 + r.toNat = i) : decode c pc = .ok (.getfield i, 3) := by
  obtain ⟨K, e, k⟩ := dk_180 pc
  subst hi
  exact dk_two h h1 h2 e k
theorem dk_61 (pc : Nat) : ∃ K : Nat → Jvm.ClassFile.Decoder Jvm.ClassFile.Instr, Jvm.ClassFile.Decoder.instr pc = (Jvm.ClassFile.Reader.u1 >>= K) ∧ K 61 = Pure.pure (.istore_n 2 : Jvm.ClassFile.Instr) := ⟨_, rfl, rfl⟩
theorem dk_61_ {c : ByteArray} {pc : Nat} (h : c.data.toList[pc]? = some 0x3d) : decode c pc = .ok (.istore_n 2, 1) := by
  obtain ⟨K, e, k⟩ := dk_61 pc
  exact dk_one h e k
theorem dk_28 (pc : Nat) : ∃ K : Nat → Jvm.ClassFile.Decoder Jvm.ClassFile.Instr, Jvm.ClassFile.Decoder.instr pc = (Jvm.ClassFile.Reader.u1 >>= K) ∧ K 28 = Pure.pure (.iload_n 2 : Jvm.ClassFile.Instr) := ⟨_, rfl, rfl⟩
theorem dk_28_ {c : ByteArray} {pc : Nat} (h : c.data.toList[pc]? = some 0x1c) : decode c pc = .ok (.iload_n 2, 1) := by
  obtain ⟨K, e, k⟩ := dk_28 pc
  exact dk_one h e k
theorem dk_162 (pc : Nat) : ∃ K : Nat → Jvm.ClassFile.Decoder Jvm.ClassFile.Instr, Jvm.ClassFile.Decoder.instr pc = (Jvm.ClassFile.Reader.u1 >>= K) ∧ K 162 = (Jvm.ClassFile.Reader.s2 >>= fun i => Pure.pure (.if_icmp .ge i : Jvm.ClassFile.Instr)) := ⟨_, rfl, rfl⟩
theorem dk_162_ {c : ByteArray} {pc : Nat} {q r : UInt8} {i : Int} (h : c.data.toList[pc]? = some 0xa2) (h1 : c.data.toList[pc + 1]? = some q) (h2 : c.data.toList[pc + 1 + 1]? = some r) (hi : Jvm.ClassFile.Reader.signed 16 (q.toNat * 256 + r.toNat) = i) : decode c pc = .ok (.if_icmp .ge i, 3) := by
  obtain ⟨K, e, k⟩ := dk_162 pc
  subst hi
  exact dk_twoS h h1 h2 e k
theorem dk_62 (pc : Nat) : ∃ K : Nat → Jvm.ClassFile.Decoder Jvm.ClassFile.Instr, Jvm.ClassFile.Decoder.instr pc = (Jvm.ClassFile.Reader.u1 >>= K) ∧ K 62 = Pure.pure (.istore_n 3 : Jvm.ClassFile.Instr) := ⟨_, rfl, rfl⟩
theorem dk_62_ {c : ByteArray} {pc : Nat} (h : c.data.toList[pc]? = some 0x3e) : decode c pc = .ok (.istore_n 3, 1) := by
  obtain ⟨K, e, k⟩ := dk_62 pc
  exact dk_one h e k
theorem dk_29 (pc : Nat) : ∃ K : Nat → Jvm.ClassFile.Decoder Jvm.ClassFile.Instr, Jvm.ClassFile.Decoder.instr pc = (Jvm.ClassFile.Reader.u1 >>= K) ∧ K 29 = Pure.pure (.iload_n 3 : Jvm.ClassFile.Instr) := ⟨_, rfl, rfl⟩
theorem dk_29_ {c : ByteArray} {pc : Nat} (h : c.data.toList[pc]? = some 0x1d) : decode c pc = .ok (.iload_n 3, 1) := by
  obtain ⟨K, e, k⟩ := dk_29 pc
  exact dk_one h e k
theorem dk_104 (pc : Nat) : ∃ K : Nat → Jvm.ClassFile.Decoder Jvm.ClassFile.Instr, Jvm.ClassFile.Decoder.instr pc = (Jvm.ClassFile.Reader.u1 >>= K) ∧ K 104 = Pure.pure (.imul : Jvm.ClassFile.Instr) := ⟨_, rfl, rfl⟩
theorem dk_104_ {c : ByteArray} {pc : Nat} (h : c.data.toList[pc]? = some 0x68) : decode c pc = .ok (.imul, 1) := by
  obtain ⟨K, e, k⟩ := dk_104 pc
  exact dk_one h e k
theorem dk_96 (pc : Nat) : ∃ K : Nat → Jvm.ClassFile.Decoder Jvm.ClassFile.Instr, Jvm.ClassFile.Decoder.instr pc = (Jvm.ClassFile.Reader.u1 >>= K) ∧ K 96 = Pure.pure (.iadd : Jvm.ClassFile.Instr) := ⟨_, rfl, rfl⟩
theorem dk_96_ {c : ByteArray} {pc : Nat} (h : c.data.toList[pc]? = some 0x60) : decode c pc = .ok (.iadd, 1) := by
  obtain ⟨K, e, k⟩ := dk_96 pc
  exact dk_one h e k
theorem dk_160 (pc : Nat) : ∃ K : Nat → Jvm.ClassFile.Decoder Jvm.ClassFile.Instr, Jvm.ClassFile.Decoder.instr pc = (Jvm.ClassFile.Reader.u1 >>= K) ∧ K 160 = (Jvm.ClassFile.Reader.s2 >>= fun i => Pure.pure (.if_icmp .ne i : Jvm.ClassFile.Instr)) := ⟨_, rfl, rfl⟩
theorem dk_160_ {c : ByteArray} {pc : Nat} {q r : UInt8} {i : Int} (h : c.data.toList[pc]? = some 0xa0) (h1 : c.data.toList[pc + 1]? = some q) (h2 : c.data.toList[pc + 1 + 1]? = some r) (hi : Jvm.ClassFile.Reader.signed 16 (q.toNat * 256 + r.toNat) = i) : decode c pc = .ok (.if_icmp .ne i, 3) := by
  obtain ⟨K, e, k⟩ := dk_160 pc
  subst hi
  exact dk_twoS h h1 h2 e k
theorem dk_167 (pc : Nat) : ∃ K : Nat → Jvm.ClassFile.Decoder Jvm.ClassFile.Instr, Jvm.ClassFile.Decoder.instr pc = (Jvm.ClassFile.Reader.u1 >>= K) ∧ K 167 = (Jvm.ClassFile.Reader.s2 >>= fun i => Pure.pure (.goto i : Jvm.ClassFile.Instr)) := ⟨_, rfl, rfl⟩
theorem dk_167_ {c : ByteArray} {pc : Nat} {q r : UInt8} {i : Int} (h : c.data.toList[pc]? = some 0xa7) (h1 : c.data.toList[pc + 1]? = some q) (h2 : c.data.toList[pc + 1 + 1]? = some r) (hi : Jvm.ClassFile.Reader.signed 16 (q.toNat * 256 + r.toNat) = i) : decode c pc = .ok (.goto i, 3) := by
  obtain ⟨K, e, k⟩ := dk_167 pc
  subst hi
  exact dk_twoS h h1 h2 e k
theorem dk_184 (pc : Nat) : ∃ K : Nat → Jvm.ClassFile.Decoder Jvm.ClassFile.Instr, Jvm.ClassFile.Decoder.instr pc = (Jvm.ClassFile.Reader.u1 >>= K) ∧ K 184 = (Jvm.ClassFile.Reader.u2 >>= fun i => Pure.pure (.invokestatic i : Jvm.ClassFile.Instr)) := ⟨_, rfl, rfl⟩
theorem dk_184_ {c : ByteArray} {pc : Nat} {q r : UInt8} {i : Nat} (h : c.data.toList[pc]? = some 0xb8) (h1 : c.data.toList[pc + 1]? = some q) (h2 : c.data.toList[pc + 1 + 1]? = some r) (hi : q.toNat * 256 + r.toNat = i) : decode c pc = .ok (.invokestatic i, 3) := by
  obtain ⟨K, e, k⟩ := dk_184 pc
  subst hi
  exact dk_two h h1 h2 e k
theorem dk_79 (pc : Nat) : ∃ K : Nat → Jvm.ClassFile.Decoder Jvm.ClassFile.Instr, Jvm.ClassFile.Decoder.instr pc = (Jvm.ClassFile.Reader.u1 >>= K) ∧ K 79 = Pure.pure (.iastore : Jvm.ClassFile.Instr) := ⟨_, rfl, rfl⟩
theorem dk_79_ {c : ByteArray} {pc : Nat} (h : c.data.toList[pc]? = some 0x4f) : decode c pc = .ok (.iastore, 1) := by
  obtain ⟨K, e, k⟩ := dk_79 pc
  exact dk_one h e k
theorem dk_132 (pc : Nat) : ∃ K : Nat → Jvm.ClassFile.Decoder Jvm.ClassFile.Instr, Jvm.ClassFile.Decoder.instr pc = (Jvm.ClassFile.Reader.u1 >>= K) ∧ K 132 = (Jvm.ClassFile.Reader.u1 >>= fun i => Jvm.ClassFile.Reader.s1 >>= fun j => Pure.pure (.iinc i j : Jvm.ClassFile.Instr)) := ⟨_, rfl, rfl⟩
theorem dk_132_ {c : ByteArray} {pc : Nat} {q r : UInt8} {i : Nat} {j : Int} (h : c.data.toList[pc]? = some 0x84) (h1 : c.data.toList[pc + 1]? = some q) (h2 : c.data.toList[pc + 1 + 1]? = some r) (hi : q.toNat = i) (hj : Jvm.ClassFile.Reader.signed 8 r.toNat = j) : decode c pc = .ok (.iinc i j, 3) := by
  obtain ⟨K, e, k⟩ := dk_132 pc
  subst hi hj
  exact dk_inc h h1 h2 e k
theorem dk_182 (pc : Nat) : ∃ K : Nat → Jvm.ClassFile.Decoder Jvm.ClassFile.Instr, Jvm.ClassFile.Decoder.instr pc = (Jvm.ClassFile.Reader.u1 >>= K) ∧ K 182 = (Jvm.ClassFile.Reader.u2 >>= fun i => Pure.pure (.invokevirtual i : Jvm.ClassFile.Instr)) := ⟨_, rfl, rfl⟩
theorem dk_182_ {c : ByteArray} {pc : Nat} {q r : UInt8} {i : Nat} (h : c.data.toList[pc]? = some 0xb6) (h1 : c.data.toList[pc + 1]? = some q) (h2 : c.data.toList[pc + 1 + 1]? = some r) (hi : q.toNat * 256 + r.toNat = i) : decode c pc = .ok (.invokevirtual i, 3) := by
  obtain ⟨K, e, k⟩ := dk_182 pc
  subst hi
  exact dk_two h h1 h2 e k
theorem dk_27 (pc : Nat) : ∃ K : Nat → Jvm.ClassFile.Decoder Jvm.ClassFile.Instr, Jvm.ClassFile.Decoder.instr pc = (Jvm.ClassFile.Reader.u1 >>= K) ∧ K 27 = Pure.pure (.iload_n 1 : Jvm.ClassFile.Instr) := ⟨_, rfl, rfl⟩
theorem dk_27_ {c : ByteArray} {pc : Nat} (h : c.data.toList[pc]? = some 0x1b) : decode c pc = .ok (.iload_n 1, 1) := by
  obtain ⟨K, e, k⟩ := dk_27 pc
  exact dk_one h e k
theorem dk_153 (pc : Nat) : ∃ K : Nat → Jvm.ClassFile.Decoder Jvm.ClassFile.Instr, Jvm.ClassFile.Decoder.instr pc = (Jvm.ClassFile.Reader.u1 >>= K) ∧ K 153 = (Jvm.ClassFile.Reader.s2 >>= fun i => Pure.pure (.ifCond .eq i : Jvm.ClassFile.Instr)) := ⟨_, rfl, rfl⟩
theorem dk_153_ {c : ByteArray} {pc : Nat} {q r : UInt8} {i : Int} (h : c.data.toList[pc]? = some 0x99) (h1 : c.data.toList[pc + 1]? = some q) (h2 : c.data.toList[pc + 1 + 1]? = some r) (hi : Jvm.ClassFile.Reader.signed 16 (q.toNat * 256 + r.toNat) = i) : decode c pc = .ok (.ifCond .eq i, 3) := by
  obtain ⟨K, e, k⟩ := dk_153 pc
  subst hi
  exact dk_twoS h h1 h2 e k
theorem dk_4 (pc : Nat) : ∃ K : Nat → Jvm.ClassFile.Decoder Jvm.ClassFile.Instr, Jvm.ClassFile.Decoder.instr pc = (Jvm.ClassFile.Reader.u1 >>= K) ∧ K 4 = Pure.pure (.iconst 1 : Jvm.ClassFile.Instr) := ⟨_, rfl, rfl⟩
theorem dk_4_ {c : ByteArray} {pc : Nat} (h : c.data.toList[pc]? = some 0x04) : decode c pc = .ok (.iconst 1, 1) := by
  obtain ⟨K, e, k⟩ := dk_4 pc
  exact dk_one h e k
theorem dk_18 (pc : Nat) : ∃ K : Nat → Jvm.ClassFile.Decoder Jvm.ClassFile.Instr, Jvm.ClassFile.Decoder.instr pc = (Jvm.ClassFile.Reader.u1 >>= K) ∧ K 18 = (Jvm.ClassFile.Reader.u1 >>= fun i => Pure.pure (.ldc i : Jvm.ClassFile.Instr)) := ⟨_, rfl, rfl⟩
theorem dk_18_ {c : ByteArray} {pc : Nat} {q : UInt8} {i : Nat} (h : c.data.toList[pc]? = some 0x12) (h1 : c.data.toList[pc + 1]? = some q) (hi : q.toNat = i) : decode c pc = .ok (.ldc i, 2) := by
  obtain ⟨K, e, k⟩ := dk_18 pc
  subst hi
  exact dk_oneU h h1 e k
theorem dk_172 (pc : Nat) : ∃ K : Nat → Jvm.ClassFile.Decoder Jvm.ClassFile.Instr, Jvm.ClassFile.Decoder.instr pc = (Jvm.ClassFile.Reader.u1 >>= K) ∧ K 172 = Pure.pure (.ireturn : Jvm.ClassFile.Instr) := ⟨_, rfl, rfl⟩
theorem dk_172_ {c : ByteArray} {pc : Nat} (h : c.data.toList[pc]? = some 0xac) : decode c pc = .ok (.ireturn, 1) := by
  obtain ⟨K, e, k⟩ := dk_172 pc
  exact dk_one h e k
theorem dk_46 (pc : Nat) : ∃ K : Nat → Jvm.ClassFile.Decoder Jvm.ClassFile.Instr, Jvm.ClassFile.Decoder.instr pc = (Jvm.ClassFile.Reader.u1 >>= K) ∧ K 46 = Pure.pure (.iaload : Jvm.ClassFile.Instr) := ⟨_, rfl, rfl⟩
theorem dk_46_ {c : ByteArray} {pc : Nat} (h : c.data.toList[pc]? = some 0x2e) : decode c pc = .ok (.iaload, 1) := by
  obtain ⟨K, e, k⟩ := dk_46 pc
  exact dk_one h e k
theorem dk_54 (pc : Nat) : ∃ K : Nat → Jvm.ClassFile.Decoder Jvm.ClassFile.Instr, Jvm.ClassFile.Decoder.instr pc = (Jvm.ClassFile.Reader.u1 >>= K) ∧ K 54 = (Jvm.ClassFile.Reader.u1 >>= fun i => Pure.pure (.istore i : Jvm.ClassFile.Instr)) := ⟨_, rfl, rfl⟩
theorem dk_54_ {c : ByteArray} {pc : Nat} {q : UInt8} {i : Nat} (h : c.data.toList[pc]? = some 0x36) (h1 : c.data.toList[pc + 1]? = some q) (hi : q.toNat = i) : decode c pc = .ok (.istore i, 2) := by
  obtain ⟨K, e, k⟩ := dk_54 pc
  subst hi
  exact dk_oneU h h1 e k
theorem dk_21 (pc : Nat) : ∃ K : Nat → Jvm.ClassFile.Decoder Jvm.ClassFile.Instr, Jvm.ClassFile.Decoder.instr pc = (Jvm.ClassFile.Reader.u1 >>= K) ∧ K 21 = (Jvm.ClassFile.Reader.u1 >>= fun i => Pure.pure (.iload i : Jvm.ClassFile.Instr)) := ⟨_, rfl, rfl⟩
theorem dk_21_ {c : ByteArray} {pc : Nat} {q : UInt8} {i : Nat} (h : c.data.toList[pc]? = some 0x15) (h1 : c.data.toList[pc + 1]? = some q) (hi : q.toNat = i) : decode c pc = .ok (.iload i, 2) := by
  obtain ⟨K, e, k⟩ := dk_21 pc
  subst hi
  exact dk_oneU h h1 e k
theorem dk_159 (pc : Nat) : ∃ K : Nat → Jvm.ClassFile.Decoder Jvm.ClassFile.Instr, Jvm.ClassFile.Decoder.instr pc = (Jvm.ClassFile.Reader.u1 >>= K) ∧ K 159 = (Jvm.ClassFile.Reader.s2 >>= fun i => Pure.pure (.if_icmp .eq i : Jvm.ClassFile.Instr)) := ⟨_, rfl, rfl⟩
theorem dk_159_ {c : ByteArray} {pc : Nat} {q r : UInt8} {i : Int} (h : c.data.toList[pc]? = some 0x9f) (h1 : c.data.toList[pc + 1]? = some q) (h2 : c.data.toList[pc + 1 + 1]? = some r) (hi : Jvm.ClassFile.Reader.signed 16 (q.toNat * 256 + r.toNat) = i) : decode c pc = .ok (.if_icmp .eq i, 3) := by
  obtain ⟨K, e, k⟩ := dk_159 pc
  subst hi
  exact dk_twoS h h1 h2 e k
theorem dk_60 (pc : Nat) : ∃ K : Nat → Jvm.ClassFile.Decoder Jvm.ClassFile.Instr, Jvm.ClassFile.Decoder.instr pc = (Jvm.ClassFile.Reader.u1 >>= K) ∧ K 60 = Pure.pure (.istore_n 1 : Jvm.ClassFile.Instr) := ⟨_, rfl, rfl⟩
theorem dk_60_ {c : ByteArray} {pc : Nat} (h : c.data.toList[pc]? = some 0x3c) : decode c pc = .ok (.istore_n 1, 1) := by
  obtain ⟨K, e, k⟩ := dk_60 pc
  exact dk_one h e k
theorem dk_156 (pc : Nat) : ∃ K : Nat → Jvm.ClassFile.Decoder Jvm.ClassFile.Instr, Jvm.ClassFile.Decoder.instr pc = (Jvm.ClassFile.Reader.u1 >>= K) ∧ K 156 = (Jvm.ClassFile.Reader.s2 >>= fun i => Pure.pure (.ifCond .ge i : Jvm.ClassFile.Instr)) := ⟨_, rfl, rfl⟩
theorem dk_156_ {c : ByteArray} {pc : Nat} {q r : UInt8} {i : Int} (h : c.data.toList[pc]? = some 0x9c) (h1 : c.data.toList[pc + 1]? = some q) (h2 : c.data.toList[pc + 1 + 1]? = some r) (hi : Jvm.ClassFile.Reader.signed 16 (q.toNat * 256 + r.toNat) = i) : decode c pc = .ok (.ifCond .ge i, 3) := by
  obtain ⟨K, e, k⟩ := dk_156 pc
  subst hi
  exact dk_twoS h h1 h2 e k
theorem dk_120 (pc : Nat) : ∃ K : Nat → Jvm.ClassFile.Decoder Jvm.ClassFile.Instr, Jvm.ClassFile.Decoder.instr pc = (Jvm.ClassFile.Reader.u1 >>= K) ∧ K 120 = Pure.pure (.ishl : Jvm.ClassFile.Instr) := ⟨_, rfl, rfl⟩
theorem dk_120_ {c : ByteArray} {pc : Nat} (h : c.data.toList[pc]? = some 0x78) : decode c pc = .ok (.ishl, 1) := by
  obtain ⟨K, e, k⟩ := dk_120 pc
  exact dk_one h e k
theorem dk_128 (pc : Nat) : ∃ K : Nat → Jvm.ClassFile.Decoder Jvm.ClassFile.Instr, Jvm.ClassFile.Decoder.instr pc = (Jvm.ClassFile.Reader.u1 >>= K) ∧ K 128 = Pure.pure (.ior : Jvm.ClassFile.Instr) := ⟨_, rfl, rfl⟩
theorem dk_128_ {c : ByteArray} {pc : Nat} (h : c.data.toList[pc]? = some 0x80) : decode c pc = .ok (.ior, 1) := by
  obtain ⟨K, e, k⟩ := dk_128 pc
  exact dk_one h e k
theorem dk_2 (pc : Nat) : ∃ K : Nat → Jvm.ClassFile.Decoder Jvm.ClassFile.Instr, Jvm.ClassFile.Decoder.instr pc = (Jvm.ClassFile.Reader.u1 >>= K) ∧ K 2 = Pure.pure (.iconst (-1) : Jvm.ClassFile.Instr) := ⟨_, rfl, rfl⟩
theorem dk_2_ {c : ByteArray} {pc : Nat} (h : c.data.toList[pc]? = some 0x02) : decode c pc = .ok (.iconst (-1), 1) := by
  obtain ⟨K, e, k⟩ := dk_2 pc
  exact dk_one h e k
theorem dk_158 (pc : Nat) : ∃ K : Nat → Jvm.ClassFile.Decoder Jvm.ClassFile.Instr, Jvm.ClassFile.Decoder.instr pc = (Jvm.ClassFile.Reader.u1 >>= K) ∧ K 158 = (Jvm.ClassFile.Reader.s2 >>= fun i => Pure.pure (.ifCond .le i : Jvm.ClassFile.Instr)) := ⟨_, rfl, rfl⟩
theorem dk_158_ {c : ByteArray} {pc : Nat} {q r : UInt8} {i : Int} (h : c.data.toList[pc]? = some 0x9e) (h1 : c.data.toList[pc + 1]? = some q) (h2 : c.data.toList[pc + 1 + 1]? = some r) (hi : Jvm.ClassFile.Reader.signed 16 (q.toNat * 256 + r.toNat) = i) : decode c pc = .ok (.ifCond .le i, 3) := by
  obtain ⟨K, e, k⟩ := dk_158 pc
  subst hi
  exact dk_twoS h h1 h2 e k
theorem dk_154 (pc : Nat) : ∃ K : Nat → Jvm.ClassFile.Decoder Jvm.ClassFile.Instr, Jvm.ClassFile.Decoder.instr pc = (Jvm.ClassFile.Reader.u1 >>= K) ∧ K 154 = (Jvm.ClassFile.Reader.s2 >>= fun i => Pure.pure (.ifCond .ne i : Jvm.ClassFile.Instr)) := ⟨_, rfl, rfl⟩
theorem dk_154_ {c : ByteArray} {pc : Nat} {q r : UInt8} {i : Int} (h : c.data.toList[pc]? = some 0x9a) (h1 : c.data.toList[pc + 1]? = some q) (h2 : c.data.toList[pc + 1 + 1]? = some r) (hi : Jvm.ClassFile.Reader.signed 16 (q.toNat * 256 + r.toNat) = i) : decode c pc = .ok (.ifCond .ne i, 3) := by
  obtain ⟨K, e, k⟩ := dk_154 pc
  subst hi
  exact dk_twoS h h1 h2 e k
theorem dk_44 (pc : Nat) : ∃ K : Nat → Jvm.ClassFile.Decoder Jvm.ClassFile.Instr, Jvm.ClassFile.Decoder.instr pc = (Jvm.ClassFile.Reader.u1 >>= K) ∧ K 44 = Pure.pure (.aload_n 2 : Jvm.ClassFile.Instr) := ⟨_, rfl, rfl⟩
theorem dk_44_ {c : ByteArray} {pc : Nat} (h : c.data.toList[pc]? = some 0x2c) : decode c pc = .ok (.aload_n 2, 1) := by
  obtain ⟨K, e, k⟩ := dk_44 pc
  exact dk_one h e k
theorem dk_163 (pc : Nat) : ∃ K : Nat → Jvm.ClassFile.Decoder Jvm.ClassFile.Instr, Jvm.ClassFile.Decoder.instr pc = (Jvm.ClassFile.Reader.u1 >>= K) ∧ K 163 = (Jvm.ClassFile.Reader.s2 >>= fun i => Pure.pure (.if_icmp .gt i : Jvm.ClassFile.Instr)) := ⟨_, rfl, rfl⟩
theorem dk_163_ {c : ByteArray} {pc : Nat} {q r : UInt8} {i : Int} (h : c.data.toList[pc]? = some 0xa3) (h1 : c.data.toList[pc + 1]? = some q) (h2 : c.data.toList[pc + 1 + 1]? = some r) (hi : Jvm.ClassFile.Reader.signed 16 (q.toNat * 256 + r.toNat) = i) : decode c pc = .ok (.if_icmp .gt i, 3) := by
  obtain ⟨K, e, k⟩ := dk_163 pc
  subst hi
  exact dk_twoS h h1 h2 e k
theorem dk_187 (pc : Nat) : ∃ K : Nat → Jvm.ClassFile.Decoder Jvm.ClassFile.Instr, Jvm.ClassFile.Decoder.instr pc = (Jvm.ClassFile.Reader.u1 >>= K) ∧ K 187 = (Jvm.ClassFile.Reader.u2 >>= fun i => Pure.pure (.new i : Jvm.ClassFile.Instr)) := ⟨_, rfl, rfl⟩
theorem dk_187_ {c : ByteArray} {pc : Nat} {q r : UInt8} {i : Nat} (h : c.data.toList[pc]? = some 0xbb) (h1 : c.data.toList[pc + 1]? = some q) (h2 : c.data.toList[pc + 1 + 1]? = some r) (hi : q.toNat * 256 + r.toNat = i) : decode c pc = .ok (.new i, 3) := by
  obtain ⟨K, e, k⟩ := dk_187 pc
  subst hi
  exact dk_two h h1 h2 e k
theorem dk_89 (pc : Nat) : ∃ K : Nat → Jvm.ClassFile.Decoder Jvm.ClassFile.Instr, Jvm.ClassFile.Decoder.instr pc = (Jvm.ClassFile.Reader.u1 >>= K) ∧ K 89 = Pure.pure (.dup : Jvm.ClassFile.Instr) := ⟨_, rfl, rfl⟩
theorem dk_89_ {c : ByteArray} {pc : Nat} (h : c.data.toList[pc]? = some 0x59) : decode c pc = .ok (.dup, 1) := by
  obtain ⟨K, e, k⟩ := dk_89 pc
  exact dk_one h e k
theorem dk_31 (pc : Nat) : ∃ K : Nat → Jvm.ClassFile.Decoder Jvm.ClassFile.Instr, Jvm.ClassFile.Decoder.instr pc = (Jvm.ClassFile.Reader.u1 >>= K) ∧ K 31 = Pure.pure (.lload_n 1 : Jvm.ClassFile.Instr) := ⟨_, rfl, rfl⟩
theorem dk_31_ {c : ByteArray} {pc : Nat} (h : c.data.toList[pc]? = some 0x1f) : decode c pc = .ok (.lload_n 1, 1) := by
  obtain ⟨K, e, k⟩ := dk_31 pc
  exact dk_one h e k
theorem dk_9 (pc : Nat) : ∃ K : Nat → Jvm.ClassFile.Decoder Jvm.ClassFile.Instr, Jvm.ClassFile.Decoder.instr pc = (Jvm.ClassFile.Reader.u1 >>= K) ∧ K 9 = Pure.pure (.lconst 0 : Jvm.ClassFile.Instr) := ⟨_, rfl, rfl⟩
theorem dk_9_ {c : ByteArray} {pc : Nat} (h : c.data.toList[pc]? = some 0x09) : decode c pc = .ok (.lconst 0, 1) := by
  obtain ⟨K, e, k⟩ := dk_9 pc
  exact dk_one h e k
theorem dk_148 (pc : Nat) : ∃ K : Nat → Jvm.ClassFile.Decoder Jvm.ClassFile.Instr, Jvm.ClassFile.Decoder.instr pc = (Jvm.ClassFile.Reader.u1 >>= K) ∧ K 148 = Pure.pure (.lcmp : Jvm.ClassFile.Instr) := ⟨_, rfl, rfl⟩
theorem dk_148_ {c : ByteArray} {pc : Nat} (h : c.data.toList[pc]? = some 0x94) : decode c pc = .ok (.lcmp, 1) := by
  obtain ⟨K, e, k⟩ := dk_148 pc
  exact dk_one h e k
theorem dk_155 (pc : Nat) : ∃ K : Nat → Jvm.ClassFile.Decoder Jvm.ClassFile.Instr, Jvm.ClassFile.Decoder.instr pc = (Jvm.ClassFile.Reader.u1 >>= K) ∧ K 155 = (Jvm.ClassFile.Reader.s2 >>= fun i => Pure.pure (.ifCond .lt i : Jvm.ClassFile.Instr)) := ⟨_, rfl, rfl⟩
theorem dk_155_ {c : ByteArray} {pc : Nat} {q r : UInt8} {i : Int} (h : c.data.toList[pc]? = some 0x9b) (h1 : c.data.toList[pc + 1]? = some q) (h2 : c.data.toList[pc + 1 + 1]? = some r) (hi : Jvm.ClassFile.Reader.signed 16 (q.toNat * 256 + r.toNat) = i) : decode c pc = .ok (.ifCond .lt i, 3) := by
  obtain ⟨K, e, k⟩ := dk_155 pc
  subst hi
  exact dk_twoS h h1 h2 e k
theorem dk_133 (pc : Nat) : ∃ K : Nat → Jvm.ClassFile.Decoder Jvm.ClassFile.Instr, Jvm.ClassFile.Decoder.instr pc = (Jvm.ClassFile.Reader.u1 >>= K) ∧ K 133 = Pure.pure (.i2l : Jvm.ClassFile.Instr) := ⟨_, rfl, rfl⟩
theorem dk_133_ {c : ByteArray} {pc : Nat} (h : c.data.toList[pc]? = some 0x85) : decode c pc = .ok (.i2l, 1) := by
  obtain ⟨K, e, k⟩ := dk_133 pc
  exact dk_one h e k
theorem dk_26 (pc : Nat) : ∃ K : Nat → Jvm.ClassFile.Decoder Jvm.ClassFile.Instr, Jvm.ClassFile.Decoder.instr pc = (Jvm.ClassFile.Reader.u1 >>= K) ∧ K 26 = Pure.pure (.iload_n 0 : Jvm.ClassFile.Instr) := ⟨_, rfl, rfl⟩
theorem dk_26_ {c : ByteArray} {pc : Nat} (h : c.data.toList[pc]? = some 0x1a) : decode c pc = .ok (.iload_n 0, 1) := by
  obtain ⟨K, e, k⟩ := dk_26 pc
  exact dk_one h e k
theorem dk_5 (pc : Nat) : ∃ K : Nat → Jvm.ClassFile.Decoder Jvm.ClassFile.Instr, Jvm.ClassFile.Decoder.instr pc = (Jvm.ClassFile.Reader.u1 >>= K) ∧ K 5 = Pure.pure (.iconst 2 : Jvm.ClassFile.Instr) := ⟨_, rfl, rfl⟩
theorem dk_5_ {c : ByteArray} {pc : Nat} (h : c.data.toList[pc]? = some 0x05) : decode c pc = .ok (.iconst 2, 1) := by
  obtain ⟨K, e, k⟩ := dk_5 pc
  exact dk_one h e k
theorem dk_100 (pc : Nat) : ∃ K : Nat → Jvm.ClassFile.Decoder Jvm.ClassFile.Instr, Jvm.ClassFile.Decoder.instr pc = (Jvm.ClassFile.Reader.u1 >>= K) ∧ K 100 = Pure.pure (.isub : Jvm.ClassFile.Instr) := ⟨_, rfl, rfl⟩
theorem dk_100_ {c : ByteArray} {pc : Nat} (h : c.data.toList[pc]? = some 0x64) : decode c pc = .ok (.isub, 1) := by
  obtain ⟨K, e, k⟩ := dk_100 pc
  exact dk_one h e k
theorem dk_164 (pc : Nat) : ∃ K : Nat → Jvm.ClassFile.Decoder Jvm.ClassFile.Instr, Jvm.ClassFile.Decoder.instr pc = (Jvm.ClassFile.Reader.u1 >>= K) ∧ K 164 = (Jvm.ClassFile.Reader.s2 >>= fun i => Pure.pure (.if_icmp .le i : Jvm.ClassFile.Instr)) := ⟨_, rfl, rfl⟩
theorem dk_164_ {c : ByteArray} {pc : Nat} {q r : UInt8} {i : Int} (h : c.data.toList[pc]? = some 0xa4) (h1 : c.data.toList[pc + 1]? = some q) (h2 : c.data.toList[pc + 1 + 1]? = some r) (hi : Jvm.ClassFile.Reader.signed 16 (q.toNat * 256 + r.toNat) = i) : decode c pc = .ok (.if_icmp .le i, 3) := by
  obtain ⟨K, e, k⟩ := dk_164 pc
  subst hi
  exact dk_twoS h h1 h2 e k
theorem dk_161 (pc : Nat) : ∃ K : Nat → Jvm.ClassFile.Decoder Jvm.ClassFile.Instr, Jvm.ClassFile.Decoder.instr pc = (Jvm.ClassFile.Reader.u1 >>= K) ∧ K 161 = (Jvm.ClassFile.Reader.s2 >>= fun i => Pure.pure (.if_icmp .lt i : Jvm.ClassFile.Instr)) := ⟨_, rfl, rfl⟩
theorem dk_161_ {c : ByteArray} {pc : Nat} {q r : UInt8} {i : Int} (h : c.data.toList[pc]? = some 0xa1) (h1 : c.data.toList[pc + 1]? = some q) (h2 : c.data.toList[pc + 1 + 1]? = some r) (hi : Jvm.ClassFile.Reader.signed 16 (q.toNat * 256 + r.toNat) = i) : decode c pc = .ok (.if_icmp .lt i, 3) := by
  obtain ⟨K, e, k⟩ := dk_161 pc
  subst hi
  exact dk_twoS h h1 h2 e k
theorem dk_87 (pc : Nat) : ∃ K : Nat → Jvm.ClassFile.Decoder Jvm.ClassFile.Instr, Jvm.ClassFile.Decoder.instr pc = (Jvm.ClassFile.Reader.u1 >>= K) ∧ K 87 = Pure.pure (.pop : Jvm.ClassFile.Instr) := ⟨_, rfl, rfl⟩
theorem dk_87_ {c : ByteArray} {pc : Nat} (h : c.data.toList[pc]? = some 0x57) : decode c pc = .ok (.pop, 1) := by
  obtain ⟨K, e, k⟩ := dk_87 pc
  exact dk_one h e k
theorem dk_92 (pc : Nat) : ∃ K : Nat → Jvm.ClassFile.Decoder Jvm.ClassFile.Instr, Jvm.ClassFile.Decoder.instr pc = (Jvm.ClassFile.Reader.u1 >>= K) ∧ K 92 = Pure.pure (.dup2 : Jvm.ClassFile.Instr) := ⟨_, rfl, rfl⟩
theorem dk_92_ {c : ByteArray} {pc : Nat} (h : c.data.toList[pc]? = some 0x5c) : decode c pc = .ok (.dup2, 1) := by
  obtain ⟨K, e, k⟩ := dk_92 pc
  exact dk_one h e k
theorem dk_80 (pc : Nat) : ∃ K : Nat → Jvm.ClassFile.Decoder Jvm.ClassFile.Instr, Jvm.ClassFile.Decoder.instr pc = (Jvm.ClassFile.Reader.u1 >>= K) ∧ K 80 = Pure.pure (.lastore : Jvm.ClassFile.Instr) := ⟨_, rfl, rfl⟩
theorem dk_80_ {c : ByteArray} {pc : Nat} (h : c.data.toList[pc]? = some 0x50) : decode c pc = .ok (.lastore, 1) := by
  obtain ⟨K, e, k⟩ := dk_80 pc
  exact dk_one h e k
theorem dk_136 (pc : Nat) : ∃ K : Nat → Jvm.ClassFile.Decoder Jvm.ClassFile.Instr, Jvm.ClassFile.Decoder.instr pc = (Jvm.ClassFile.Reader.u1 >>= K) ∧ K 136 = Pure.pure (.l2i : Jvm.ClassFile.Instr) := ⟨_, rfl, rfl⟩
theorem dk_136_ {c : ByteArray} {pc : Nat} (h : c.data.toList[pc]? = some 0x88) : decode c pc = .ok (.l2i, 1) := by
  obtain ⟨K, e, k⟩ := dk_136 pc
  exact dk_one h e k
theorem dk_145 (pc : Nat) : ∃ K : Nat → Jvm.ClassFile.Decoder Jvm.ClassFile.Instr, Jvm.ClassFile.Decoder.instr pc = (Jvm.ClassFile.Reader.u1 >>= K) ∧ K 145 = Pure.pure (.i2b : Jvm.ClassFile.Instr) := ⟨_, rfl, rfl⟩
theorem dk_145_ {c : ByteArray} {pc : Nat} (h : c.data.toList[pc]? = some 0x91) : decode c pc = .ok (.i2b, 1) := by
  obtain ⟨K, e, k⟩ := dk_145 pc
  exact dk_one h e k
theorem dk_173 (pc : Nat) : ∃ K : Nat → Jvm.ClassFile.Decoder Jvm.ClassFile.Instr, Jvm.ClassFile.Decoder.instr pc = (Jvm.ClassFile.Reader.u1 >>= K) ∧ K 173 = Pure.pure (.lreturn : Jvm.ClassFile.Instr) := ⟨_, rfl, rfl⟩
theorem dk_173_ {c : ByteArray} {pc : Nat} (h : c.data.toList[pc]? = some 0xad) : decode c pc = .ok (.lreturn, 1) := by
  obtain ⟨K, e, k⟩ := dk_173 pc
  exact dk_one h e k
theorem dk_147 (pc : Nat) : ∃ K : Nat → Jvm.ClassFile.Decoder Jvm.ClassFile.Instr, Jvm.ClassFile.Decoder.instr pc = (Jvm.ClassFile.Reader.u1 >>= K) ∧ K 147 = Pure.pure (.i2s : Jvm.ClassFile.Instr) := ⟨_, rfl, rfl⟩
theorem dk_147_ {c : ByteArray} {pc : Nat} (h : c.data.toList[pc]? = some 0x93) : decode c pc = .ok (.i2s, 1) := by
  obtain ⟨K, e, k⟩ := dk_147 pc
  exact dk_one h e k
theorem dk_84 (pc : Nat) : ∃ K : Nat → Jvm.ClassFile.Decoder Jvm.ClassFile.Instr, Jvm.ClassFile.Decoder.instr pc = (Jvm.ClassFile.Reader.u1 >>= K) ∧ K 84 = Pure.pure (.bastore : Jvm.ClassFile.Instr) := ⟨_, rfl, rfl⟩
theorem dk_84_ {c : ByteArray} {pc : Nat} (h : c.data.toList[pc]? = some 0x54) : decode c pc = .ok (.bastore, 1) := by
  obtain ⟨K, e, k⟩ := dk_84 pc
  exact dk_one h e k
theorem dk_51 (pc : Nat) : ∃ K : Nat → Jvm.ClassFile.Decoder Jvm.ClassFile.Instr, Jvm.ClassFile.Decoder.instr pc = (Jvm.ClassFile.Reader.u1 >>= K) ∧ K 51 = Pure.pure (.baload : Jvm.ClassFile.Instr) := ⟨_, rfl, rfl⟩
theorem dk_51_ {c : ByteArray} {pc : Nat} (h : c.data.toList[pc]? = some 0x33) : decode c pc = .ok (.baload, 1) := by
  obtain ⟨K, e, k⟩ := dk_51 pc
  exact dk_one h e k
theorem dk_108 (pc : Nat) : ∃ K : Nat → Jvm.ClassFile.Decoder Jvm.ClassFile.Instr, Jvm.ClassFile.Decoder.instr pc = (Jvm.ClassFile.Reader.u1 >>= K) ∧ K 108 = Pure.pure (.idiv : Jvm.ClassFile.Instr) := ⟨_, rfl, rfl⟩
theorem dk_108_ {c : ByteArray} {pc : Nat} (h : c.data.toList[pc]? = some 0x6c) : decode c pc = .ok (.idiv, 1) := by
  obtain ⟨K, e, k⟩ := dk_108 pc
  exact dk_one h e k
theorem dk_17 (pc : Nat) : ∃ K : Nat → Jvm.ClassFile.Decoder Jvm.ClassFile.Instr, Jvm.ClassFile.Decoder.instr pc = (Jvm.ClassFile.Reader.u1 >>= K) ∧ K 17 = (Jvm.ClassFile.Reader.s2 >>= fun i => Pure.pure (.sipush i : Jvm.ClassFile.Instr)) := ⟨_, rfl, rfl⟩
theorem dk_17_ {c : ByteArray} {pc : Nat} {q r : UInt8} {i : Int} (h : c.data.toList[pc]? = some 0x11) (h1 : c.data.toList[pc + 1]? = some q) (h2 : c.data.toList[pc + 1 + 1]? = some r) (hi : Jvm.ClassFile.Reader.signed 16 (q.toNat * 256 + r.toNat) = i) : decode c pc = .ok (.sipush i, 3) := by
  obtain ⟨K, e, k⟩ := dk_17 pc
  subst hi
  exact dk_twoS h h1 h2 e k
theorem dk_126 (pc : Nat) : ∃ K : Nat → Jvm.ClassFile.Decoder Jvm.ClassFile.Instr, Jvm.ClassFile.Decoder.instr pc = (Jvm.ClassFile.Reader.u1 >>= K) ∧ K 126 = Pure.pure (.iand : Jvm.ClassFile.Instr) := ⟨_, rfl, rfl⟩
theorem dk_126_ {c : ByteArray} {pc : Nat} (h : c.data.toList[pc]? = some 0x7e) : decode c pc = .ok (.iand, 1) := by
  obtain ⟨K, e, k⟩ := dk_126 pc
  exact dk_one h e k
theorem dk_6 (pc : Nat) : ∃ K : Nat → Jvm.ClassFile.Decoder Jvm.ClassFile.Instr, Jvm.ClassFile.Decoder.instr pc = (Jvm.ClassFile.Reader.u1 >>= K) ∧ K 6 = Pure.pure (.iconst 3 : Jvm.ClassFile.Instr) := ⟨_, rfl, rfl⟩
theorem dk_6_ {c : ByteArray} {pc : Nat} (h : c.data.toList[pc]? = some 0x06) : decode c pc = .ok (.iconst 3, 1) := by
  obtain ⟨K, e, k⟩ := dk_6 pc
  exact dk_one h e k
theorem dk_7 (pc : Nat) : ∃ K : Nat → Jvm.ClassFile.Decoder Jvm.ClassFile.Instr, Jvm.ClassFile.Decoder.instr pc = (Jvm.ClassFile.Reader.u1 >>= K) ∧ K 7 = Pure.pure (.iconst 4 : Jvm.ClassFile.Instr) := ⟨_, rfl, rfl⟩
theorem dk_7_ {c : ByteArray} {pc : Nat} (h : c.data.toList[pc]? = some 0x07) : decode c pc = .ok (.iconst 4, 1) := by
  obtain ⟨K, e, k⟩ := dk_7 pc
  exact dk_one h e k
theorem dk_116 (pc : Nat) : ∃ K : Nat → Jvm.ClassFile.Decoder Jvm.ClassFile.Instr, Jvm.ClassFile.Decoder.instr pc = (Jvm.ClassFile.Reader.u1 >>= K) ∧ K 116 = Pure.pure (.ineg : Jvm.ClassFile.Instr) := ⟨_, rfl, rfl⟩
theorem dk_116_ {c : ByteArray} {pc : Nat} (h : c.data.toList[pc]? = some 0x74) : decode c pc = .ok (.ineg, 1) := by
  obtain ⟨K, e, k⟩ := dk_116 pc
  exact dk_one h e k
theorem dk_8 (pc : Nat) : ∃ K : Nat → Jvm.ClassFile.Decoder Jvm.ClassFile.Instr, Jvm.ClassFile.Decoder.instr pc = (Jvm.ClassFile.Reader.u1 >>= K) ∧ K 8 = Pure.pure (.iconst 5 : Jvm.ClassFile.Instr) := ⟨_, rfl, rfl⟩
theorem dk_8_ {c : ByteArray} {pc : Nat} (h : c.data.toList[pc]? = some 0x08) : decode c pc = .ok (.iconst 5, 1) := by
  obtain ⟨K, e, k⟩ := dk_8 pc
  exact dk_one h e k
theorem dk_189 (pc : Nat) : ∃ K : Nat → Jvm.ClassFile.Decoder Jvm.ClassFile.Instr, Jvm.ClassFile.Decoder.instr pc = (Jvm.ClassFile.Reader.u1 >>= K) ∧ K 189 = (Jvm.ClassFile.Reader.u2 >>= fun i => Pure.pure (.anewarray i : Jvm.ClassFile.Instr)) := ⟨_, rfl, rfl⟩
theorem dk_189_ {c : ByteArray} {pc : Nat} {q r : UInt8} {i : Nat} (h : c.data.toList[pc]? = some 0xbd) (h1 : c.data.toList[pc + 1]? = some q) (h2 : c.data.toList[pc + 1 + 1]? = some r) (hi : q.toNat * 256 + r.toNat = i) : decode c pc = .ok (.anewarray i, 3) := by
  obtain ⟨K, e, k⟩ := dk_189 pc
  subst hi
  exact dk_two h h1 h2 e k
theorem dk_83 (pc : Nat) : ∃ K : Nat → Jvm.ClassFile.Decoder Jvm.ClassFile.Instr, Jvm.ClassFile.Decoder.instr pc = (Jvm.ClassFile.Reader.u1 >>= K) ∧ K 83 = Pure.pure (.aastore : Jvm.ClassFile.Instr) := ⟨_, rfl, rfl⟩
theorem dk_83_ {c : ByteArray} {pc : Nat} (h : c.data.toList[pc]? = some 0x53) : decode c pc = .ok (.aastore, 1) := by
  obtain ⟨K, e, k⟩ := dk_83 pc
  exact dk_one h e k
theorem dk_124 (pc : Nat) : ∃ K : Nat → Jvm.ClassFile.Decoder Jvm.ClassFile.Instr, Jvm.ClassFile.Decoder.instr pc = (Jvm.ClassFile.Reader.u1 >>= K) ∧ K 124 = Pure.pure (.iushr : Jvm.ClassFile.Instr) := ⟨_, rfl, rfl⟩
theorem dk_124_ {c : ByteArray} {pc : Nat} (h : c.data.toList[pc]? = some 0x7c) : decode c pc = .ok (.iushr, 1) := by
  obtain ⟨K, e, k⟩ := dk_124 pc
  exact dk_one h e k
theorem dk_19 (pc : Nat) : ∃ K : Nat → Jvm.ClassFile.Decoder Jvm.ClassFile.Instr, Jvm.ClassFile.Decoder.instr pc = (Jvm.ClassFile.Reader.u1 >>= K) ∧ K 19 = (Jvm.ClassFile.Reader.u2 >>= fun i => Pure.pure (.ldc_w i : Jvm.ClassFile.Instr)) := ⟨_, rfl, rfl⟩
theorem dk_19_ {c : ByteArray} {pc : Nat} {q r : UInt8} {i : Nat} (h : c.data.toList[pc]? = some 0x13) (h1 : c.data.toList[pc + 1]? = some q) (h2 : c.data.toList[pc + 1 + 1]? = some r) (hi : q.toNat * 256 + r.toNat = i) : decode c pc = .ok (.ldc_w i, 3) := by
  obtain ⟨K, e, k⟩ := dk_19 pc
  subst hi
  exact dk_two h h1 h2 e k
theorem dk_50 (pc : Nat) : ∃ K : Nat → Jvm.ClassFile.Decoder Jvm.ClassFile.Instr, Jvm.ClassFile.Decoder.instr pc = (Jvm.ClassFile.Reader.u1 >>= K) ∧ K 50 = Pure.pure (.aaload : Jvm.ClassFile.Instr) := ⟨_, rfl, rfl⟩
theorem dk_50_ {c : ByteArray} {pc : Nat} (h : c.data.toList[pc]? = some 0x32) : decode c pc = .ok (.aaload, 1) := by
  obtain ⟨K, e, k⟩ := dk_50 pc
  exact dk_one h e k
theorem dk_58 (pc : Nat) : ∃ K : Nat → Jvm.ClassFile.Decoder Jvm.ClassFile.Instr, Jvm.ClassFile.Decoder.instr pc = (Jvm.ClassFile.Reader.u1 >>= K) ∧ K 58 = (Jvm.ClassFile.Reader.u1 >>= fun i => Pure.pure (.astore i : Jvm.ClassFile.Instr)) := ⟨_, rfl, rfl⟩
theorem dk_58_ {c : ByteArray} {pc : Nat} {q : UInt8} {i : Nat} (h : c.data.toList[pc]? = some 0x3a) (h1 : c.data.toList[pc + 1]? = some q) (hi : q.toNat = i) : decode c pc = .ok (.astore i, 2) := by
  obtain ⟨K, e, k⟩ := dk_58 pc
  subst hi
  exact dk_oneU h h1 e k
theorem dk_25 (pc : Nat) : ∃ K : Nat → Jvm.ClassFile.Decoder Jvm.ClassFile.Instr, Jvm.ClassFile.Decoder.instr pc = (Jvm.ClassFile.Reader.u1 >>= K) ∧ K 25 = (Jvm.ClassFile.Reader.u1 >>= fun i => Pure.pure (.aload i : Jvm.ClassFile.Instr)) := ⟨_, rfl, rfl⟩
theorem dk_25_ {c : ByteArray} {pc : Nat} {q : UInt8} {i : Nat} (h : c.data.toList[pc]? = some 0x19) (h1 : c.data.toList[pc + 1]? = some q) (hi : q.toNat = i) : decode c pc = .ok (.aload i, 2) := by
  obtain ⟨K, e, k⟩ := dk_25 pc
  subst hi
  exact dk_oneU h h1 e k
theorem dk_47 (pc : Nat) : ∃ K : Nat → Jvm.ClassFile.Decoder Jvm.ClassFile.Instr, Jvm.ClassFile.Decoder.instr pc = (Jvm.ClassFile.Reader.u1 >>= K) ∧ K 47 = Pure.pure (.laload : Jvm.ClassFile.Instr) := ⟨_, rfl, rfl⟩
theorem dk_47_ {c : ByteArray} {pc : Nat} (h : c.data.toList[pc]? = some 0x2f) : decode c pc = .ok (.laload, 1) := by
  obtain ⟨K, e, k⟩ := dk_47 pc
  exact dk_one h e k
theorem dk_55 (pc : Nat) : ∃ K : Nat → Jvm.ClassFile.Decoder Jvm.ClassFile.Instr, Jvm.ClassFile.Decoder.instr pc = (Jvm.ClassFile.Reader.u1 >>= K) ∧ K 55 = (Jvm.ClassFile.Reader.u1 >>= fun i => Pure.pure (.lstore i : Jvm.ClassFile.Instr)) := ⟨_, rfl, rfl⟩
theorem dk_55_ {c : ByteArray} {pc : Nat} {q : UInt8} {i : Nat} (h : c.data.toList[pc]? = some 0x37) (h1 : c.data.toList[pc + 1]? = some q) (hi : q.toNat = i) : decode c pc = .ok (.lstore i, 2) := by
  obtain ⟨K, e, k⟩ := dk_55 pc
  subst hi
  exact dk_oneU h h1 e k
theorem dk_33 (pc : Nat) : ∃ K : Nat → Jvm.ClassFile.Decoder Jvm.ClassFile.Instr, Jvm.ClassFile.Decoder.instr pc = (Jvm.ClassFile.Reader.u1 >>= K) ∧ K 33 = Pure.pure (.lload_n 3 : Jvm.ClassFile.Instr) := ⟨_, rfl, rfl⟩
theorem dk_33_ {c : ByteArray} {pc : Nat} (h : c.data.toList[pc]? = some 0x21) : decode c pc = .ok (.lload_n 3, 1) := by
  obtain ⟨K, e, k⟩ := dk_33 pc
  exact dk_one h e k
theorem dk_22 (pc : Nat) : ∃ K : Nat → Jvm.ClassFile.Decoder Jvm.ClassFile.Instr, Jvm.ClassFile.Decoder.instr pc = (Jvm.ClassFile.Reader.u1 >>= K) ∧ K 22 = (Jvm.ClassFile.Reader.u1 >>= fun i => Pure.pure (.lload i : Jvm.ClassFile.Instr)) := ⟨_, rfl, rfl⟩
theorem dk_22_ {c : ByteArray} {pc : Nat} {q : UInt8} {i : Nat} (h : c.data.toList[pc]? = some 0x16) (h1 : c.data.toList[pc + 1]? = some q) (hi : q.toNat = i) : decode c pc = .ok (.lload i, 2) := by
  obtain ⟨K, e, k⟩ := dk_22 pc
  subst hi
  exact dk_oneU h h1 e k
theorem dk_20 (pc : Nat) : ∃ K : Nat → Jvm.ClassFile.Decoder Jvm.ClassFile.Instr, Jvm.ClassFile.Decoder.instr pc = (Jvm.ClassFile.Reader.u1 >>= K) ∧ K 20 = (Jvm.ClassFile.Reader.u2 >>= fun i => Pure.pure (.ldc2_w i : Jvm.ClassFile.Instr)) := ⟨_, rfl, rfl⟩
theorem dk_20_ {c : ByteArray} {pc : Nat} {q r : UInt8} {i : Nat} (h : c.data.toList[pc]? = some 0x14) (h1 : c.data.toList[pc + 1]? = some q) (h2 : c.data.toList[pc + 1 + 1]? = some r) (hi : q.toNat * 256 + r.toNat = i) : decode c pc = .ok (.ldc2_w i, 3) := by
  obtain ⟨K, e, k⟩ := dk_20 pc
  subst hi
  exact dk_two h h1 h2 e k
theorem dk_157 (pc : Nat) : ∃ K : Nat → Jvm.ClassFile.Decoder Jvm.ClassFile.Instr, Jvm.ClassFile.Decoder.instr pc = (Jvm.ClassFile.Reader.u1 >>= K) ∧ K 157 = (Jvm.ClassFile.Reader.s2 >>= fun i => Pure.pure (.ifCond .gt i : Jvm.ClassFile.Instr)) := ⟨_, rfl, rfl⟩
theorem dk_157_ {c : ByteArray} {pc : Nat} {q r : UInt8} {i : Int} (h : c.data.toList[pc]? = some 0x9d) (h1 : c.data.toList[pc + 1]? = some q) (h2 : c.data.toList[pc + 1 + 1]? = some r) (hi : Jvm.ClassFile.Reader.signed 16 (q.toNat * 256 + r.toNat) = i) : decode c pc = .ok (.ifCond .gt i, 3) := by
  obtain ⟨K, e, k⟩ := dk_157 pc
  subst hi
  exact dk_twoS h h1 h2 e k
theorem dk_178 (pc : Nat) : ∃ K : Nat → Jvm.ClassFile.Decoder Jvm.ClassFile.Instr, Jvm.ClassFile.Decoder.instr pc = (Jvm.ClassFile.Reader.u1 >>= K) ∧ K 178 = (Jvm.ClassFile.Reader.u2 >>= fun i => Pure.pure (.getstatic i : Jvm.ClassFile.Instr)) := ⟨_, rfl, rfl⟩
theorem dk_178_ {c : ByteArray} {pc : Nat} {q r : UInt8} {i : Nat} (h : c.data.toList[pc]? = some 0xb2) (h1 : c.data.toList[pc + 1]? = some q) (h2 : c.data.toList[pc + 1 + 1]? = some r) (hi : q.toNat * 256 + r.toNat = i) : decode c pc = .ok (.getstatic i, 3) := by
  obtain ⟨K, e, k⟩ := dk_178 pc
  subst hi
  exact dk_two h h1 h2 e k
theorem dk_30 (pc : Nat) : ∃ K : Nat → Jvm.ClassFile.Decoder Jvm.ClassFile.Instr, Jvm.ClassFile.Decoder.instr pc = (Jvm.ClassFile.Reader.u1 >>= K) ∧ K 30 = Pure.pure (.lload_n 0 : Jvm.ClassFile.Instr) := ⟨_, rfl, rfl⟩
theorem dk_30_ {c : ByteArray} {pc : Nat} (h : c.data.toList[pc]? = some 0x1e) : decode c pc = .ok (.lload_n 0, 1) := by
  obtain ⟨K, e, k⟩ := dk_30 pc
  exact dk_one h e k
theorem dk_32 (pc : Nat) : ∃ K : Nat → Jvm.ClassFile.Decoder Jvm.ClassFile.Instr, Jvm.ClassFile.Decoder.instr pc = (Jvm.ClassFile.Reader.u1 >>= K) ∧ K 32 = Pure.pure (.lload_n 2 : Jvm.ClassFile.Instr) := ⟨_, rfl, rfl⟩
theorem dk_32_ {c : ByteArray} {pc : Nat} (h : c.data.toList[pc]? = some 0x20) : decode c pc = .ok (.lload_n 2, 1) := by
  obtain ⟨K, e, k⟩ := dk_32 pc
  exact dk_one h e k
theorem dk_112 (pc : Nat) : ∃ K : Nat → Jvm.ClassFile.Decoder Jvm.ClassFile.Instr, Jvm.ClassFile.Decoder.instr pc = (Jvm.ClassFile.Reader.u1 >>= K) ∧ K 112 = Pure.pure (.irem : Jvm.ClassFile.Instr) := ⟨_, rfl, rfl⟩
theorem dk_112_ {c : ByteArray} {pc : Nat} (h : c.data.toList[pc]? = some 0x70) : decode c pc = .ok (.irem, 1) := by
  obtain ⟨K, e, k⟩ := dk_112 pc
  exact dk_one h e k
theorem dk_122 (pc : Nat) : ∃ K : Nat → Jvm.ClassFile.Decoder Jvm.ClassFile.Instr, Jvm.ClassFile.Decoder.instr pc = (Jvm.ClassFile.Reader.u1 >>= K) ∧ K 122 = Pure.pure (.ishr : Jvm.ClassFile.Instr) := ⟨_, rfl, rfl⟩
theorem dk_122_ {c : ByteArray} {pc : Nat} (h : c.data.toList[pc]? = some 0x7a) : decode c pc = .ok (.ishr, 1) := by
  obtain ⟨K, e, k⟩ := dk_122 pc
  exact dk_one h e k
theorem dk_10 (pc : Nat) : ∃ K : Nat → Jvm.ClassFile.Decoder Jvm.ClassFile.Instr, Jvm.ClassFile.Decoder.instr pc = (Jvm.ClassFile.Reader.u1 >>= K) ∧ K 10 = Pure.pure (.lconst 1 : Jvm.ClassFile.Instr) := ⟨_, rfl, rfl⟩
theorem dk_10_ {c : ByteArray} {pc : Nat} (h : c.data.toList[pc]? = some 0x0a) : decode c pc = .ok (.lconst 1, 1) := by
  obtain ⟨K, e, k⟩ := dk_10 pc
  exact dk_one h e k
theorem dk_130 (pc : Nat) : ∃ K : Nat → Jvm.ClassFile.Decoder Jvm.ClassFile.Instr, Jvm.ClassFile.Decoder.instr pc = (Jvm.ClassFile.Reader.u1 >>= K) ∧ K 130 = Pure.pure (.ixor : Jvm.ClassFile.Instr) := ⟨_, rfl, rfl⟩
theorem dk_130_ {c : ByteArray} {pc : Nat} (h : c.data.toList[pc]? = some 0x82) : decode c pc = .ok (.ixor, 1) := by
  obtain ⟨K, e, k⟩ := dk_130 pc
  exact dk_one h e k
theorem dk_190 (pc : Nat) : ∃ K : Nat → Jvm.ClassFile.Decoder Jvm.ClassFile.Instr, Jvm.ClassFile.Decoder.instr pc = (Jvm.ClassFile.Reader.u1 >>= K) ∧ K 190 = Pure.pure (.arraylength : Jvm.ClassFile.Instr) := ⟨_, rfl, rfl⟩
theorem dk_190_ {c : ByteArray} {pc : Nat} (h : c.data.toList[pc]? = some 0xbe) : decode c pc = .ok (.arraylength, 1) := by
  obtain ⟨K, e, k⟩ := dk_190 pc
  exact dk_one h e k
theorem dk_146 (pc : Nat) : ∃ K : Nat → Jvm.ClassFile.Decoder Jvm.ClassFile.Instr, Jvm.ClassFile.Decoder.instr pc = (Jvm.ClassFile.Reader.u1 >>= K) ∧ K 146 = Pure.pure (.i2c : Jvm.ClassFile.Instr) := ⟨_, rfl, rfl⟩
theorem dk_146_ {c : ByteArray} {pc : Nat} (h : c.data.toList[pc]? = some 0x92) : decode c pc = .ok (.i2c, 1) := by
  obtain ⟨K, e, k⟩ := dk_146 pc
  exact dk_one h e k
theorem dk_191 (pc : Nat) : ∃ K : Nat → Jvm.ClassFile.Decoder Jvm.ClassFile.Instr, Jvm.ClassFile.Decoder.instr pc = (Jvm.ClassFile.Reader.u1 >>= K) ∧ K 191 = Pure.pure (.athrow : Jvm.ClassFile.Instr) := ⟨_, rfl, rfl⟩
theorem dk_191_ {c : ByteArray} {pc : Nat} (h : c.data.toList[pc]? = some 0xbf) : decode c pc = .ok (.athrow, 1) := by
  obtain ⟨K, e, k⟩ := dk_191 pc
  exact dk_one h e k
theorem dk_76 (pc : Nat) : ∃ K : Nat → Jvm.ClassFile.Decoder Jvm.ClassFile.Instr, Jvm.ClassFile.Decoder.instr pc = (Jvm.ClassFile.Reader.u1 >>= K) ∧ K 76 = Pure.pure (.astore_n 1 : Jvm.ClassFile.Instr) := ⟨_, rfl, rfl⟩
theorem dk_76_ {c : ByteArray} {pc : Nat} (h : c.data.toList[pc]? = some 0x4c) : decode c pc = .ok (.astore_n 1, 1) := by
  obtain ⟨K, e, k⟩ := dk_76 pc
  exact dk_one h e k
theorem dk_77 (pc : Nat) : ∃ K : Nat → Jvm.ClassFile.Decoder Jvm.ClassFile.Instr, Jvm.ClassFile.Decoder.instr pc = (Jvm.ClassFile.Reader.u1 >>= K) ∧ K 77 = Pure.pure (.astore_n 2 : Jvm.ClassFile.Instr) := ⟨_, rfl, rfl⟩
theorem dk_77_ {c : ByteArray} {pc : Nat} (h : c.data.toList[pc]? = some 0x4d) : decode c pc = .ok (.astore_n 2, 1) := by
  obtain ⟨K, e, k⟩ := dk_77 pc
  exact dk_one h e k
theorem dk_121 (pc : Nat) : ∃ K : Nat → Jvm.ClassFile.Decoder Jvm.ClassFile.Instr, Jvm.ClassFile.Decoder.instr pc = (Jvm.ClassFile.Reader.u1 >>= K) ∧ K 121 = Pure.pure (.lshl : Jvm.ClassFile.Instr) := ⟨_, rfl, rfl⟩
theorem dk_121_ {c : ByteArray} {pc : Nat} (h : c.data.toList[pc]? = some 0x79) : decode c pc = .ok (.lshl, 1) := by
  obtain ⟨K, e, k⟩ := dk_121 pc
  exact dk_one h e k
theorem dk_127 (pc : Nat) : ∃ K : Nat → Jvm.ClassFile.Decoder Jvm.ClassFile.Instr, Jvm.ClassFile.Decoder.instr pc = (Jvm.ClassFile.Reader.u1 >>= K) ∧ K 127 = Pure.pure (.land : Jvm.ClassFile.Instr) := ⟨_, rfl, rfl⟩
theorem dk_127_ {c : ByteArray} {pc : Nat} (h : c.data.toList[pc]? = some 0x7f) : decode c pc = .ok (.land, 1) := by
  obtain ⟨K, e, k⟩ := dk_127 pc
  exact dk_one h e k
theorem dk_129 (pc : Nat) : ∃ K : Nat → Jvm.ClassFile.Decoder Jvm.ClassFile.Instr, Jvm.ClassFile.Decoder.instr pc = (Jvm.ClassFile.Reader.u1 >>= K) ∧ K 129 = Pure.pure (.lor : Jvm.ClassFile.Instr) := ⟨_, rfl, rfl⟩
theorem dk_129_ {c : ByteArray} {pc : Nat} (h : c.data.toList[pc]? = some 0x81) : decode c pc = .ok (.lor, 1) := by
  obtain ⟨K, e, k⟩ := dk_129 pc
  exact dk_one h e k
theorem dk_88 (pc : Nat) : ∃ K : Nat → Jvm.ClassFile.Decoder Jvm.ClassFile.Instr, Jvm.ClassFile.Decoder.instr pc = (Jvm.ClassFile.Reader.u1 >>= K) ∧ K 88 = Pure.pure (.pop2 : Jvm.ClassFile.Instr) := ⟨_, rfl, rfl⟩
theorem dk_88_ {c : ByteArray} {pc : Nat} (h : c.data.toList[pc]? = some 0x58) : decode c pc = .ok (.pop2, 1) := by
  obtain ⟨K, e, k⟩ := dk_88 pc
  exact dk_one h e k
