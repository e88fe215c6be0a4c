/-! instructions by their bytes -/
theorem dk_run {c : ByteArray} {pc : Nat} {o : UInt8} (h : c.data.toList[pc]? = some o) : (Jvm.ClassFile.Reader.u1 : Jvm.ClassFile.Decoder Nat) c pc = .ok (o.toNat, pc + 1) := by
  obtain ⟨hlt, he⟩ := List.getElem?_eq_some_iff.mp h
  have hs : pc < c.size := hlt
  have e1 : c[pc] = o := he
  have e0 : (Jvm.ClassFile.Reader.u1 : Jvm.ClassFile.Decoder Nat) c pc = (if h : pc < c.size then (Except.ok (c[pc].toNat, pc + 1) : Except Jvm.ClassFile.DecodeError (Nat × Nat)) else .error (Jvm.ClassFile.DecodeError.truncated pc)) := by
    unfold Jvm.ClassFile.Reader.u1
    show (if h : pc < c.size then _ else _ : Jvm.ClassFile.Decoder Nat) c pc = _
    split <;> rfl
  rw [e0, dif_pos hs, e1]
theorem dk_u2 {c : ByteArray} {pc : Nat} {o q : UInt8} (h : c.data.toList[pc]? = some o) (h2 : c.data.toList[pc + 1]? = some q) : (Jvm.ClassFile.Reader.u2 : Jvm.ClassFile.Decoder Nat) c pc = .ok (o.toNat * 256 + q.toNat, pc + 1 + 1) := by
  have e : (Jvm.ClassFile.Reader.u2 : Jvm.ClassFile.Decoder Nat) c pc = Except.bind ((Jvm.ClassFile.Reader.u1 : Jvm.ClassFile.Decoder Nat) c pc) (fun x => Except.bind ((Jvm.ClassFile.Reader.u1 : Jvm.ClassFile.Decoder Nat) c x.2) (fun y => .ok (x.1 * 256 + y.1, y.2))) := rfl
  rw [e, dk_run h]
  show Except.bind ((Jvm.ClassFile.Reader.u1 : Jvm.ClassFile.Decoder Nat) c (pc + 1)) _ = _
  rw [dk_run h2]
  rfl
theorem dk_s2 {c : ByteArray} {pc : Nat} {o q : UInt8} (h : c.data.toList[pc]? = some o) (h2 : c.data.toList[pc + 1]? = some q) : (Jvm.ClassFile.Reader.s2 : Jvm.ClassFile.Decoder Int) c pc = .ok (Jvm.ClassFile.Reader.signed 16 (o.toNat * 256 + q.toNat), pc + 1 + 1) := by
  have e : (Jvm.ClassFile.Reader.s2 : Jvm.ClassFile.Decoder Int) c pc = Except.bind ((Jvm.ClassFile.Reader.u2 : Jvm.ClassFile.Decoder Nat) c pc) (fun x => .ok (Jvm.ClassFile.Reader.signed 16 x.1, x.2)) := rfl
  rw [e, dk_u2 h h2]
  rfl
theorem dk_ins {c : ByteArray} {pc n : Nat} {o : UInt8} {ins : Jvm.ClassFile.Instr} (h : c.data.toList[pc]? = some o) {K : Nat → Jvm.ClassFile.Decoder Jvm.ClassFile.Instr} (e : Jvm.ClassFile.Decoder.instr pc = (Jvm.ClassFile.Reader.u1 >>= K)) (k : K o.toNat c (pc + 1) = .ok (ins, pc + n)) : decode c pc = .ok (ins, n) := by
  have h1 : (Jvm.ClassFile.Decoder.instr pc) c pc = .ok (ins, pc + n) := by
    rw [e]
    have e2 : (Jvm.ClassFile.Reader.u1 >>= K) c pc = Except.bind ((Jvm.ClassFile.Reader.u1 : Jvm.ClassFile.Decoder Nat) c pc) (fun x => K x.1 c x.2) := rfl
    rw [e2, dk_run h]
    exact k
  have e3 : decode c pc = Except.bind ((Jvm.ClassFile.Decoder.instr pc) c pc) (fun x => .ok (x.1, x.2 - pc)) := rfl
  rw [e3, h1]
  show Except.ok (ins, pc + n - pc) = _
  rw [Nat.add_sub_cancel_left]
theorem dk_one {c : ByteArray} {pc : Nat} {o : UInt8} {ins : Jvm.ClassFile.Instr} (h : c.data.toList[pc]? = some o) {K : Nat → Jvm.ClassFile.Decoder Jvm.ClassFile.Instr} (e : Jvm.ClassFile.Decoder.instr pc = (Jvm.ClassFile.Reader.u1 >>= K)) (k : K o.toNat = Pure.pure ins) : decode c pc = .ok (ins, 1) := by
  refine dk_ins h e ?_
  rw [k]
  rfl
theorem dk_two {c : ByteArray} {pc : Nat} {o q r : UInt8} {f : Nat → Jvm.ClassFile.Instr} (h : c.data.toList[pc]? = some o) (h1 : c.data.toList[pc + 1]? = some q) (h2 : c.data.toList[pc + 1 + 1]? = some r) {K : Nat → Jvm.ClassFile.Decoder Jvm.ClassFile.Instr} (e : Jvm.ClassFile.Decoder.instr pc = (Jvm.ClassFile.Reader.u1 >>= K)) (k : K o.toNat = (Jvm.ClassFile.Reader.u2 >>= fun i => Pure.pure (f i))) : decode c pc = .ok (f (q.toNat * 256 + r.toNat), 3) := by
  refine dk_ins h e ?_
  rw [k]
  have e2 : (Jvm.ClassFile.Reader.u2 >>= fun i => (Pure.pure (f i) : Jvm.ClassFile.Decoder Jvm.ClassFile.Instr)) c (pc + 1) = Except.bind ((Jvm.ClassFile.Reader.u2 : Jvm.ClassFile.Decoder Nat) c (pc + 1)) (fun x => .ok (f x.1, x.2)) := rfl
  rw [e2, dk_u2 h1 h2]
  rfl
theorem dk_twoS {c : ByteArray} {pc : Nat} {o q r : UInt8} {f : Int → Jvm.ClassFile.Instr} (h : c.data.toList[pc]? = some o) (h1 : c.data.toList[pc + 1]? = some q) (h2 : c.data.toList[pc + 1 + 1]? = some r) {K : Nat → Jvm.ClassFile.Decoder Jvm.ClassFile.Instr} (e : Jvm.ClassFile.Decoder.instr pc = (Jvm.ClassFile.Reader.u1 >>= K)) (k : K o.toNat = (Jvm.ClassFile.Reader.s2 >>= fun i => Pure.pure (f i))) : decode c pc = .ok (f (Jvm.ClassFile.Reader.signed 16 (q.toNat * 256 + r.toNat)), 3) := by
  refine dk_ins h e ?_
  rw [k]
  have e2 : (Jvm.ClassFile.Reader.s2 >>= fun i => (Pure.pure (f i) : Jvm.ClassFile.Decoder Jvm.ClassFile.Instr)) c (pc + 1) = Except.bind ((Jvm.ClassFile.Reader.s2 : Jvm.ClassFile.Decoder Int) c (pc + 1)) (fun x => .ok (f x.1, x.2)) := rfl
  rw [e2, dk_s2 h1 h2]
  rfl
def LR_24 : List UInt8 := []
def LB_23 : List UInt8 := [0x04, 0x60, 0x2e, 0xb6, 0x00, 0xc6, 0x57, 0xa7, 0x00, 0x03, 0x84, 0x03, 0x06, 0xa7, 0xfa, 0x45, 0x04, 0xac]
def LR_23 : List UInt8 := LB_23 ++ LR_24
def LB_22 : List UInt8 := [0x00, 0x4b, 0x2b, 0xb6, 0x00, 0xb7, 0x57, 0x2c, 0xb6, 0x00, 0xba, 0x57, 0xa7, 0x00, 0x3e, 0x2b, 0xb6, 0x00, 0xbb, 0x2c, 0xb6, 0x00, 0xbe, 0x9f, 0x00, 0x33, 0x03, 0xac, 0x2b, 0x2a, 0x1d, 0x04, 0x60, 0x2e, 0xb6, 0x00, 0xbf, 0x57, 0x2c, 0x2a, 0x1d, 0x04, 0x60, 0x2e, 0xb6, 0x00, 0xc2, 0x57, 0xa7, 0x00, 0x1a, 0x2b, 0x2a, 0x1d, 0x04, 0x60, 0x2e, 0xb6, 0x00, 0xc3, 0x57, 0x2c, 0x2a, 0x1d]
def LR_22 : List UInt8 := LB_22 ++ LR_23
def LB_21 : List UInt8 := [0x04, 0x60, 0x2e, 0x2a, 0x1d, 0x05, 0x60, 0x2e, 0xb6, 0x00, 0xab, 0x57, 0x2c, 0x2a, 0x1d, 0x04, 0x60, 0x2e, 0x2a, 0x1d, 0x05, 0x60, 0x2e, 0xb6, 0x00, 0xae, 0x57, 0xa7, 0x00, 0x6f, 0x2b, 0x2a, 0x1d, 0x04, 0x60, 0x2e, 0xb6, 0x00, 0xaf, 0x57, 0x2c, 0x2a, 0x1d, 0x04, 0x60, 0x2e, 0xb6, 0x00, 0xb2, 0x57, 0xa7, 0x00, 0x58, 0x2b, 0xb6, 0x00, 0xb3, 0x57, 0x2c, 0xb6, 0x00, 0xb6, 0x57, 0xa7]
def LR_21 : List UInt8 := LB_21 ++ LR_22
def LB_20 : List UInt8 := [0x1d, 0x04, 0x60, 0x2e, 0x2a, 0x1d, 0x05, 0x60, 0x2e, 0x2a, 0x1d, 0x06, 0x60, 0x2e, 0x2a, 0x1d, 0x07, 0x60, 0x2e, 0x2a, 0x1d, 0x08, 0x60, 0x2e, 0xb6, 0x00, 0xa6, 0x57, 0x2c, 0x2a, 0x1d, 0x04, 0x60, 0x2e, 0x2a, 0x1d, 0x05, 0x60, 0x2e, 0x2a, 0x1d, 0x06, 0x60, 0x2e, 0x2a, 0x1d, 0x07, 0x60, 0x2e, 0x2a, 0x1d, 0x08, 0x60, 0x2e, 0xb6, 0x00, 0xaa, 0x57, 0xa7, 0x00, 0x90, 0x2b, 0x2a, 0x1d]
def LR_20 : List UInt8 := LB_20 ++ LR_21
def LB_19 : List UInt8 := [0x2a, 0x1d, 0x06, 0x60, 0x2e, 0x85, 0x10, 0x20, 0x79, 0x2a, 0x1d, 0x07, 0x60, 0x2e, 0x85, 0x14, 0x00, 0x9f, 0x7f, 0x81, 0xb6, 0x00, 0xa1, 0x58, 0x2c, 0x2a, 0x1d, 0x04, 0x60, 0x2e, 0x2a, 0x1d, 0x05, 0x60, 0x2e, 0x2a, 0x1d, 0x06, 0x60, 0x2e, 0x85, 0x10, 0x20, 0x79, 0x2a, 0x1d, 0x07, 0x60, 0x2e, 0x85, 0x14, 0x00, 0x9f, 0x7f, 0x81, 0xb6, 0x00, 0xa5, 0x58, 0xa7, 0x00, 0xcf, 0x2b, 0x2a]
def LR_19 : List UInt8 := LB_19 ++ LR_20
def LB_18 : List UInt8 := [0x97, 0x57, 0x2c, 0xb6, 0x00, 0x9a, 0x57, 0xa7, 0x01, 0x43, 0x2b, 0x2a, 0x1d, 0x04, 0x60, 0x2e, 0x2a, 0x1d, 0x05, 0x60, 0x2e, 0x2a, 0x1d, 0x06, 0x60, 0x2e, 0xb6, 0x00, 0x9b, 0x57, 0x2c, 0x2a, 0x1d, 0x04, 0x60, 0x2e, 0x2a, 0x1d, 0x05, 0x60, 0x2e, 0x2a, 0x1d, 0x06, 0x60, 0x2e, 0xb6, 0x00, 0x9e, 0x57, 0xa7, 0x01, 0x18, 0x2b, 0x2a, 0x1d, 0x04, 0x60, 0x2e, 0x2a, 0x1d, 0x05, 0x60, 0x2e]
def LR_18 : List UInt8 := LB_18 ++ LR_19
def LB_17 : List UInt8 := [0x01, 0x8b, 0x2b, 0xb6, 0x00, 0x8b, 0x57, 0x2c, 0xb6, 0x00, 0x8e, 0x57, 0xa7, 0x01, 0x7e, 0x2b, 0x2a, 0x1d, 0x04, 0x60, 0x2e, 0x2a, 0x1d, 0x05, 0x60, 0x2e, 0xb6, 0x00, 0x8f, 0x57, 0x2c, 0x2a, 0x1d, 0x04, 0x60, 0x2e, 0x2a, 0x1d, 0x05, 0x60, 0x2e, 0xb6, 0x00, 0x92, 0x57, 0xa7, 0x01, 0x5d, 0x2b, 0xb6, 0x00, 0x93, 0x57, 0x2c, 0xb6, 0x00, 0x96, 0x57, 0xa7, 0x01, 0x50, 0x2b, 0xb6, 0x00]
def LR_17 : List UInt8 := LB_17 ++ LR_18
def LB_16 : List UInt8 := [0x7f, 0x57, 0x2c, 0x2a, 0x1d, 0x04, 0x60, 0x2e, 0x2a, 0x1d, 0x05, 0x60, 0x2e, 0xb6, 0x00, 0x82, 0x57, 0xa7, 0x01, 0xb9, 0x2b, 0xb6, 0x00, 0x83, 0x57, 0x2c, 0xb6, 0x00, 0x86, 0x57, 0xa7, 0x01, 0xac, 0x2b, 0x2a, 0x1d, 0x04, 0x60, 0x2e, 0x2a, 0x1d, 0x05, 0x60, 0x2e, 0xb6, 0x00, 0x87, 0x57, 0x2c, 0x2a, 0x1d, 0x04, 0x60, 0x2e, 0x2a, 0x1d, 0x05, 0x60, 0x2e, 0xb6, 0x00, 0x8a, 0x57, 0xa7]
def LR_16 : List UInt8 := LB_16 ++ LR_17
def LB_15 : List UInt8 := [0x02, 0x0b, 0x2b, 0xb6, 0x00, 0x73, 0x57, 0x2c, 0xb6, 0x00, 0x76, 0x57, 0xa7, 0x01, 0xfe, 0x2b, 0x2a, 0x1d, 0x04, 0x60, 0x2e, 0xb6, 0x00, 0x77, 0x57, 0x2c, 0x2a, 0x1d, 0x04, 0x60, 0x2e, 0xb6, 0x00, 0x7a, 0x57, 0xa7, 0x01, 0xe7, 0x2b, 0xb6, 0x00, 0x7b, 0x57, 0x2c, 0xb6, 0x00, 0x7e, 0x57, 0xa7, 0x01, 0xda, 0x2b, 0x2a, 0x1d, 0x04, 0x60, 0x2e, 0x2a, 0x1d, 0x05, 0x60, 0x2e, 0xb6, 0x00]
def LR_15 : List UInt8 := LB_15 ++ LR_16
def LB_14 : List UInt8 := [0x05, 0x60, 0x2e, 0x2a, 0x1d, 0x06, 0x60, 0x2e, 0x2a, 0x1d, 0x07, 0x60, 0x2e, 0xb6, 0x00, 0x6a, 0x57, 0xa7, 0x02, 0x39, 0x2b, 0x2a, 0x1d, 0x04, 0x60, 0x2e, 0x2a, 0x1d, 0x05, 0x60, 0x2e, 0xb6, 0x00, 0x6b, 0x57, 0x2c, 0x2a, 0x1d, 0x04, 0x60, 0x2e, 0x2a, 0x1d, 0x05, 0x60, 0x2e, 0xb6, 0x00, 0x6e, 0x57, 0xa7, 0x02, 0x18, 0x2b, 0xb6, 0x00, 0x6f, 0x57, 0x2c, 0xb6, 0x00, 0x72, 0x57, 0xa7]
def LR_14 : List UInt8 := LB_14 ++ LR_15
def LB_13 : List UInt8 := [0x2c, 0x2a, 0x1d, 0x04, 0x60, 0x2e, 0x2a, 0x1d, 0x05, 0x60, 0x2e, 0xb6, 0x00, 0x62, 0x57, 0xa7, 0x02, 0x7b, 0x2b, 0xb6, 0x00, 0x63, 0x57, 0x2c, 0xb6, 0x00, 0x66, 0x57, 0xa7, 0x02, 0x6e, 0x2b, 0x2a, 0x1d, 0x04, 0x60, 0x2e, 0x2a, 0x1d, 0x05, 0x60, 0x2e, 0x2a, 0x1d, 0x06, 0x60, 0x2e, 0x2a, 0x1d, 0x07, 0x60, 0x2e, 0xb6, 0x00, 0x67, 0x57, 0x2c, 0x2a, 0x1d, 0x04, 0x60, 0x2e, 0x2a, 0x1d]
def LR_13 : List UInt8 := LB_13 ++ LR_14
def LB_12 : List UInt8 := [0x2e, 0x2a, 0x1d, 0x06, 0x60, 0x2e, 0xb6, 0x00, 0x56, 0x57, 0xa7, 0x02, 0xc0, 0x2b, 0xb6, 0x00, 0x57, 0x57, 0x2c, 0xb6, 0x00, 0x5a, 0x57, 0xa7, 0x02, 0xb3, 0x2b, 0x2a, 0x1d, 0x04, 0x60, 0x2e, 0xb6, 0x00, 0x5b, 0x57, 0x2c, 0x2a, 0x1d, 0x04, 0x60, 0x2e, 0xb6, 0x00, 0x5e, 0x57, 0xa7, 0x02, 0x9c, 0x2b, 0x2a, 0x1d, 0x04, 0x60, 0x2e, 0x2a, 0x1d, 0x05, 0x60, 0x2e, 0xb6, 0x00, 0x5f, 0x57]
def LR_12 : List UInt8 := LB_12 ++ LR_13
def LB_11 : List UInt8 := [0x00, 0x4b, 0x57, 0x2c, 0xb6, 0x00, 0x4e, 0x57, 0xa7, 0x03, 0x02, 0x2b, 0x2a, 0x1d, 0x04, 0x60, 0x2e, 0xb6, 0x00, 0x4f, 0x57, 0x2c, 0x2a, 0x1d, 0x04, 0x60, 0x2e, 0xb6, 0x00, 0x52, 0x57, 0xa7, 0x02, 0xeb, 0x2b, 0x2a, 0x1d, 0x04, 0x60, 0x2e, 0x2a, 0x1d, 0x05, 0x60, 0x2e, 0x2a, 0x1d, 0x06, 0x60, 0x2e, 0xb6, 0x00, 0x53, 0x57, 0x2c, 0x2a, 0x1d, 0x04, 0x60, 0x2e, 0x2a, 0x1d, 0x05, 0x60]
def LR_11 : List UInt8 := LB_11 ++ LR_12
def LB_10 : List UInt8 := [0x60, 0x2e, 0x2a, 0x1d, 0x05, 0x60, 0x2e, 0xb6, 0x00, 0x43, 0x57, 0x2c, 0x2a, 0x1d, 0x04, 0x60, 0x2e, 0x2a, 0x1d, 0x05, 0x60, 0x2e, 0xb6, 0x00, 0x46, 0x57, 0xa7, 0x03, 0x30, 0x2b, 0x2a, 0x1d, 0x04, 0x60, 0x2e, 0x2a, 0x1d, 0x05, 0x60, 0x2e, 0xb6, 0x00, 0x47, 0x57, 0x2c, 0x2a, 0x1d, 0x04, 0x60, 0x2e, 0x2a, 0x1d, 0x05, 0x60, 0x2e, 0xb6, 0x00, 0x4a, 0x57, 0xa7, 0x03, 0x0f, 0x2b, 0xb6]
def LR_10 : List UInt8 := LB_10 ++ LR_11
def LB_9 : List UInt8 := [0x57, 0xa7, 0x03, 0x89, 0x2b, 0x2a, 0x1d, 0x04, 0x60, 0x2e, 0x2a, 0x1d, 0x05, 0x60, 0x2e, 0xb6, 0x00, 0x3a, 0x57, 0x2c, 0x2a, 0x1d, 0x04, 0x60, 0x2e, 0x2a, 0x1d, 0x05, 0x60, 0x2e, 0xb6, 0x00, 0x3d, 0x57, 0xa7, 0x03, 0x68, 0x2b, 0x2a, 0x1d, 0x04, 0x60, 0x2e, 0xb6, 0x00, 0x3e, 0x57, 0x2c, 0x2a, 0x1d, 0x04, 0x60, 0x2e, 0xb6, 0x00, 0x42, 0x57, 0xa7, 0x03, 0x51, 0x2b, 0x2a, 0x1d, 0x04]
def LR_9 : List UInt8 := LB_9 ++ LR_10
def LB_8 : List UInt8 := [0x03, 0xcb, 0x2b, 0x2a, 0x1d, 0x04, 0x60, 0x2e, 0x2a, 0x1d, 0x05, 0x60, 0x2e, 0xb6, 0x00, 0x32, 0x57, 0x2c, 0x2a, 0x1d, 0x04, 0x60, 0x2e, 0x2a, 0x1d, 0x05, 0x60, 0x2e, 0xb6, 0x00, 0x35, 0x57, 0xa7, 0x03, 0xaa, 0x2b, 0x2a, 0x1d, 0x04, 0x60, 0x2e, 0x2a, 0x1d, 0x05, 0x60, 0x2e, 0xb6, 0x00, 0x36, 0x57, 0x2c, 0x2a, 0x1d, 0x04, 0x60, 0x2e, 0x2a, 0x1d, 0x05, 0x60, 0x2e, 0xb6, 0x00, 0x39]
def LR_8 : List UInt8 := LB_8 ++ LR_9
def LB_7 : List UInt8 := [0x05, 0x60, 0x2e, 0xb6, 0x00, 0x29, 0x57, 0xa7, 0x04, 0x03, 0x2b, 0x2a, 0x1d, 0x04, 0x60, 0x2e, 0x2a, 0x1d, 0x05, 0x60, 0x2e, 0x2a, 0x1d, 0x06, 0x60, 0x2e, 0xb6, 0x00, 0x2a, 0x57, 0x2c, 0x2a, 0x1d, 0x04, 0x60, 0x2e, 0x2a, 0x1d, 0x05, 0x60, 0x2e, 0x2a, 0x1d, 0x06, 0x60, 0x2e, 0xb6, 0x00, 0x2d, 0x57, 0xa7, 0x03, 0xd8, 0x2b, 0xb6, 0x00, 0x2e, 0x57, 0x2c, 0xb6, 0x00, 0x31, 0x57, 0xa7]
def LR_7 : List UInt8 := LB_7 ++ LR_8
def LB_6 : List UInt8 := [0x07, 0x04, 0xa7, 0x00, 0x04, 0x03, 0xb6, 0x00, 0x21, 0x57, 0x2c, 0x2a, 0x1d, 0x04, 0x60, 0x2e, 0x2a, 0x1d, 0x05, 0x60, 0x2e, 0x2a, 0x1d, 0x06, 0x60, 0x2e, 0x99, 0x00, 0x07, 0x04, 0xa7, 0x00, 0x04, 0x03, 0xb6, 0x00, 0x25, 0x57, 0xa7, 0x04, 0x24, 0x2b, 0x2a, 0x1d, 0x04, 0x60, 0x2e, 0x2a, 0x1d, 0x05, 0x60, 0x2e, 0xb6, 0x00, 0x26, 0x57, 0x2c, 0x2a, 0x1d, 0x04, 0x60, 0x2e, 0x2a, 0x1d]
def LR_6 : List UInt8 := LB_6 ++ LR_7
def LB_5 : List UInt8 := [0xa7, 0x04, 0x8a, 0x2b, 0x2a, 0x1d, 0x04, 0x60, 0x2e, 0x2a, 0x1d, 0x05, 0x60, 0x2e, 0x2a, 0x1d, 0x06, 0x60, 0x2e, 0xb6, 0x00, 0x1c, 0x57, 0x2c, 0x2a, 0x1d, 0x04, 0x60, 0x2e, 0x2a, 0x1d, 0x05, 0x60, 0x2e, 0x2a, 0x1d, 0x06, 0x60, 0x2e, 0xb6, 0x00, 0x20, 0x57, 0xa7, 0x04, 0x5f, 0x2b, 0x2a, 0x1d, 0x04, 0x60, 0x2e, 0x2a, 0x1d, 0x05, 0x60, 0x2e, 0x2a, 0x1d, 0x06, 0x60, 0x2e, 0x99, 0x00]
def LR_5 : List UInt8 := LB_5 ++ LR_6
def LB_4 : List UInt8 := [0x60, 0x2e, 0x2a, 0x1d, 0x05, 0x60, 0x2e, 0xb6, 0x00, 0x16, 0x57, 0xa7, 0x04, 0xbf, 0x2b, 0x2a, 0x1d, 0x04, 0x60, 0x2e, 0x2a, 0x1d, 0x05, 0x60, 0x2e, 0x2a, 0x1d, 0x06, 0x60, 0x2e, 0x2a, 0x1d, 0x07, 0x60, 0x2e, 0xb6, 0x00, 0x17, 0x57, 0x2c, 0x2a, 0x1d, 0x04, 0x60, 0x2e, 0x2a, 0x1d, 0x05, 0x60, 0x2e, 0x2a, 0x1d, 0x06, 0x60, 0x2e, 0x2a, 0x1d, 0x07, 0x60, 0x2e, 0xb6, 0x00, 0x1b, 0x57]
def LR_4 : List UInt8 := LB_4 ++ LR_5
def LB_3 : List UInt8 := [0x00, 0x00, 0x04, 0xdd, 0x00, 0x00, 0x05, 0x1c, 0x00, 0x00, 0x05, 0x3d, 0x00, 0x00, 0x05, 0x54, 0x00, 0x00, 0x05, 0x61, 0x00, 0x00, 0x05, 0x6e, 0x00, 0x00, 0x05, 0x7b, 0x00, 0x00, 0x05, 0x92, 0x2b, 0xb6, 0x00, 0x0d, 0x57, 0x2c, 0xb6, 0x00, 0x11, 0x57, 0xa7, 0x04, 0xe0, 0x2b, 0x2a, 0x1d, 0x04, 0x60, 0x2e, 0x2a, 0x1d, 0x05, 0x60, 0x2e, 0xb6, 0x00, 0x12, 0x57, 0x2c, 0x2a, 0x1d, 0x04]
def LR_3 : List UInt8 := LB_3 ++ LR_4
def LB_2 : List UInt8 := [0x00, 0x00, 0x03, 0x31, 0x00, 0x00, 0x03, 0x3e, 0x00, 0x00, 0x03, 0x73, 0x00, 0x00, 0x03, 0x94, 0x00, 0x00, 0x03, 0xa1, 0x00, 0x00, 0x03, 0xae, 0x00, 0x00, 0x03, 0xc5, 0x00, 0x00, 0x03, 0xd2, 0x00, 0x00, 0x03, 0xf3, 0x00, 0x00, 0x04, 0x00, 0x00, 0x00, 0x04, 0x21, 0x00, 0x00, 0x04, 0x2e, 0x00, 0x00, 0x04, 0x4f, 0x00, 0x00, 0x04, 0x5c, 0x00, 0x00, 0x04, 0x69, 0x00, 0x00, 0x04, 0x94]
def LR_2 : List UInt8 := LB_2 ++ LR_3
def LB_1 : List UInt8 := [0x00, 0x00, 0x01, 0x4d, 0x00, 0x00, 0x01, 0x88, 0x00, 0x00, 0x01, 0xa9, 0x00, 0x00, 0x01, 0xd4, 0x00, 0x00, 0x01, 0xe1, 0x00, 0x00, 0x02, 0x02, 0x00, 0x00, 0x02, 0x23, 0x00, 0x00, 0x02, 0x44, 0x00, 0x00, 0x02, 0x5b, 0x00, 0x00, 0x02, 0x7c, 0x00, 0x00, 0x02, 0x9d, 0x00, 0x00, 0x02, 0xaa, 0x00, 0x00, 0x02, 0xc1, 0x00, 0x00, 0x02, 0xec, 0x00, 0x00, 0x02, 0xf9, 0x00, 0x00, 0x03, 0x10]
def LR_1 : List UInt8 := LB_1 ++ LR_2
def LB_0 : List UInt8 := [0xbb, 0x00, 0x07, 0x59, 0xb7, 0x00, 0x09, 0x4c, 0xbb, 0x00, 0x0a, 0x59, 0xb7, 0x00, 0x0c, 0x4d, 0x03, 0x3e, 0x1d, 0x2a, 0xbe, 0x10, 0x06, 0x64, 0xa3, 0x05, 0xb8, 0x2a, 0x1d, 0x2e, 0x10, 0x3f, 0x7e, 0xaa, 0x00, 0x00, 0x00, 0x00, 0x05, 0xa9, 0x00, 0x00, 0x00, 0x00, 0x00, 0x00, 0x00, 0x2b, 0x00, 0x00, 0x00, 0xbf, 0x00, 0x00, 0x00, 0xcc, 0x00, 0x00, 0x00, 0xed, 0x00, 0x00, 0x01, 0x22]
def LR_0 : List UInt8 := LB_0 ++ LR_1
set_option maxRecDepth 100000 in
theorem LB_eq : cL_law.data.toList = LR_0 := by decide +kernel
theorem LBr_0 (k : Nat) : cL_law.data.toList[0 + k]? = LR_0[k]? := by rw [LB_eq, Nat.zero_add]
theorem LBr_1 (k : Nat) : cL_law.data.toList[64 + k]? = LR_1[k]? := by
  have h := LBr_0 (64 + k)
  rw [show 0 + (64 + k) = 64 + k by omega] at h
  rw [h]
  exact (List.getElem?_append_right (l₁ := LB_0) (l₂ := LR_1) (show 64 ≤ 64 + k by omega)).trans (congrArg (fun i => LR_1[i]?) (show 64 + k - 64 = k by omega))
theorem LBr_2 (k : Nat) : cL_law.data.toList[128 + k]? = LR_2[k]? := by
  have h := LBr_1 (64 + k)
  rw [show 64 + (64 + k) = 128 + k by omega] at h
  rw [h]
  exact (List.getElem?_append_right (l₁ := LB_1) (l₂ := LR_2) (show 64 ≤ 64 + k by omega)).trans (congrArg (fun i => LR_2[i]?) (show 64 + k - 64 = k by omega))
theorem LBr_3 (k : Nat) : cL_law.data.toList[192 + k]? = LR_3[k]? := by
  have h := LBr_2 (64 + k)
  rw [show 128 + (64 + k) = 192 + k by omega] at h
  rw [h]
  exact (List.getElem?_append_right (l₁ := LB_2) (l₂ := LR_3) (show 64 ≤ 64 + k by omega)).trans (congrArg (fun i => LR_3[i]?) (show 64 + k - 64 = k by omega))
theorem LBr_4 (k : Nat) : cL_law.data.toList[256 + k]? = LR_4[k]? := by
  have h := LBr_3 (64 + k)
  rw [show 192 + (64 + k) = 256 + k by omega] at h
  rw [h]
  exact (List.getElem?_append_right (l₁ := LB_3) (l₂ := LR_4) (show 64 ≤ 64 + k by omega)).trans (congrArg (fun i => LR_4[i]?) (show 64 + k - 64 = k by omega))
theorem LBr_5 (k : Nat) : cL_law.data.toList[320 + k]? = LR_5[k]? := by
  have h := LBr_4 (64 + k)
  rw [show 256 + (64 + k) = 320 + k by omega] at h
  rw [h]
  exact (List.getElem?_append_right (l₁ := LB_4) (l₂ := LR_5) (show 64 ≤ 64 + k by omega)).trans (congrArg (fun i => LR_5[i]?) (show 64 + k - 64 = k by omega))
theorem LBr_6 (k : Nat) : cL_law.data.toList[384 + k]? = LR_6[k]? := by
  have h := LBr_5 (64 + k)
  rw [show 320 + (64 + k) = 384 + k by omega] at h
  rw [h]
  exact (List.getElem?_append_right (l₁ := LB_5) (l₂ := LR_6) (show 64 ≤ 64 + k by omega)).trans (congrArg (fun i => LR_6[i]?) (show 64 + k - 64 = k by omega))
theorem LBr_7 (k : Nat) : cL_law.data.toList[448 + k]? = LR_7[k]? := by
  have h := LBr_6 (64 + k)
  rw [show 384 + (64 + k) = 448 + k by omega] at h
  rw [h]
  exact (List.getElem?_append_right (l₁ := LB_6) (l₂ := LR_7) (show 64 ≤ 64 + k by omega)).trans (congrArg (fun i => LR_7[i]?) (show 64 + k - 64 = k by omega))
theorem LBr_8 (k : Nat) : cL_law.data.toList[512 + k]? = LR_8[k]? := by
  have h := LBr_7 (64 + k)
  rw [show 448 + (64 + k) = 512 + k by omega] at h
  rw [h]
  exact (List.getElem?_append_right (l₁ := LB_7) (l₂ := LR_8) (show 64 ≤ 64 + k by omega)).trans (congrArg (fun i => LR_8[i]?) (show 64 + k - 64 = k by omega))
theorem LBr_9 (k : Nat) : cL_law.data.toList[576 + k]? = LR_9[k]? := by
  have h := LBr_8 (64 + k)
  rw [show 512 + (64 + k) = 576 + k by omega] at h
  rw [h]
  exact (List.getElem?_append_right (l₁ := LB_8) (l₂ := LR_9) (show 64 ≤ 64 + k by omega)).trans (congrArg (fun i => LR_9[i]?) (show 64 + k - 64 = k by omega))
theorem LBr_10 (k : Nat) : cL_law.data.toList[640 + k]? = LR_10[k]? := by
  have h := LBr_9 (64 + k)
  rw [show 576 + (64 + k) = 640 + k by omega] at h
  rw [h]
  exact (List.getElem?_append_right (l₁ := LB_9) (l₂ := LR_10) (show 64 ≤ 64 + k by omega)).trans (congrArg (fun i => LR_10[i]?) (show 64 + k - 64 = k by omega))
theorem LBr_11 (k : Nat) : cL_law.data.toList[704 + k]? = LR_11[k]? := by
  have h := LBr_10 (64 + k)
  rw [show 640 + (64 + k) = 704 + k by omega] at h
  rw [h]
  exact (List.getElem?_append_right (l₁ := LB_10) (l₂ := LR_11) (show 64 ≤ 64 + k by omega)).trans (congrArg (fun i => LR_11[i]?) (show 64 + k - 64 = k by omega))
theorem LBr_12 (k : Nat) : cL_law.data.toList[768 + k]? = LR_12[k]? := by
  have h := LBr_11 (64 + k)
  rw [show 704 + (64 + k) = 768 + k by omega] at h
  rw [h]
  exact (List.getElem?_append_right (l₁ := LB_11) (l₂ := LR_12) (show 64 ≤ 64 + k by omega)).trans (congrArg (fun i => LR_12[i]?) (show 64 + k - 64 = k by omega))
theorem LBr_13 (k : Nat) : cL_law.data.toList[832 + k]? = LR_13[k]? := by
  have h := LBr_12 (64 + k)
  rw [show 768 + (64 + k) = 832 + k by omega] at h
  rw [h]
  exact (List.getElem?_append_right (l₁ := LB_12) (l₂ := LR_13) (show 64 ≤ 64 + k by omega)).trans (congrArg (fun i => LR_13[i]?) (show 64 + k - 64 = k by omega))
theorem LBr_14 (k : Nat) : cL_law.data.toList[896 + k]? = LR_14[k]? := by
  have h := LBr_13 (64 + k)
  rw [show 832 + (64 + k) = 896 + k by omega] at h
  rw [h]
  exact (List.getElem?_append_right (l₁ := LB_13) (l₂ := LR_14) (show 64 ≤ 64 + k by omega)).trans (congrArg (fun i => LR_14[i]?) (show 64 + k - 64 = k by omega))
theorem LBr_15 (k : Nat) : cL_law.data.toList[960 + k]? = LR_15[k]? := by
  have h := LBr_14 (64 + k)
  rw [show 896 + (64 + k) = 960 + k by omega] at h
  rw [h]
  exact (List.getElem?_append_right (l₁ := LB_14) (l₂ := LR_15) (show 64 ≤ 64 + k by omega)).trans (congrArg (fun i => LR_15[i]?) (show 64 + k - 64 = k by omega))
theorem LBr_16 (k : Nat) : cL_law.data.toList[1024 + k]? = LR_16[k]? := by
  have h := LBr_15 (64 + k)
  rw [show 960 + (64 + k) = 1024 + k by omega] at h
  rw [h]
  exact (List.getElem?_append_right (l₁ := LB_15) (l₂ := LR_16) (show 64 ≤ 64 + k by omega)).trans (congrArg (fun i => LR_16[i]?) (show 64 + k - 64 = k by omega))
theorem LBr_17 (k : Nat) : cL_law.data.toList[1088 + k]? = LR_17[k]? := by
  have h := LBr_16 (64 + k)
  rw [show 1024 + (64 + k) = 1088 + k by omega] at h
  rw [h]
  exact (List.getElem?_append_right (l₁ := LB_16) (l₂ := LR_17) (show 64 ≤ 64 + k by omega)).trans (congrArg (fun i => LR_17[i]?) (show 64 + k - 64 = k by omega))
theorem LBr_18 (k : Nat) : cL_law.data.toList[1152 + k]? = LR_18[k]? := by
  have h := LBr_17 (64 + k)
  rw [show 1088 + (64 + k) = 1152 + k by omega] at h
  rw [h]
  exact (List.getElem?_append_right (l₁ := LB_17) (l₂ := LR_18) (show 64 ≤ 64 + k by omega)).trans (congrArg (fun i => LR_18[i]?) (show 64 + k - 64 = k by omega))
theorem LBr_19 (k : Nat) : cL_law.data.toList[1216 + k]? = LR_19[k]? := by
  have h := LBr_18 (64 + k)
  rw [show 1152 + (64 + k) = 1216 + k by omega] at h
  rw [h]
  exact (List.getElem?_append_right (l₁ := LB_18) (l₂ := LR_19) (show 64 ≤ 64 + k by omega)).trans (congrArg (fun i => LR_19[i]?) (show 64 + k - 64 = k by omega))
theorem LBr_20 (k : Nat) : cL_law.data.toList[1280 + k]? = LR_20[k]? := by
  have h := LBr_19 (64 + k)
  rw [show 1216 + (64 + k) = 1280 + k by omega] at h
  rw [h]
  exact (List.getElem?_append_right (l₁ := LB_19) (l₂ := LR_20) (show 64 ≤ 64 + k by omega)).trans (congrArg (fun i => LR_20[i]?) (show 64 + k - 64 = k by omega))
theorem LBr_21 (k : Nat) : cL_law.data.toList[1344 + k]? = LR_21[k]? := by
  have h := LBr_20 (64 + k)
  rw [show 1280 + (64 + k) = 1344 + k by omega] at h
  rw [h]
  exact (List.getElem?_append_right (l₁ := LB_20) (l₂ := LR_21) (show 64 ≤ 64 + k by omega)).trans (congrArg (fun i => LR_21[i]?) (show 64 + k - 64 = k by omega))
theorem LBr_22 (k : Nat) : cL_law.data.toList[1408 + k]? = LR_22[k]? := by
  have h := LBr_21 (64 + k)
  rw [show 1344 + (64 + k) = 1408 + k by omega] at h
  rw [h]
  exact (List.getElem?_append_right (l₁ := LB_21) (l₂ := LR_22) (show 64 ≤ 64 + k by omega)).trans (congrArg (fun i => LR_22[i]?) (show 64 + k - 64 = k by omega))
theorem LBr_23 (k : Nat) : cL_law.data.toList[1472 + k]? = LR_23[k]? := by
  have h := LBr_22 (64 + k)
  rw [show 1408 + (64 + k) = 1472 + k by omega] at h
  rw [h]
  exact (List.getElem?_append_right (l₁ := LB_22) (l₂ := LR_23) (show 64 ≤ 64 + k by omega)).trans (congrArg (fun i => LR_23[i]?) (show 64 + k - 64 = k by omega))
theorem dk_89 (pc : Nat) : ∃ K : Nat → Jvm.ClassFile.Decoder Jvm.ClassFile.Instr, Jvm.ClassFile.Decoder.instr pc = (Jvm.ClassFile.Reader.u1 >>= K) ∧ K 89 = Pure.pure (.dup : Jvm.ClassFile.Instr) := ⟨_, rfl, rfl⟩
theorem dk_89_ {c : ByteArray} {pc : Nat} (h : c.data.toList[pc]? = some 0x59) : decode c pc = .ok (.dup, 1) := by
  obtain ⟨K, e, k⟩ := dk_89 pc
  exact dk_one h e k
theorem dk_76 (pc : Nat) : ∃ K : Nat → Jvm.ClassFile.Decoder Jvm.ClassFile.Instr, Jvm.ClassFile.Decoder.instr pc = (Jvm.ClassFile.Reader.u1 >>= K) ∧ K 76 = Pure.pure (.astore_n 1 : Jvm.ClassFile.Instr) := ⟨_, rfl, rfl⟩
theorem dk_76_ {c : ByteArray} {pc : Nat} (h : c.data.toList[pc]? = some 0x4c) : decode c pc = .ok (.astore_n 1, 1) := by
  obtain ⟨K, e, k⟩ := dk_76 pc
  exact dk_one h e k
theorem dk_77 (pc : Nat) : ∃ K : Nat → Jvm.ClassFile.Decoder Jvm.ClassFile.Instr, Jvm.ClassFile.Decoder.instr pc = (Jvm.ClassFile.Reader.u1 >>= K) ∧ K 77 = Pure.pure (.astore_n 2 : Jvm.ClassFile.Instr) := ⟨_, rfl, rfl⟩
theorem dk_77_ {c : ByteArray} {pc : Nat} (h : c.data.toList[pc]? = some 0x4d) : decode c pc = .ok (.astore_n 2, 1) := by
  obtain ⟨K, e, k⟩ := dk_77 pc
  exact dk_one h e k
theorem dk_3 (pc : Nat) : ∃ K : Nat → Jvm.ClassFile.Decoder Jvm.ClassFile.Instr, Jvm.ClassFile.Decoder.instr pc = (Jvm.ClassFile.Reader.u1 >>= K) ∧ K 3 = Pure.pure (.iconst 0 : Jvm.ClassFile.Instr) := ⟨_, rfl, rfl⟩
theorem dk_3_ {c : ByteArray} {pc : Nat} (h : c.data.toList[pc]? = some 0x03) : decode c pc = .ok (.iconst 0, 1) := by
  obtain ⟨K, e, k⟩ := dk_3 pc
  exact dk_one h e k
theorem dk_62 (pc : Nat) : ∃ K : Nat → Jvm.ClassFile.Decoder Jvm.ClassFile.Instr, Jvm.ClassFile.Decoder.instr pc = (Jvm.ClassFile.Reader.u1 >>= K) ∧ K 62 = Pure.pure (.istore_n 3 : Jvm.ClassFile.Instr) := ⟨_, rfl, rfl⟩
theorem dk_62_ {c : ByteArray} {pc : Nat} (h : c.data.toList[pc]? = some 0x3e) : decode c pc = .ok (.istore_n 3, 1) := by
  obtain ⟨K, e, k⟩ := dk_62 pc
  exact dk_one h e k
theorem dk_29 (pc : Nat) : ∃ K : Nat → Jvm.ClassFile.Decoder Jvm.ClassFile.Instr, Jvm.ClassFile.Decoder.instr pc = (Jvm.ClassFile.Reader.u1 >>= K) ∧ K 29 = Pure.pure (.iload_n 3 : Jvm.ClassFile.Instr) := ⟨_, rfl, rfl⟩
theorem dk_29_ {c : ByteArray} {pc : Nat} (h : c.data.toList[pc]? = some 0x1d) : decode c pc = .ok (.iload_n 3, 1) := by
  obtain ⟨K, e, k⟩ := dk_29 pc
  exact dk_one h e k
theorem dk_42 (pc : Nat) : ∃ K : Nat → Jvm.ClassFile.Decoder Jvm.ClassFile.Instr, Jvm.ClassFile.Decoder.instr pc = (Jvm.ClassFile.Reader.u1 >>= K) ∧ K 42 = Pure.pure (.aload_n 0 : Jvm.ClassFile.Instr) := ⟨_, rfl, rfl⟩
theorem dk_42_ {c : ByteArray} {pc : Nat} (h : c.data.toList[pc]? = some 0x2a) : decode c pc = .ok (.aload_n 0, 1) := by
  obtain ⟨K, e, k⟩ := dk_42 pc
  exact dk_one h e k
theorem dk_190 (pc : Nat) : ∃ K : Nat → Jvm.ClassFile.Decoder Jvm.ClassFile.Instr, Jvm.ClassFile.Decoder.instr pc = (Jvm.ClassFile.Reader.u1 >>= K) ∧ K 190 = Pure.pure (.arraylength : Jvm.ClassFile.Instr) := ⟨_, rfl, rfl⟩
theorem dk_190_ {c : ByteArray} {pc : Nat} (h : c.data.toList[pc]? = some 0xbe) : decode c pc = .ok (.arraylength, 1) := by
  obtain ⟨K, e, k⟩ := dk_190 pc
  exact dk_one h e k
theorem dk_100 (pc : Nat) : ∃ K : Nat → Jvm.ClassFile.Decoder Jvm.ClassFile.Instr, Jvm.ClassFile.Decoder.instr pc = (Jvm.ClassFile.Reader.u1 >>= K) ∧ K 100 = Pure.pure (.isub : Jvm.ClassFile.Instr) := ⟨_, rfl, rfl⟩
theorem dk_100_ {c : ByteArray} {pc : Nat} (h : c.data.toList[pc]? = some 0x64) : decode c pc = .ok (.isub, 1) := by
  obtain ⟨K, e, k⟩ := dk_100 pc
  exact dk_one h e k
theorem dk_163 (pc : Nat) : ∃ K : Nat → Jvm.ClassFile.Decoder Jvm.ClassFile.Instr, Jvm.ClassFile.Decoder.instr pc = (Jvm.ClassFile.Reader.u1 >>= K) ∧ K 163 = (Jvm.ClassFile.Reader.s2 >>= fun i => Pure.pure (.if_icmp .gt i : Jvm.ClassFile.Instr)) := ⟨_, rfl, rfl⟩
theorem dk_163_ {c : ByteArray} {pc : Nat} {q r : UInt8} {i : Int} (h : c.data.toList[pc]? = some 0xa3) (h1 : c.data.toList[pc + 1]? = some q) (h2 : c.data.toList[pc + 1 + 1]? = some r) (hi : Jvm.ClassFile.Reader.signed 16 (q.toNat * 256 + r.toNat) = i) : decode c pc = .ok (.if_icmp .gt i, 3) := by
  obtain ⟨K, e, k⟩ := dk_163 pc
  subst hi
  exact dk_twoS h h1 h2 e k
theorem dk_46 (pc : Nat) : ∃ K : Nat → Jvm.ClassFile.Decoder Jvm.ClassFile.Instr, Jvm.ClassFile.Decoder.instr pc = (Jvm.ClassFile.Reader.u1 >>= K) ∧ K 46 = Pure.pure (.iaload : Jvm.ClassFile.Instr) := ⟨_, rfl, rfl⟩
theorem dk_46_ {c : ByteArray} {pc : Nat} (h : c.data.toList[pc]? = some 0x2e) : decode c pc = .ok (.iaload, 1) := by
  obtain ⟨K, e, k⟩ := dk_46 pc
  exact dk_one h e k
theorem dk_126 (pc : Nat) : ∃ K : Nat → Jvm.ClassFile.Decoder Jvm.ClassFile.Instr, Jvm.ClassFile.Decoder.instr pc = (Jvm.ClassFile.Reader.u1 >>= K) ∧ K 126 = Pure.pure (.iand : Jvm.ClassFile.Instr) := ⟨_, rfl, rfl⟩
theorem dk_126_ {c : ByteArray} {pc : Nat} (h : c.data.toList[pc]? = some 0x7e) : decode c pc = .ok (.iand, 1) := by
  obtain ⟨K, e, k⟩ := dk_126 pc
  exact dk_one h e k
theorem dk_43 (pc : Nat) : ∃ K : Nat → Jvm.ClassFile.Decoder Jvm.ClassFile.Instr, Jvm.ClassFile.Decoder.instr pc = (Jvm.ClassFile.Reader.u1 >>= K) ∧ K 43 = Pure.pure (.aload_n 1 : Jvm.ClassFile.Instr) := ⟨_, rfl, rfl⟩
theorem dk_43_ {c : ByteArray} {pc : Nat} (h : c.data.toList[pc]? = some 0x2b) : decode c pc = .ok (.aload_n 1, 1) := by
  obtain ⟨K, e, k⟩ := dk_43 pc
  exact dk_one h e k
theorem dk_182 (pc : Nat) : ∃ K : Nat → Jvm.ClassFile.Decoder Jvm.ClassFile.Instr, Jvm.ClassFile.Decoder.instr pc = (Jvm.ClassFile.Reader.u1 >>= K) ∧ K 182 = (Jvm.ClassFile.Reader.u2 >>= fun i => Pure.pure (.invokevirtual i : Jvm.ClassFile.Instr)) := ⟨_, rfl, rfl⟩
theorem dk_182_ {c : ByteArray} {pc : Nat} {q r : UInt8} {i : Nat} (h : c.data.toList[pc]? = some 0xb6) (h1 : c.data.toList[pc + 1]? = some q) (h2 : c.data.toList[pc + 1 + 1]? = some r) (hi : q.toNat * 256 + r.toNat = i) : decode c pc = .ok (.invokevirtual i, 3) := by
  obtain ⟨K, e, k⟩ := dk_182 pc
  subst hi
  exact dk_two h h1 h2 e k
theorem dk_87 (pc : Nat) : ∃ K : Nat → Jvm.ClassFile.Decoder Jvm.ClassFile.Instr, Jvm.ClassFile.Decoder.instr pc = (Jvm.ClassFile.Reader.u1 >>= K) ∧ K 87 = Pure.pure (.pop : Jvm.ClassFile.Instr) := ⟨_, rfl, rfl⟩
theorem dk_87_ {c : ByteArray} {pc : Nat} (h : c.data.toList[pc]? = some 0x57) : decode c pc = .ok (.pop, 1) := by
  obtain ⟨K, e, k⟩ := dk_87 pc
  exact dk_one h e k
theorem dk_44 (pc : Nat) : ∃ K : Nat → Jvm.ClassFile.Decoder Jvm.ClassFile.Instr, Jvm.ClassFile.Decoder.instr pc = (Jvm.ClassFile.Reader.u1 >>= K) ∧ K 44 = Pure.pure (.aload_n 2 : Jvm.ClassFile.Instr) := ⟨_, rfl, rfl⟩
theorem dk_44_ {c : ByteArray} {pc : Nat} (h : c.data.toList[pc]? = some 0x2c) : decode c pc = .ok (.aload_n 2, 1) := by
  obtain ⟨K, e, k⟩ := dk_44 pc
  exact dk_one h e k
theorem dk_167 (pc : Nat) : ∃ K : Nat → Jvm.ClassFile.Decoder Jvm.ClassFile.Instr, Jvm.ClassFile.Decoder.instr pc = (Jvm.ClassFile.Reader.u1 >>= K) ∧ K 167 = (Jvm.ClassFile.Reader.s2 >>= fun i => Pure.pure (.goto i : Jvm.ClassFile.Instr)) := ⟨_, rfl, rfl⟩
theorem dk_167_ {c : ByteArray} {pc : Nat} {q r : UInt8} {i : Int} (h : c.data.toList[pc]? = some 0xa7) (h1 : c.data.toList[pc + 1]? = some q) (h2 : c.data.toList[pc + 1 + 1]? = some r) (hi : Jvm.ClassFile.Reader.signed 16 (q.toNat * 256 + r.toNat) = i) : decode c pc = .ok (.goto i, 3) := by
  obtain ⟨K, e, k⟩ := dk_167 pc
  subst hi
  exact dk_twoS h h1 h2 e k
theorem dk_4 (pc : Nat) : ∃ K : Nat → Jvm.ClassFile.Decoder Jvm.ClassFile.Instr, Jvm.ClassFile.Decoder.instr pc = (Jvm.ClassFile.Reader.u1 >>= K) ∧ K 4 = Pure.pure (.iconst 1 : Jvm.ClassFile.Instr) := ⟨_, rfl, rfl⟩
theorem dk_4_ {c : ByteArray} {pc : Nat} (h : c.data.toList[pc]? = some 0x04) : decode c pc = .ok (.iconst 1, 1) := by
  obtain ⟨K, e, k⟩ := dk_4 pc
  exact dk_one h e k
theorem dk_96 (pc : Nat) : ∃ K : Nat → Jvm.ClassFile.Decoder Jvm.ClassFile.Instr, Jvm.ClassFile.Decoder.instr pc = (Jvm.ClassFile.Reader.u1 >>= K) ∧ K 96 = Pure.pure (.iadd : Jvm.ClassFile.Instr) := ⟨_, rfl, rfl⟩
theorem dk_96_ {c : ByteArray} {pc : Nat} (h : c.data.toList[pc]? = some 0x60) : decode c pc = .ok (.iadd, 1) := by
  obtain ⟨K, e, k⟩ := dk_96 pc
  exact dk_one h e k
theorem dk_5 (pc : Nat) : ∃ K : Nat → Jvm.ClassFile.Decoder Jvm.ClassFile.Instr, Jvm.ClassFile.Decoder.instr pc = (Jvm.ClassFile.Reader.u1 >>= K) ∧ K 5 = Pure.pure (.iconst 2 : Jvm.ClassFile.Instr) := ⟨_, rfl, rfl⟩
theorem dk_5_ {c : ByteArray} {pc : Nat} (h : c.data.toList[pc]? = some 0x05) : decode c pc = .ok (.iconst 2, 1) := by
  obtain ⟨K, e, k⟩ := dk_5 pc
  exact dk_one h e k
theorem dk_6 (pc : Nat) : ∃ K : Nat → Jvm.ClassFile.Decoder Jvm.ClassFile.Instr, Jvm.ClassFile.Decoder.instr pc = (Jvm.ClassFile.Reader.u1 >>= K) ∧ K 6 = Pure.pure (.iconst 3 : Jvm.ClassFile.Instr) := ⟨_, rfl, rfl⟩
theorem dk_6_ {c : ByteArray} {pc : Nat} (h : c.data.toList[pc]? = some 0x06) : decode c pc = .ok (.iconst 3, 1) := by
  obtain ⟨K, e, k⟩ := dk_6 pc
  exact dk_one h e k
theorem dk_7 (pc : Nat) : ∃ K : Nat → Jvm.ClassFile.Decoder Jvm.ClassFile.Instr, Jvm.ClassFile.Decoder.instr pc = (Jvm.ClassFile.Reader.u1 >>= K) ∧ K 7 = Pure.pure (.iconst 4 : Jvm.ClassFile.Instr) := ⟨_, rfl, rfl⟩
theorem dk_7_ {c : ByteArray} {pc : Nat} (h : c.data.toList[pc]? = some 0x07) : decode c pc = .ok (.iconst 4, 1) := by
  obtain ⟨K, e, k⟩ := dk_7 pc
  exact dk_one h e k
theorem dk_153 (pc : Nat) : ∃ K : Nat → Jvm.ClassFile.Decoder Jvm.ClassFile.Instr, Jvm.ClassFile.Decoder.instr pc = (Jvm.ClassFile.Reader.u1 >>= K) ∧ K 153 = (Jvm.ClassFile.Reader.s2 >>= fun i => Pure.pure (.ifCond .eq i : Jvm.ClassFile.Instr)) := ⟨_, rfl, rfl⟩
theorem dk_153_ {c : ByteArray} {pc : Nat} {q r : UInt8} {i : Int} (h : c.data.toList[pc]? = some 0x99) (h1 : c.data.toList[pc + 1]? = some q) (h2 : c.data.toList[pc + 1 + 1]? = some r) (hi : Jvm.ClassFile.Reader.signed 16 (q.toNat * 256 + r.toNat) = i) : decode c pc = .ok (.ifCond .eq i, 3) := by
  obtain ⟨K, e, k⟩ := dk_153 pc
  subst hi
  exact dk_twoS h h1 h2 e k
theorem dk_133 (pc : Nat) : ∃ K : Nat → Jvm.ClassFile.Decoder Jvm.ClassFile.Instr, Jvm.ClassFile.Decoder.instr pc = (Jvm.ClassFile.Reader.u1 >>= K) ∧ K 133 = Pure.pure (.i2l : Jvm.ClassFile.Instr) := ⟨_, rfl, rfl⟩
theorem dk_133_ {c : ByteArray} {pc : Nat} (h : c.data.toList[pc]? = some 0x85) : decode c pc = .ok (.i2l, 1) := by
  obtain ⟨K, e, k⟩ := dk_133 pc
  exact dk_one h e k
theorem dk_121 (pc : Nat) : ∃ K : Nat → Jvm.ClassFile.Decoder Jvm.ClassFile.Instr, Jvm.ClassFile.Decoder.instr pc = (Jvm.ClassFile.Reader.u1 >>= K) ∧ K 121 = Pure.pure (.lshl : Jvm.ClassFile.Instr) := ⟨_, rfl, rfl⟩
theorem dk_121_ {c : ByteArray} {pc : Nat} (h : c.data.toList[pc]? = some 0x79) : decode c pc = .ok (.lshl, 1) := by
  obtain ⟨K, e, k⟩ := dk_121 pc
  exact dk_one h e k
theorem dk_127 (pc : Nat) : ∃ K : Nat → Jvm.ClassFile.Decoder Jvm.ClassFile.Instr, Jvm.ClassFile.Decoder.instr pc = (Jvm.ClassFile.Reader.u1 >>= K) ∧ K 127 = Pure.pure (.land : Jvm.ClassFile.Instr) := ⟨_, rfl, rfl⟩
theorem dk_127_ {c : ByteArray} {pc : Nat} (h : c.data.toList[pc]? = some 0x7f) : decode c pc = .ok (.land, 1) := by
  obtain ⟨K, e, k⟩ := dk_127 pc
  exact dk_one h e k
theorem dk_129 (pc : Nat) : ∃ K : Nat → Jvm.ClassFile.Decoder Jvm.ClassFile.Instr, Jvm.ClassFile.Decoder.instr pc = (Jvm.ClassFile.Reader.u1 >>= K) ∧ K 129 = Pure.pure (.lor : Jvm.ClassFile.Instr) := ⟨_, rfl, rfl⟩
theorem dk_129_ {c : ByteArray} {pc : Nat} (h : c.data.toList[pc]? = some 0x81) : decode c pc = .ok (.lor, 1) := by
  obtain ⟨K, e, k⟩ := dk_129 pc
  exact dk_one h e k
theorem dk_88 (pc : Nat) : ∃ K : Nat → Jvm.ClassFile.Decoder Jvm.ClassFile.Instr, Jvm.ClassFile.Decoder.instr pc = (Jvm.ClassFile.Reader.u1 >>= K) ∧ K 88 = Pure.pure (.pop2 : Jvm.ClassFile.Instr) := ⟨_, rfl, rfl⟩
theorem dk_88_ {c : ByteArray} {pc : Nat} (h : c.data.toList[pc]? = some 0x58) : decode c pc = .ok (.pop2, 1) := by
  obtain ⟨K, e, k⟩ := dk_88 pc
  exact dk_one h e k
theorem dk_8 (pc : Nat) : ∃ K : Nat → Jvm.ClassFile.Decoder Jvm.ClassFile.Instr, Jvm.ClassFile.Decoder.instr pc = (Jvm.ClassFile.Reader.u1 >>= K) ∧ K 8 = Pure.pure (.iconst 5 : Jvm.ClassFile.Instr) := ⟨_, rfl, rfl⟩
theorem dk_8_ {c : ByteArray} {pc : Nat} (h : c.data.toList[pc]? = some 0x08) : decode c pc = .ok (.iconst 5, 1) := by
  obtain ⟨K, e, k⟩ := dk_8 pc
  exact dk_one h e k
theorem dk_159 (pc : Nat) : ∃ K : Nat → Jvm.ClassFile.Decoder Jvm.ClassFile.Instr, Jvm.ClassFile.Decoder.instr pc = (Jvm.ClassFile.Reader.u1 >>= K) ∧ K 159 = (Jvm.ClassFile.Reader.s2 >>= fun i => Pure.pure (.if_icmp .eq i : Jvm.ClassFile.Instr)) := ⟨_, rfl, rfl⟩
theorem dk_159_ {c : ByteArray} {pc : Nat} {q r : UInt8} {i : Int} (h : c.data.toList[pc]? = some 0x9f) (h1 : c.data.toList[pc + 1]? = some q) (h2 : c.data.toList[pc + 1 + 1]? = some r) (hi : Jvm.ClassFile.Reader.signed 16 (q.toNat * 256 + r.toNat) = i) : decode c pc = .ok (.if_icmp .eq i, 3) := by
  obtain ⟨K, e, k⟩ := dk_159 pc
  subst hi
  exact dk_twoS h h1 h2 e k
theorem dk_172 (pc : Nat) : ∃ K : Nat → Jvm.ClassFile.Decoder Jvm.ClassFile.Instr, Jvm.ClassFile.Decoder.instr pc = (Jvm.ClassFile.Reader.u1 >>= K) ∧ K 172 = Pure.pure (.ireturn : Jvm.ClassFile.Instr) := ⟨_, rfl, rfl⟩
theorem dk_172_ {c : ByteArray} {pc : Nat} (h : c.data.toList[pc]? = some 0xac) : decode c pc = .ok (.ireturn, 1) := by
  obtain ⟨K, e, k⟩ := dk_172 pc
  exact dk_one h e k
