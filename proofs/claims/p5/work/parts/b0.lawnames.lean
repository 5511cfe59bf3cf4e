abbrev cL_law : ByteArray := code
def dk_at (c : ByteArray) (p b : Nat) : Prop := (Reader.u1 : Decoder Nat).runAt c p = Except.ok (b, p + 1)
theorem dk_u1 {c : ByteArray} {p : Nat} (h : p < c.size) : (Reader.u1 : Decoder Nat).runAt c p = Except.ok (c[p].toNat, p + 1) := by
  have e : (Reader.u1 : Decoder Nat).runAt c p = (if h : p < c.size then (fun (_ : ByteArray) (_ : Nat) => (Except.ok (c[p].toNat, p + 1) : Except DecodeError (Nat × Nat))) else (fun _ _ => Except.error (DecodeError.truncated p))) c p := rfl
  rw [e, dif_pos h]
theorem dk_lst {c : ByteArray} {L : List UInt8} (hc : c.data.toList = L) {p : Nat} {b : UInt8} (hp : L[p]? = some b) : dk_at c p b.toNat := by
  subst hc
  obtain ⟨h, e⟩ := List.getElem?_eq_some_iff.mp hp
  have h' : p < c.size := h
  have e2 : c[p] = b := e
  unfold dk_at
  rw [dk_u1 h', e2]
theorem dk_bind {α β : Type} {r : Decoder α} {k : α → Decoder β} {c : ByteArray} {p s : Nat} {a : α} (h : r.runAt c p = Except.ok (a, s)) : (r >>= k).runAt c p = (k a).runAt c s := by
  show Except.bind (r.runAt c p) _ = _
  rw [h]
  rfl
theorem dk_dec {c : ByteArray} {pc n s : Nat} {i : Instr} (h : (Decoder.instr pc).runAt c pc = Except.ok (i, s)) (e : s = pc + n) : decode c pc = Except.ok (i, n) := by
  subst e
  show Except.bind ((Decoder.instr pc).runAt c pc) _ = _
  rw [h]
  show Except.ok (i, pc + n - pc) = _
  rw [Nat.add_sub_cancel_left]
theorem dk_u2 {c : ByteArray} {p a b : Nat} (h : dk_at c p a) (h2 : dk_at c (p + 1) b) : (Reader.u2 : Decoder Nat).runAt c p = Except.ok (a * 256 + b, p + 1 + 1) := by
  delta Reader.u2
  refine (dk_bind h).trans ?_
  exact (dk_bind h2).trans rfl
theorem lcA {A L : List UInt8} {j : Nat} {b : UInt8} (hA : A.length = 32) (h : L[j]? = some b) : (A ++ L)[32 + j]? = some b := by
  rw [List.getElem?_append_right (by omega), hA, Nat.add_sub_cancel_left]
  exact h
theorem lcB {A L : List UInt8} {j : Nat} {b : UInt8} (h : A[j]? = some b) : (A ++ L)[j]? = some b := by
  rw [List.getElem?_append_left (List.getElem?_eq_some_iff.mp h).1]
  exact h
theorem op_aload_n_0 {c : ByteArray} {pc : Nat} (h : dk_at c pc 42) : decode c pc = Except.ok (.aload_n 0, 1) := by
  refine dk_dec (s := pc + 1) ?_ rfl
  delta Decoder.instr
  exact (dk_bind h).trans rfl
theorem op_aload_n_1 {c : ByteArray} {pc : Nat} (h : dk_at c pc 43) : decode c pc = Except.ok (.aload_n 1, 1) := by
  refine dk_dec (s := pc + 1) ?_ rfl
  delta Decoder.instr
  exact (dk_bind h).trans rfl
theorem op_aload_n_2 {c : ByteArray} {pc : Nat} (h : dk_at c pc 44) : decode c pc = Except.ok (.aload_n 2, 1) := by
  refine dk_dec (s := pc + 1) ?_ rfl
  delta Decoder.instr
  exact (dk_bind h).trans rfl
theorem op_aload_n_3 {c : ByteArray} {pc : Nat} (h : dk_at c pc 45) : decode c pc = Except.ok (.aload_n 3, 1) := by
  refine dk_dec (s := pc + 1) ?_ rfl
  delta Decoder.instr
  exact (dk_bind h).trans rfl
theorem op_iaload {c : ByteArray} {pc : Nat} (h : dk_at c pc 46) : decode c pc = Except.ok (.iaload, 1) := by
  refine dk_dec (s := pc + 1) ?_ rfl
  delta Decoder.instr
  exact (dk_bind h).trans rfl
theorem op_iadd {c : ByteArray} {pc : Nat} (h : dk_at c pc 96) : decode c pc = Except.ok (.iadd, 1) := by
  refine dk_dec (s := pc + 1) ?_ rfl
  delta Decoder.instr
  exact (dk_bind h).trans rfl
theorem op_pop {c : ByteArray} {pc : Nat} (h : dk_at c pc 87) : decode c pc = Except.ok (.pop, 1) := by
  refine dk_dec (s := pc + 1) ?_ rfl
  delta Decoder.instr
  exact (dk_bind h).trans rfl
theorem op_iconst_0 {c : ByteArray} {pc : Nat} (h : dk_at c pc 3) : decode c pc = Except.ok (.iconst 0, 1) := by
  refine dk_dec (s := pc + 1) ?_ rfl
  delta Decoder.instr
  exact (dk_bind h).trans rfl
theorem op_iconst_1 {c : ByteArray} {pc : Nat} (h : dk_at c pc 4) : decode c pc = Except.ok (.iconst 1, 1) := by
  refine dk_dec (s := pc + 1) ?_ rfl
  delta Decoder.instr
  exact (dk_bind h).trans rfl
theorem op_iconst_2 {c : ByteArray} {pc : Nat} (h : dk_at c pc 5) : decode c pc = Except.ok (.iconst 2, 1) := by
  refine dk_dec (s := pc + 1) ?_ rfl
  delta Decoder.instr
  exact (dk_bind h).trans rfl
theorem op_iconst_3 {c : ByteArray} {pc : Nat} (h : dk_at c pc 6) : decode c pc = Except.ok (.iconst 3, 1) := by
  refine dk_dec (s := pc + 1) ?_ rfl
  delta Decoder.instr
  exact (dk_bind h).trans rfl
theorem op_iconst_4 {c : ByteArray} {pc : Nat} (h : dk_at c pc 7) : decode c pc = Except.ok (.iconst 4, 1) := by
  refine dk_dec (s := pc + 1) ?_ rfl
  delta Decoder.instr
  exact (dk_bind h).trans rfl
theorem op_iconst_5 {c : ByteArray} {pc : Nat} (h : dk_at c pc 8) : decode c pc = Except.ok (.iconst 5, 1) := by
  refine dk_dec (s := pc + 1) ?_ rfl
  delta Decoder.instr
  exact (dk_bind h).trans rfl
theorem op_dup {c : ByteArray} {pc : Nat} (h : dk_at c pc 89) : decode c pc = Except.ok (.dup, 1) := by
  refine dk_dec (s := pc + 1) ?_ rfl
  delta Decoder.instr
  exact (dk_bind h).trans rfl
theorem op_iload {c : ByteArray} {pc n : Nat} (h : dk_at c pc 21) (h2 : dk_at c (pc + 1) n) : decode c pc = Except.ok (.iload n, 2) := by
  refine dk_dec (s := pc + 1 + 1) ?_ rfl
  delta Decoder.instr
  refine (dk_bind h).trans ?_
  exact (dk_bind (r := (Reader.u1 : Decoder Nat)) (k := fun y => pure (Instr.iload y)) h2).trans rfl
theorem op_istore {c : ByteArray} {pc n : Nat} (h : dk_at c pc 54) (h2 : dk_at c (pc + 1) n) : decode c pc = Except.ok (.istore n, 2) := by
  refine dk_dec (s := pc + 1 + 1) ?_ rfl
  delta Decoder.instr
  refine (dk_bind h).trans ?_
  exact (dk_bind (r := (Reader.u1 : Decoder Nat)) (k := fun y => pure (Instr.istore y)) h2).trans rfl
theorem op_invokevirtual {c : ByteArray} {pc n : Nat} (a b : Nat) (h : dk_at c pc 182) (h1 : dk_at c (pc + 1) a) (h2 : dk_at c (pc + 1 + 1) b) (e : a * 256 + b = n) : decode c pc = Except.ok (.invokevirtual n, 3) := by
  subst e
  refine dk_dec (s := pc + 1 + 1 + 1) ?_ rfl
  delta Decoder.instr
  refine (dk_bind h).trans ?_
  exact (dk_bind (r := (Reader.u2 : Decoder Nat)) (k := fun y => pure (Instr.invokevirtual y)) (dk_u2 h1 h2)).trans rfl
