theorem kc_lt {a b : Int32} (h : a < b) : a.toInt < b.toInt := Int32.lt_iff_toInt_lt.mp h
theorem kc_le {a b : Int32} (h : a ≤ b) : a.toInt ≤ b.toInt := Int32.le_iff_toInt_le.mp h
theorem kc_nlt {a b : Int32} (h : ¬ a < b) : b.toInt ≤ a.toInt := Int.not_lt.mp (fun q => h (Int32.lt_iff_toInt_lt.mpr q))
theorem kc_nle {a b : Int32} (h : ¬ a ≤ b) : b.toInt < a.toInt := Int.not_le.mp (fun q => h (Int32.le_iff_toInt_le.mpr q))
theorem kc_eq {a b : Int32} (h : a = b) : a.toInt = b.toInt := congrArg Int32.toInt h
theorem kc_ne {a b : Int32} (h : ¬ a = b) : ¬ a.toInt = b.toInt := fun q => h (Int32.toInt_inj.mp q)
theorem ki_in {i : Int32} {n : Nat} (h0 : 0 ≤ i.toInt) (h1 : i.toInt < (n : Int)) : vp_in i n := by
  have hz : (0 : Int32).toInt = 0 := by decide
  rintro (h | h)
  · have := Int32.lt_iff_toInt_lt.mp h
    rw [hz] at this
    omega
  · have h2 : i.toNatClampNeg = i.toInt.toNat := rfl
    omega
theorem ki_cA {D : va_G} {cl : List vw_C} {tys : List (ClassId × FieldType)} {s : State} {c1 c2 : ClassId} (h : va_K D cl tys s) (i j : Nat) (hi : tys[i]? = some (c1, .int)) (hj : tys[j]? = some (c2, .int)) : c2 = c1 := by
  have h1 : s.vm.findClass ("[" ++ (FieldType.int).toString) = some c1 := (h.2 i _ hi).2
  have h2 : s.vm.findClass ("[" ++ (FieldType.int).toString) = some c2 := (h.2 j _ hj).2
  exact Option.some.inj (h2.symm.trans h1)
theorem ki_zi (cA : ClassId) (n : Nat) : vp_cell cA (n, .inl (fun _ => 0)) = arrV cA n (fun _ => defaultValue .int) := rfl
theorem ki_zl (cA : ClassId) (n : Nat) : vp_cell cA (n, .inr (.inl (fun _ => 0))) = arrV cA n (fun _ => defaultValue .long) := rfl
theorem ki_ofRun {p : Program} {l : Launch} {e : Env} {R : Room} {s : State} {m : MethodId} {args : Array Value} {below : List Frame} {meth : Method} {c : Code} {H : Heap} {locs : List Loc} {cells slots mc ms : Nat} {g : JFrame} {rest : List Value} {Qa : State → Outcome → State → Prop} {free : Addr → Prop} (h : va_Run p l e R s m args below meth c H locs cells slots mc ms g rest Qa free) : CallRun p l e R s m args below meth c H locs cells slots mc ms g rest Qa free := by
  intro T hT X
  obtain ⟨v, st₀, t, T', L, h0, X', hL, e1, -, h2, st⟩ := h T hT X
  exact ⟨v, st₀, t, T', L, h0, X', hL, e1, h2, st⟩
theorem ki_inl {i : Int32} {n : Nat} (h : ¬ (i < 0 ∨ n ≤ i.toNatClampNeg)) : vp_in i n := h
theorem ki_z0 : ∀ j, j < 2 → defaultValue (tyX0 j) = vp_V [.null, .int 0] j := by
  intro j hj
  rcases (show j = 0 ∨ j = 1 by omega) with rfl | rfl <;> rfl
theorem ki_z1 : ∀ j, j < 4 → defaultValue (tyX1 j) = vp_V [.null, .null, .int 0, .int 0] j := by
  intro j hj
  rcases (show j = 0 ∨ j = 1 ∨ j = 2 ∨ j = 3 by omega) with rfl | rfl | rfl | rfl <;> rfl
theorem ki_z2 : ∀ j, j < 11 → defaultValue (tyX2 j) = vp_V [.null, .null, .null, .null, .null, .null, .null, .null, .null, .int 0, .int 0] j := by
  intro j hj
  rcases (show j = 0 ∨ j = 1 ∨ j = 2 ∨ j = 3 ∨ j = 4 ∨ j = 5 ∨ j = 6 ∨ j = 7 ∨ j = 8 ∨ j = 9 ∨ j = 10 by omega) with rfl | rfl | rfl | rfl | rfl | rfl | rfl | rfl | rfl | rfl | rfl <;> rfl
theorem ki_z3 : ∀ j, j < 5 → defaultValue (tyX3 j) = vp_V [.null, .null, .int 0, .int 0, .int 0] j := by
  intro j hj
  rcases (show j = 0 ∨ j = 1 ∨ j = 2 ∨ j = 3 ∨ j = 4 by omega) with rfl | rfl | rfl | rfl | rfl <;> rfl
theorem ki_z4 : ∀ j, j < 9 → defaultValue (tyX4 j) = vp_V [.null, .null, .null, .null, .null, .null, .null, .int 0, .int 0] j := by
  intro j hj
  rcases (show j = 0 ∨ j = 1 ∨ j = 2 ∨ j = 3 ∨ j = 4 ∨ j = 5 ∨ j = 6 ∨ j = 7 ∨ j = 8 by omega) with rfl | rfl | rfl | rfl | rfl | rfl | rfl | rfl | rfl <;> rfl
theorem ki_z5 : ∀ j, j < 30 → defaultValue (tyX5 j) = vp_V [.null, .int 0, .int 0, .int 0, .null, .null, .null, .null, .null, .null, .null, .int 0, .null, .null, .int 0, .null, .int 0, .null, .null, .null, .null, .null, .int 0, .null, .null, .int 0, .null, .null, .null, .int 0] j := by
  intro j hj
  rcases (show j = 0 ∨ j = 1 ∨ j = 2 ∨ j = 3 ∨ j = 4 ∨ j = 5 ∨ j = 6 ∨ j = 7 ∨ j = 8 ∨ j = 9 ∨ j = 10 ∨ j = 11 ∨ j = 12 ∨ j = 13 ∨ j = 14 ∨ j = 15 ∨ j = 16 ∨ j = 17 ∨ j = 18 ∨ j = 19 ∨ j = 20 ∨ j = 21 ∨ j = 22 ∨ j = 23 ∨ j = 24 ∨ j = 25 ∨ j = 26 ∨ j = 27 ∨ j = 28 ∨ j = 29 by omega) with rfl | rfl | rfl | rfl | rfl | rfl | rfl | rfl | rfl | rfl | rfl | rfl | rfl | rfl | rfl | rfl | rfl | rfl | rfl | rfl | rfl | rfl | rfl | rfl | rfl | rfl | rfl | rfl | rfl | rfl <;> rfl
theorem ki_L (L : Nat) (h : L < 8) : nI L - 8 < 0 := by
  rcases (show L = 0 ∨ L = 1 ∨ L = 2 ∨ L = 3 ∨ L = 4 ∨ L = 5 ∨ L = 6 ∨ L = 7 by omega) with rfl | rfl | rfl | rfl | rfl | rfl | rfl | rfl <;> decide
theorem ki_add {x y z : Int32} {a b : Int} (e : z = x + y) (ha : x.toInt = a) (hb : y.toInt = b) (h1 : -2147483648 ≤ a + b) (h2 : a + b ≤ 2147483647) : z.toInt = a + b := by
  subst e; subst ha; subst hb
  rw [Int32.toInt_add]
  exact Int.bmod_eq_of_le (by omega) (by omega)
theorem ki_sub {x y z : Int32} {a b : Int} (e : z = x - y) (ha : x.toInt = a) (hb : y.toInt = b) (h1 : -2147483648 ≤ a - b) (h2 : a - b ≤ 2147483647) : z.toInt = a - b := by
  subst e; subst ha; subst hb
  rw [Int32.toInt_sub]
  exact Int.bmod_eq_of_le (by omega) (by omega)
theorem ki_mul {x y z : Int32} {a b : Int} (e : z = x * y) (ha : x.toInt = a) (hb : y.toInt = b) (h1 : -2147483648 ≤ a * b) (h2 : a * b ≤ 2147483647) : z.toInt = a * b := by
  subst e; subst ha; subst hb
  rw [Int32.toInt_mul]
  exact Int.bmod_eq_of_le (by omega) (by omega)
theorem ki_div2 {x z : Int32} {a : Int} (e : z = x / 2) (ha : x.toInt = a) (h0 : 0 ≤ a) : z.toInt = a / 2 := by
  subst e; subst ha
  rw [Int32.toInt_div_of_ne_right _ _ (by decide), show (2 : Int32).toInt = 2 from by decide]
  exact Int.tdiv_eq_ediv_of_nonneg h0
theorem ki_nat (x : Int32) {a : Int} (ha : x.toInt = a) (h0 : 0 ≤ a) : (x.toNatClampNeg : Int) = a := by
  subst ha
  have h2 : x.toNatClampNeg = x.toInt.toNat := rfl
  omega
theorem ki_ne0 {x : Int32} (h : ¬ x.toInt = 0) : ¬ x = 0 := fun e => h (by rw [e]; decide)
theorem ki_rng (x : Int32) : -2147483648 ≤ x.toInt ∧ x.toInt ≤ 2147483647 := ⟨x.le_toInt, Int.le_of_lt_add_one x.toInt_lt⟩
theorem ki_nateq {x y : Int32} (h : x.toInt = y.toInt) : x.toNatClampNeg = y.toNatClampNeg := by
  have h1 : x.toNatClampNeg = x.toInt.toNat := rfl
  have h2 : y.toNatClampNeg = y.toInt.toNat := rfl
  omega
theorem ki_max {x y z : Int32} {a b : Int} (e : z = if x < y then y else x) (ha : x.toInt = a) (hb : y.toInt = b) : (a ≤ b ∧ z.toInt = b) ∨ (b < a ∧ z.toInt = a) := by
  subst e; subst ha; subst hb
  split
  · rename_i h
    exact Or.inl ⟨by have := kc_lt h; omega, rfl⟩
  · rename_i h
    have := kc_nlt h
    rcases Int.lt_or_eq_of_le this with h2 | h2
    · exact Or.inr ⟨h2, rfl⟩
    · exact Or.inl ⟨by omega, by omega⟩
theorem ki_min {x y z : Int32} {a b : Int} (e : z = if y < x then y else x) (ha : x.toInt = a) (hb : y.toInt = b) : (a ≤ b ∧ z.toInt = a) ∨ (b < a ∧ z.toInt = b) := by
  subst e; subst ha; subst hb
  split
  · rename_i h
    exact Or.inr ⟨kc_lt h, rfl⟩
  · rename_i h
    exact Or.inl ⟨kc_nlt h, rfl⟩
theorem ki_shr16 (x : Int32) : -32768 ≤ (x >>> (16 &&& 31)).toInt ∧ (x >>> (16 &&& 31)).toInt ≤ 32767 := by
  have h := pk_shr x (16 &&& 31) 16 (by decide)
  rw [h, Int.shiftRight_eq_div_pow]
  have := ki_rng x
  omega
theorem ki_i2s (x : Int32) : -32768 ≤ x.toInt16.toInt32.toInt ∧ x.toInt16.toInt32.toInt ≤ 32767 := by
  rw [Int16.toInt_toInt32]
  have h1 := x.toInt16.le_toInt
  have h2 := x.toInt16.toInt_lt
  exact ⟨h1, by omega⟩
abbrev kx_a (a : Nat) (c : ClassId) (n : Nat) (f : Nat → Int32) : Nat × va_E := (a, .inl (c, n, .inl f))
abbrev kx_0 (a : Nat) (x0 : Nat) (x1 : Int32) : Nat × va_E := (a, .inr (0, [.ref x0, .int x1]))
abbrev kx_1 (a : Nat) (x0 : Nat) (x1 : Nat) (x2 : Int32) (x3 : Int32) : Nat × va_E := (a, .inr (1, [.ref x0, .ref x1, .int x2, .int x3]))
abbrev kx_2 (a : Nat) (x0 : Nat) (x1 : Nat) (x2 : Nat) (x3 : Nat) (x4 : Nat) (x5 : Nat) (x6 : Nat) (x7 : Nat) (x8 : Nat) (x9 : Int32) (x10 : Int32) : Nat × va_E := (a, .inr (2, [.ref x0, .ref x1, .ref x2, .ref x3, .ref x4, .ref x5, .ref x6, .ref x7, .ref x8, .int x9, .int x10]))
abbrev kx_3 (a : Nat) (x0 : Nat) (x1 : Nat) (x2 : Int32) (x3 : Int32) (x4 : Int32) : Nat × va_E := (a, .inr (3, [.ref x0, .ref x1, .int x2, .int x3, .int x4]))
abbrev kx_4 (a : Nat) (x0 : Nat) (x1 : Nat) (x2 : Nat) (x3 : Nat) (x4 : Nat) (x5 : Nat) (x6 : Nat) (x7 : Int32) (x8 : Int32) : Nat × va_E := (a, .inr (4, [.ref x0, .ref x1, .ref x2, .ref x3, .ref x4, .ref x5, .ref x6, .int x7, .int x8]))
abbrev kx_5 (a : Nat) (x0 : Nat) (x1 : Int32) (x2 : Int32) (x3 : Int32) (x4 : Nat) (x5 : Nat) (x6 : Nat) (x7 : Nat) (x8 : Nat) (x9 : Nat) (x10 : Nat) (x11 : Int32) (x12 : Nat) (x13 : Nat) (x14 : Int32) (x15 : Nat) (x16 : Int32) (x17 : Nat) (x18 : Nat) (x19 : Nat) (x20 : Nat) (x21 : Nat) (x22 : Int32) (x23 : Nat) (x24 : Nat) (x25 : Int32) (x26 : Nat) (x27 : Nat) (x28 : Nat) (x29 : Int32) : Nat × va_E := (a, .inr (5, [.ref x0, .int x1, .int x2, .int x3, .ref x4, .ref x5, .ref x6, .ref x7, .ref x8, .ref x9, .ref x10, .int x11, .ref x12, .ref x13, .int x14, .ref x15, .int x16, .ref x17, .ref x18, .ref x19, .ref x20, .ref x21, .int x22, .ref x23, .ref x24, .int x25, .ref x26, .ref x27, .ref x28, .int x29]))
theorem kx_free {A0 : Nat → Prop} {ws : va_W} {H0 H : Heap} {locs : List Loc} (hD : va_D A0 ws) (hS : va_S A0 H0 H locs) (hA : ∀ q, H0.size ≤ q → A0 q) : ∀ q, va_A ws H.size q → A0 q := by
  intro q h
  rcases h with ⟨k, e, h⟩ | h
  · exact hD.2 k (q, e) h
  · exact hA q (Nat.le_trans hS.1 h)
