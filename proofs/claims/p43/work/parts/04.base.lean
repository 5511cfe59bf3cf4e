theorem kc_lt {a b : Int32} (h : a < b) : a.toInt < b.toInt := Int32.lt_iff_toInt_lt.mp h
theorem kc_le {a b : Int32} (h : a ≤ b) : a.toInt ≤ b.toInt := Int32.le_iff_toInt_le.mp h
theorem kc_nlt {a b : Int32} (h : ¬ a < b) : b.toInt ≤ a.toInt := Int.not_lt.mp (fun q => h (Int32.lt_iff_toInt_lt.mpr q))
theorem kc_nle {a b : Int32} (h : ¬ a ≤ b) : b.toInt < a.toInt := Int.not_le.mp (fun q => h (Int32.le_iff_toInt_le.mpr q))
theorem kc_eq {a b : Int32} (h : a = b) : a.toInt = b.toInt := congrArg Int32.toInt h
theorem kc_ne {a b : Int32} (h : ¬ a = b) : ¬ a.toInt = b.toInt := fun q => h (Int32.toInt_inj.mp q)
theorem ki_in {i : Int32} {n : Nat} (h0 : 0 ≤ i.toInt) (h1 : i.toInt < (n : Int)) : vp_in i n := by
  have hz : (0 : Int32).toInt = 0 := by decide
  rintro (h | h)
  · have := Int32.lt_iff_toInt_lt.mp h
    rw [hz] at this
    omega
  · have h2 : i.toNatClampNeg = i.toInt.toNat := rfl
    omega
theorem ki_cA {D : va_G} {cl : List vw_C} {tys : List (ClassId × FieldType)} {s : State} {c1 c2 : ClassId} (h : va_K D cl tys s) (i j : Nat) (hi : tys[i]? = some (c1, .int)) (hj : tys[j]? = some (c2, .int)) : c2 = c1 := by
  have h1 : s.vm.findClass ("[" ++ (FieldType.int).toString) = some c1 := (h.2 i _ hi).2
  have h2 : s.vm.findClass ("[" ++ (FieldType.int).toString) = some c2 := (h.2 j _ hj).2
  exact Option.some.inj (h2.symm.trans h1)
theorem ki_zi (cA : ClassId) (n : Nat) : vp_cell cA (n, .inl (fun _ => 0)) = arrV cA n (fun _ => defaultValue .int) := rfl
theorem ki_zl (cA : ClassId) (n : Nat) : vp_cell cA (n, .inr (.inl (fun _ => 0))) = arrV cA n (fun _ => defaultValue .long) := rfl
theorem ki_ofRun {p : Program} {l : Launch} {e : Env} {R : Room} {s : State} {m : MethodId} {args : Array Value} {below : List Frame} {meth : Method} {c : Code} {H : Heap} {locs : List Loc} {cells slots mc ms : Nat} {g : JFrame} {rest : List Value} {Qa : State → Outcome → State → Prop} {free : Addr → Prop} (h : va_Run p l e R s m args below meth c H locs cells slots mc ms g rest Qa free) : CallRun p l e R s m args below meth c H locs cells slots mc ms g rest Qa free := by
  intro T hT X
  obtain ⟨v, st₀, t, T', L, h0, X', hL, e1, -, h2, st⟩ := h T hT X
  exact ⟨v, st₀, t, T', L, h0, X', hL, e1, h2, st⟩
theorem ki_inl {i : Int32} {n : Nat} (h : ¬ (i < 0 ∨ n ≤ i.toNatClampNeg)) : vp_in i n := h
theorem ki_z0 : ∀ j, j < 2 → defaultValue (tyX0 j) = vp_V [.null, .int 0] j := by
  intro j hj
  rcases (show j = 0 ∨ j = 1 by omega) with rfl | rfl <;> rfl
theorem ki_z1 : ∀ j, j < 4 → defaultValue (tyX1 j) = vp_V [.null, .null, .int 0, .int 0] j := by
  intro j hj
  rcases (show j = 0 ∨ j = 1 ∨ j = 2 ∨ j = 3 by omega) with rfl | rfl | rfl | rfl <;> rfl
theorem ki_z2 : ∀ j, j < 11 → defaultValue (tyX2 j) = vp_V [.null, .null, .null, .null, .null, .null, .null, .null, .null, .int 0, .int 0] j := by
  intro j hj
  rcases (show j = 0 ∨ j = 1 ∨ j = 2 ∨ j = 3 ∨ j = 4 ∨ j = 5 ∨ j = 6 ∨ j = 7 ∨ j = 8 ∨ j = 9 ∨ j = 10 by omega) with rfl | rfl | rfl | rfl | rfl | rfl | rfl | rfl | rfl | rfl | rfl <;> rfl
theorem ki_z3 : ∀ j, j < 5 → defaultValue (tyX3 j) = vp_V [.null, .null, .int 0, .int 0, .int 0] j := by
  intro j hj
  rcases (show j = 0 ∨ j = 1 ∨ j = 2 ∨ j = 3 ∨ j = 4 by omega) with rfl | rfl | rfl | rfl | rfl <;> rfl
theorem ki_z4 : ∀ j, j < 9 → defaultValue (tyX4 j) = vp_V [.null, .null, .null, .null, .null, .null, .null, .int 0, .int 0] j := by
  intro j hj
  rcases (show j = 0 ∨ j = 1 ∨ j = 2 ∨ j = 3 ∨ j = 4 ∨ j = 5 ∨ j = 6 ∨ j = 7 ∨ j = 8 by omega) with rfl | rfl | rfl | rfl | rfl | rfl | rfl | rfl | rfl <;> rfl
theorem ki_z5 : ∀ j, j < 30 → defaultValue (tyX5 j) = vp_V [.null, .int 0, .int 0, .int 0, .null, .null, .null, .null, .null, .null, .null, .int 0, .null, .null, .int 0, .null, .int 0, .null, .null, .null, .null, .null, .int 0, .null, .null, .int 0, .null, .null, .null, .int 0] j := by
  intro j hj
  rcases (show j = 0 ∨ j = 1 ∨ j = 2 ∨ j = 3 ∨ j = 4 ∨ j = 5 ∨ j = 6 ∨ j = 7 ∨ j = 8 ∨ j = 9 ∨ j = 10 ∨ j = 11 ∨ j = 12 ∨ j = 13 ∨ j = 14 ∨ j = 15 ∨ j = 16 ∨ j = 17 ∨ j = 18 ∨ j = 19 ∨ j = 20 ∨ j = 21 ∨ j = 22 ∨ j = 23 ∨ j = 24 ∨ j = 25 ∨ j = 26 ∨ j = 27 ∨ j = 28 ∨ j = 29 by omega) with rfl | rfl | rfl | rfl | rfl | rfl | rfl | rfl | rfl | rfl | rfl | rfl | rfl | rfl | rfl | rfl | rfl | rfl | rfl | rfl | rfl | rfl | rfl | rfl | rfl | rfl | rfl | rfl | rfl | rfl <;> rfl
theorem ki_add {x y z : Int32} {a b : Int} (e : z = x + y) (ha : x.toInt = a) (hb : y.toInt = b) (h1 : -2147483648 ≤ a + b) (h2 : a + b ≤ 2147483647) : z.toInt = a + b := by
  subst e; subst ha; subst hb
  rw [Int32.toInt_add]
  exact Int.bmod_eq_of_le (by omega) (by omega)
theorem ki_sub {x y z : Int32} {a b : Int} (e : z = x - y) (ha : x.toInt = a) (hb : y.toInt = b) (h1 : -2147483648 ≤ a - b) (h2 : a - b ≤ 2147483647) : z.toInt = a - b := by
  subst e; subst ha; subst hb
  rw [Int32.toInt_sub]
  exact Int.bmod_eq_of_le (by omega) (by omega)
theorem ki_mul {x y z : Int32} {a b : Int} (e : z = x * y) (ha : x.toInt = a) (hb : y.toInt = b) (h1 : -2147483648 ≤ a * b) (h2 : a * b ≤ 2147483647) : z.toInt = a * b := by
  subst e; subst ha; subst hb
  rw [Int32.toInt_mul]
  exact Int.bmod_eq_of_le (by omega) (by omega)
theorem ki_div2 {x z : Int32} {a : Int} (e : z = x / 2) (ha : x.toInt = a) (h0 : 0 ≤ a) : z.toInt = a / 2 := by
  subst e; subst ha
  rw [Int32.toInt_div_of_ne_right _ _ (by decide), show (2 : Int32).toInt = 2 from by decide]
  exact Int.tdiv_eq_ediv_of_nonneg h0
theorem ki_nat (x : Int32) {a : Int} (ha : x.toInt = a) (h0 : 0 ≤ a) : (x.toNatClampNeg : Int) = a := by
  subst ha
  have h2 : x.toNatClampNeg = x.toInt.toNat := rfl
  omega
theorem ki_ne0 {x : Int32} (h : ¬ x.toInt = 0) : ¬ x = 0 := fun e => h (by rw [e]; decide)
theorem ki_rng (x : Int32) : -2147483648 ≤ x.toInt ∧ x.toInt ≤ 2147483647 := ⟨x.le_toInt, Int.le_of_lt_add_one x.toInt_lt⟩
theorem ki_nateq {x y : Int32} (h : x.toInt = y.toInt) : x.toNatClampNeg = y.toNatClampNeg := by
  have h1 : x.toNatClampNeg = x.toInt.toNat := rfl
  have h2 : y.toNatClampNeg = y.toInt.toNat := rfl
  omega
theorem ki_max {x y z : Int32} {a b : Int} (e : z = if x < y then y else x) (ha : x.toInt = a) (hb : y.toInt = b) : (a ≤ b ∧ z.toInt = b) ∨ (b < a ∧ z.toInt = a) := by
  subst e; subst ha; subst hb
  split
  · rename_i h
    exact Or.inl ⟨by have := kc_lt h; omega, rfl⟩
  · rename_i h
    have := kc_nlt h
    rcases Int.lt_or_eq_of_le this with h2 | h2
    · exact Or.inr ⟨h2, rfl⟩
    · exact Or.inl ⟨by omega, by omega⟩
theorem ki_min {x y z : Int32} {a b : Int} (e : z = if y < x then y else x) (ha : x.toInt = a) (hb : y.toInt = b) : (a ≤ b ∧ z.toInt = a) ∨ (b < a ∧ z.toInt = b) := by
  subst e; subst ha; subst hb
  split
  · rename_i h
    exact Or.inr ⟨kc_lt h, rfl⟩
  · rename_i h
    exact Or.inl ⟨kc_nlt h, rfl⟩
theorem ki_shr16 (x : Int32) : -32768 ≤ (x >>> (16 &&& 31)).toInt ∧ (x >>> (16 &&& 31)).toInt ≤ 32767 := by
  have h := pk_shr x (16 &&& 31) 16 (by decide)
  rw [h, Int.shiftRight_eq_div_pow]
  have := ki_rng x
  omega
theorem ki_i2s (x : Int32) : -32768 ≤ x.toInt16.toInt32.toInt ∧ x.toInt16.toInt32.toInt ≤ 32767 := by
  rw [Int16.toInt_toInt32]
  have h1 := x.toInt16.le_toInt
  have h2 := x.toInt16.toInt_lt
  exact ⟨h1, by omega⟩
abbrev kx_a (a : Nat) (c : ClassId) (n : Nat) (f : Nat → Int32) : Nat × va_E := (a, .inl (c, n, .inl f))
abbrev kx_0 (a : Nat) (x0 : Nat) (x1 : Int32) : Nat × va_E := (a, .inr (0, [.ref x0, .int x1]))
abbrev kx_1 (a : Nat) (x0 : Nat) (x1 : Nat) (x2 : Int32) (x3 : Int32) : Nat × va_E := (a, .inr (1, [.ref x0, .ref x1, .int x2, .int x3]))
abbrev kx_2 (a : Nat) (x0 : Nat) (x1 : Nat) (x2 : Nat) (x3 : Nat) (x4 : Nat) (x5 : Nat) (x6 : Nat) (x7 : Nat) (x8 : Nat) (x9 : Int32) (x10 : Int32) : Nat × va_E := (a, .inr (2, [.ref x0, .ref x1, .ref x2, .ref x3, .ref x4, .ref x5, .ref x6, .ref x7, .ref x8, .int x9, .int x10]))
abbrev kx_3 (a : Nat) (x0 : Nat) (x1 : Nat) (x2 : Int32) (x3 : Int32) (x4 : Int32) : Nat × va_E := (a, .inr (3, [.ref x0, .ref x1, .int x2, .int x3, .int x4]))
abbrev kx_4 (a : Nat) (x0 : Nat) (x1 : Nat) (x2 : Nat) (x3 : Nat) (x4 : Nat) (x5 : Nat) (x6 : Nat) (x7 : Int32) (x8 : Int32) : Nat × va_E := (a, .inr (4, [.ref x0, .ref x1, .ref x2, .ref x3, .ref x4, .ref x5, .ref x6, .int x7, .int x8]))
abbrev kx_5 (a : Nat) (x0 : Nat) (x1 : Int32) (x2 : Int32) (x3 : Int32) (x4 : Nat) (x5 : Nat) (x6 : Nat) (x7 : Nat) (x8 : Nat) (x9 : Nat) (x10 : Nat) (x11 : Int32) (x12 : Nat) (x13 : Nat) (x14 : Int32) (x15 : Nat) (x16 : Int32) (x17 : Nat) (x18 : Nat) (x19 : Nat) (x20 : Nat) (x21 : Nat) (x22 : Int32) (x23 : Nat) (x24 : Nat) (x25 : Int32) (x26 : Nat) (x27 : Nat) (x28 : Nat) (x29 : Int32) : Nat × va_E := (a, .inr (5, [.ref x0, .int x1, .int x2, .int x3, .ref x4, .ref x5, .ref x6, .ref x7, .ref x8, .ref x9, .ref x10, .int x11, .ref x12, .ref x13, .int x14, .ref x15, .int x16, .ref x17, .ref x18, .ref x19, .ref x20, .ref x21, .int x22, .ref x23, .ref x24, .int x25, .ref x26, .ref x27, .ref x28, .int x29]))
theorem kx_rc0 {s : State} {H : Heap} {D : va_G} {a q0 : Nat} {fs : List Value} {ws : va_W} {tys : List (ClassId × FieldType)} (hK : va_K D vwCl tys s) (hP : va_P D vwCl ws H) (he : ws[q0]? = some (a, .inr (0, fs))) : ∃ cell : Cell, H[a]? = some cell ∧ cell.vm.isStatics = false ∧ s.vm.findClass RX0 = some cell.cls := va_recv hK hP (ci := 0) (q0 := q0) rfl he
theorem kx_rc1 {s : State} {H : Heap} {D : va_G} {a q0 : Nat} {fs : List Value} {ws : va_W} {tys : List (ClassId × FieldType)} (hK : va_K D vwCl tys s) (hP : va_P D vwCl ws H) (he : ws[q0]? = some (a, .inr (1, fs))) : ∃ cell : Cell, H[a]? = some cell ∧ cell.vm.isStatics = false ∧ s.vm.findClass RX1 = some cell.cls := va_recv hK hP (ci := 1) (q0 := q0) rfl he
theorem kx_rc2 {s : State} {H : Heap} {D : va_G} {a q0 : Nat} {fs : List Value} {ws : va_W} {tys : List (ClassId × FieldType)} (hK : va_K D vwCl tys s) (hP : va_P D vwCl ws H) (he : ws[q0]? = some (a, .inr (2, fs))) : ∃ cell : Cell, H[a]? = some cell ∧ cell.vm.isStatics = false ∧ s.vm.findClass RX2 = some cell.cls := va_recv hK hP (ci := 2) (q0 := q0) rfl he
theorem kx_rc3 {s : State} {H : Heap} {D : va_G} {a q0 : Nat} {fs : List Value} {ws : va_W} {tys : List (ClassId × FieldType)} (hK : va_K D vwCl tys s) (hP : va_P D vwCl ws H) (he : ws[q0]? = some (a, .inr (3, fs))) : ∃ cell : Cell, H[a]? = some cell ∧ cell.vm.isStatics = false ∧ s.vm.findClass RX3 = some cell.cls := va_recv hK hP (ci := 3) (q0 := q0) rfl he
theorem kx_rc4 {s : State} {H : Heap} {D : va_G} {a q0 : Nat} {fs : List Value} {ws : va_W} {tys : List (ClassId × FieldType)} (hK : va_K D vwCl tys s) (hP : va_P D vwCl ws H) (he : ws[q0]? = some (a, .inr (4, fs))) : ∃ cell : Cell, H[a]? = some cell ∧ cell.vm.isStatics = false ∧ s.vm.findClass RX4 = some cell.cls := va_recv hK hP (ci := 4) (q0 := q0) rfl he
theorem kx_rc5 {s : State} {H : Heap} {D : va_G} {a q0 : Nat} {fs : List Value} {ws : va_W} {tys : List (ClassId × FieldType)} (hK : va_K D vwCl tys s) (hP : va_P D vwCl ws H) (he : ws[q0]? = some (a, .inr (5, fs))) : ∃ cell : Cell, H[a]? = some cell ∧ cell.vm.isStatics = false ∧ s.vm.findClass RX5 = some cell.cls := va_recv hK hP (ci := 5) (q0 := q0) rfl he
theorem kx_free {A0 : Nat → Prop} {ws : va_W} {H0 H : Heap} {locs : List Loc} (hD : va_D A0 ws) (hS : va_S A0 H0 H locs) (hA : ∀ q, H0.size ≤ q → A0 q) : ∀ q, va_A ws H.size q → A0 q := by
  intro q h
  rcases h with ⟨k, e, h⟩ | h
  · exact hD.2 k (q, e) h
  · exact hA q (Nat.le_trans hS.1 h)
theorem kx_fm {α β : Type} {f : α → Option β} : ∀ {is : List α} {ws : List β}, is.map f = ws.map some → is.filterMap f = ws
  | [], [], _ => rfl
  | [], w :: ws, h => by
    have h' : ([] : List (Option β)) = some w :: ws.map some := h
    cases h'
  | a :: is, [], h => by
    have h' : f a :: is.map f = ([] : List (Option β)) := h
    cases h'
  | a :: is, w :: ws, h => by
    have h' : f a :: is.map f = some w :: ws.map some := h
    injection h' with h1 h2
    rw [List.filterMap_cons_some h1, kx_fm h2]
theorem kx_some {β : Type} : ∀ {a b : List β}, a.map some = b.map some → a = b
  | [], [], _ => rfl
  | [], w :: ws, h => by
    have h' : ([] : List (Option β)) = some w :: ws.map some := h
    cases h'
  | a :: is, [], h => by
    have h' : some a :: is.map some = ([] : List (Option β)) := h
    cases h'
  | a :: is, w :: ws, h => by
    have h' : some a :: is.map some = some w :: ws.map some := h
    injection h' with h1 h2
    rw [Option.some.inj h1, kx_some h2]
theorem kx_split {β : Type} : ∀ {L : List (Option β)} {w1 w2 : List β}, L ++ w1.map some = w2.map some → ∃ wr : List β, L = wr.map some ∧ w2 = wr ++ w1
  | [], w1, w2, h => ⟨[], rfl, (kx_some (a := w1) (b := w2) h).symm⟩
  | x :: L, w1, [], h => by
    have h' : x :: (L ++ w1.map some) = ([] : List (Option β)) := h
    cases h'
  | x :: L, w1, w :: w2, h => by
    have h' : x :: (L ++ w1.map some) = some w :: w2.map some := h
    injection h' with h1 h2
    obtain ⟨wr, e1, e2⟩ := kx_split h2
    exact ⟨w :: wr, by rw [h1, e1]; rfl, by rw [e2]; rfl⟩
theorem kx_pre {A0 : Nat → Prop} {D : va_G} {cl : List vw_C} {ws wc : va_W} {H0 H : Heap} {locs : List Loc} (hP : va_P D cl ws H) (hD : va_D A0 ws) (hS : va_S A0 H0 H locs) (hA : ∀ q, H0.size ≤ q → A0 q) (isC : List Nat) (hn : va_nd isC = true) (hC : isC.map (fun i => ws[i]?) = wc.map some) : va_P D cl wc H ∧ va_D A0 wc ∧ (∀ q, va_A wc H.size q → A0 q) ∧ isC.map (fun i => ws[i]?) = wc.map some := ⟨hP.sub isC (kx_fm hC), hD.sub isC hn hC, va_free hD hS hA isC hC, hC⟩
theorem kx_sub {A0 : Nat → Prop} {D : va_G} {cl : List vw_C} {ws w2 : va_W} {H : Heap} (hP : va_P D cl ws H) (hD : va_D A0 ws) (is : List Nat) (hn : va_nd is = true) (hC : is.map (fun i => ws[i]?) = w2.map some) : va_P D cl w2 H ∧ va_D A0 w2 := ⟨hP.sub is (kx_fm hC), hD.sub is hn hC⟩
theorem kx_re {A0 : Nat → Prop} {D : va_G} {cl : List vw_C} {ws w2 : va_W} {H : Heap} (hP : va_P D cl ws H) (hD : va_D A0 ws) (e : ws = w2) : va_P D cl w2 H ∧ va_D A0 w2 := by
  subst e
  exact ⟨hP, hD⟩
theorem kx_join {A0 : Nat → Prop} {D : va_G} {cl : List vw_C} {ws wc w1 w2 : va_W} {H H1 : Heap} (hP : va_P D cl ws H) (hD : va_D A0 ws) (hP1 : va_P D cl w1 H1) (hD1 : va_D (va_A wc H.size) w1) (hk : ∀ q : Nat, q < H.size → ¬ va_A wc H.size q → H1[q]? = H[q]?) (hF : ∀ q, va_A wc H.size q → A0 q) (isC isR : List Nat) (hC : isC.map (fun i => ws[i]?) = wc.map some) (hR : isR.map (fun i => ws[i]?) ++ w1.map some = w2.map some) (hn : va_nd isR = true) (hdis : ∀ i ∈ isR, i ∉ isC) : va_P D cl w2 H1 ∧ va_D A0 w2 := by
  obtain ⟨wr, e1, e2⟩ := kx_split hR
  subst e2
  exact va_join hP hD isC isR hC e1 hn hdis hk hF hP1 hD1
def kx_sel {α : Type} : List Bool → List α → List α
  | [], _ => []
  | _ :: _, [] => []
  | true :: m, c :: ws => c :: kx_sel m ws
  | false :: m, _ :: ws => kx_sel m ws
def kx_put {α : Type} : List Bool → List α → List α → List α
  | [], _, w1 => w1
  | _ :: _, [], w1 => w1
  | true :: m, _ :: ws, [] => kx_put m ws []
  | true :: m, _ :: ws, c :: w1 => c :: kx_put m ws w1
  | false :: m, x :: ws, w1 => x :: kx_put m ws w1
def kx_ix {α : Type} : List Bool → List α → Nat → List Nat
  | [], _, _ => []
  | _ :: _, [], _ => []
  | true :: m, _ :: ws, n => n :: kx_ix m ws (n + 1)
  | false :: m, _ :: ws, n => kx_ix m ws (n + 1)
theorem kx_ixge {α : Type} : ∀ (m : List Bool) (ws : List α) (n i : Nat), i ∈ kx_ix m ws n → n ≤ i
  | [], _, n, i, h => by
    have h : i ∈ ([] : List Nat) := h
    cases h
  | true :: _, [], n, i, h => by
    have h : i ∈ ([] : List Nat) := h
    cases h
  | false :: _, [], n, i, h => by
    have h : i ∈ ([] : List Nat) := h
    cases h
  | true :: m, x :: ws, n, i, h => by
    have h : i ∈ n :: kx_ix m ws (n + 1) := h
    rcases List.mem_cons.mp h with e | h
    · omega
    · have := kx_ixge m ws (n + 1) i h
      omega
  | false :: m, x :: ws, n, i, h => by
    have h : i ∈ kx_ix m ws (n + 1) := h
    have := kx_ixge m ws (n + 1) i h
    omega
theorem kx_ixnd {α : Type} : ∀ (m : List Bool) (ws : List α) (n : Nat), va_nd (kx_ix m ws n) = true
  | [], _, _ => rfl
  | true :: _, [], _ => rfl
  | false :: _, [], _ => rfl
  | true :: m, x :: ws, n => by
    show (decide (n ∉ kx_ix m ws (n + 1)) && va_nd (kx_ix m ws (n + 1))) = true
    rw [kx_ixnd m ws (n + 1), Bool.and_true, decide_eq_true_eq]
    intro h
    have := kx_ixge m ws (n + 1) n h
    omega
  | false :: m, x :: ws, n => kx_ixnd m ws (n + 1)
theorem kx_ixm {α : Type} : ∀ (m : List Bool) (ws : List α) (n : Nat) (W : List α), (∀ j : Nat, W[n + j]? = ws[j]?) → (kx_ix m ws n).map (fun i => W[i]?) = (kx_sel m ws).map some
  | [], _, _, _, _ => rfl
  | true :: _, [], _, _, _ => rfl
  | false :: _, [], _, _, _ => rfl
  | true :: m, x :: ws, n, W, h => by
    show W[n]? :: (kx_ix m ws (n + 1)).map (fun i => W[i]?) = some x :: (kx_sel m ws).map some
    have h0 : W[n]? = some x := h 0
    rw [h0, kx_ixm m ws (n + 1) W (fun j => by rw [Nat.add_assoc, Nat.add_comm 1 j]; exact h (j + 1))]
  | false :: m, x :: ws, n, W, h => by
    show (kx_ix m ws (n + 1)).map (fun i => W[i]?) = (kx_sel m ws).map some
    exact kx_ixm m ws (n + 1) W (fun j => by rw [Nat.add_assoc, Nat.add_comm 1 j]; exact h (j + 1))
theorem kx_ixdis {α : Type} : ∀ (m : List Bool) (ws : List α) (n : Nat), ∀ i ∈ kx_ix (m.map not) ws n, i ∉ kx_ix m ws n
  | [], _, _, i, h => by
    have h : i ∈ ([] : List Nat) := h
    cases h
  | true :: _, [], _, i, h => by
    have h : i ∈ ([] : List Nat) := h
    cases h
  | false :: _, [], _, i, h => by
    have h : i ∈ ([] : List Nat) := h
    cases h
  | true :: m, x :: ws, n, i, h => by
    have h : i ∈ kx_ix (m.map not) ws (n + 1) := h
    intro h2
    have h2 : i ∈ n :: kx_ix m ws (n + 1) := h2
    rcases List.mem_cons.mp h2 with e | h2
    · have := kx_ixge (m.map not) ws (n + 1) i h
      omega
    · exact kx_ixdis m ws (n + 1) i h h2
  | false :: m, x :: ws, n, i, h => by
    have h : i ∈ n :: kx_ix (m.map not) ws (n + 1) := h
    intro h2
    have h2 : i ∈ kx_ix m ws (n + 1) := h2
    rcases List.mem_cons.mp h with e | h
    · have := kx_ixge m ws (n + 1) i h2
      omega
    · exact kx_ixdis m ws (n + 1) i h h2
theorem kx_perm {α : Type} : ∀ (m : List Bool) (ws w1 : List α), List.Perm (kx_put m ws w1) (kx_sel (m.map not) ws ++ w1)
  | [], _, w1 => List.Perm.refl w1
  | true :: _, [], w1 => List.Perm.refl w1
  | false :: _, [], w1 => List.Perm.refl w1
  | true :: m, x :: ws, [] => kx_perm m ws []
  | true :: m, x :: ws, c :: w1 => by
    show List.Perm (c :: kx_put m ws w1) (kx_sel (m.map not) ws ++ c :: w1)
    exact (List.Perm.cons c (kx_perm m ws w1)).trans List.perm_middle.symm
  | false :: m, x :: ws, [] => List.Perm.cons x (kx_perm m ws [])
  | false :: m, x :: ws, c :: w1 => List.Perm.cons x (kx_perm m ws (c :: w1))
theorem kx_permP {D : va_G} {cl : List vw_C} {w w2 : va_W} {H : Heap} (h : va_P D cl w H) (p : List.Perm w2 w) : va_P D cl w2 H := by
  intro k q hk
  obtain ⟨i, hi⟩ := List.getElem?_of_mem (p.mem_iff.mp (List.mem_of_getElem? hk))
  exact h i q hi
theorem kx_permD {A : Nat → Prop} {w w2 : va_W} (h : va_D A w) (p : List.Perm w2 w) : va_D A w2 := by
  have a : w.Pairwise (fun x y => x.1 ≠ y.1) := by
    rw [List.pairwise_iff_getElem]
    intro i j hi hj hij e
    have := h.1 i j w[i] w[j] (List.getElem?_eq_getElem hi) (List.getElem?_eq_getElem hj) e
    omega
  have b : w2.Pairwise (fun x y => x.1 ≠ y.1) := (List.Perm.pairwise_iff (fun h9 => Ne.symm h9) p).mpr a
  rw [List.pairwise_iff_getElem] at b
  refine ⟨fun i j x y hi hj e => ?_, fun k q hk => ?_⟩
  · obtain ⟨hi1, hi2⟩ := List.getElem?_eq_some_iff.mp hi
    obtain ⟨hj1, hj2⟩ := List.getElem?_eq_some_iff.mp hj
    rcases Nat.lt_trichotomy i j with g | g | g
    · exact absurd (show w2[i].1 = w2[j].1 by rw [hi2, hj2]; exact e) (b i j hi1 hj1 g)
    · exact g
    · exact absurd (show w2[j].1 = w2[i].1 by rw [hi2, hj2]; exact e.symm) (b j i hj1 hi1 g)
  · obtain ⟨i, hi⟩ := List.getElem?_of_mem (p.mem_iff.mp (List.mem_of_getElem? hk))
    exact h.2 i q hi
theorem kx_selP {D : va_G} {cl : List vw_C} {ws ws' : va_W} {H : Heap} (hP : va_P D cl ws H) (m : List Bool) (hC : kx_sel m ws = ws') : va_P D cl ws' H := by
  subst hC
  exact hP.sub (kx_ix m ws 0) (kx_fm (kx_ixm m ws 0 ws (fun j => by rw [Nat.zero_add])))
theorem kx_preM {A0 : Nat → Prop} {D : va_G} {cl : List vw_C} {ws wc : va_W} {H0 H : Heap} {locs : List Loc} (hP : va_P D cl ws H) (hD : va_D A0 ws) (hS : va_S A0 H0 H locs) (hA : ∀ q, H0.size ≤ q → A0 q) (m : List Bool) (hC : kx_sel m ws = wc) : va_P D cl wc H ∧ va_D A0 wc ∧ (∀ q, va_A wc H.size q → A0 q) ∧ kx_sel m ws = wc := by
  subst hC
  have e := kx_ixm m ws 0 ws (fun j => by rw [Nat.zero_add])
  exact ⟨hP.sub (kx_ix m ws 0) (kx_fm e), hD.sub (kx_ix m ws 0) (kx_ixnd m ws 0) e, va_free hD hS hA (kx_ix m ws 0) e, rfl⟩
theorem kx_joinM {A0 : Nat → Prop} {D : va_G} {cl : List vw_C} {ws wc w1 w2 : va_W} {H H1 : Heap} (hP : va_P D cl ws H) (hD : va_D A0 ws) (hP1 : va_P D cl w1 H1) (hD1 : va_D (va_A wc H.size) w1) (hk : ∀ q : Nat, q < H.size → ¬ va_A wc H.size q → H1[q]? = H[q]?) (hF : ∀ q, va_A wc H.size q → A0 q) (m : List Bool) (hC : kx_sel m ws = wc) (h2 : kx_put m ws w1 = w2) : va_P D cl w2 H1 ∧ va_D A0 w2 := by
  subst hC
  subst h2
  have e := kx_ixm m ws 0 ws (fun j => by rw [Nat.zero_add])
  have e2 := kx_ixm (m.map not) ws 0 ws (fun j => by rw [Nat.zero_add])
  obtain ⟨a, b⟩ := va_join hP hD (kx_ix m ws 0) (kx_ix (m.map not) ws 0) e e2 (kx_ixnd _ _ _) (kx_ixdis m ws 0) hk hF hP1 hD1
  exact ⟨kx_permP a (kx_perm m ws w1), kx_permD b (kx_perm m ws w1)⟩
def kx_MQ (l : Launch) (D : va_G) (y : MethodName) (ws : List Cond) (rm : Room) (As : List Value) (Ws : va_W) (K : List (ClassId × FieldType)) (sz : Nat) (QQ : (Nat → Prop) → Array Value → State → Outcome → State → Prop) : Prop :=
  Met l y ws rm (va_Pc As (fun U => U.heap.size = sz ∧ va_P D vwCl Ws U.heap ∧ va_K D vwCl K U ∧ va_D (fun _ => True) Ws)) (QQ (va_A Ws sz)) 0 0 (va_A Ws sz)
theorem kx_un {l : Launch} {D : va_G} {y : MethodName} {ws : List Cond} {rm : Room} {As : List Value} {Ws : va_W} {K : List (ClassId × FieldType)} {sz : Nat} {QQ : (Nat → Prop) → Array Value → State → Outcome → State → Prop} (h : kx_MQ l D y ws rm As Ws K sz QQ) : Met l y ws rm (va_Pc As (fun U => U.heap.size = sz ∧ va_P D vwCl Ws U.heap ∧ va_K D vwCl K U ∧ va_D (fun _ => True) Ws)) (QQ (va_A Ws sz)) 0 0 (va_A Ws sz) := h
theorem kx_stQ {l : Launch} {D : va_G} {y : MethodName} {ws ws' : List Cond} {rm : Room} {As : List Value} {Ws : va_W} {K : List (ClassId × FieldType)} {sz : Nat} {QQ : (Nat → Prop) → Array Value → State → Outcome → State → Prop} {cc : ByteArray} {maxL : Nat} {ret : Option FieldType} (hy : plainName y.cls = true) (hw : ws = Cond.code y cc maxL ret :: ws') (hn : (lg_sl As).length ≤ maxL)
    (body : ∀ (p : Program) (e : Env) (s : State) (m : MethodId) (below : List Frame) (meth : Method) (c : Code) (A : Nat → Prop) (ls : Array Slot), p.tables.exec = Jvm.exec → c.code = cc → meth.sig.returnType = ret → meth.locks = false → (∀ w ∈ ws, w.before As.toArray s = true) → s.vm.findClass y.cls = some m.cls → c.maxLocals = maxL → (∀ q : Nat, s.heap.size ≤ q → A q) → va_S A s.heap s.heap [] → va_P D vwCl Ws s.heap → va_K D vwCl K s → va_D A Ws → lv_has ls maxL (lv_args 0 As) → W p l e (headSpec ws rm).room s m As.toArray below meth c s.heap [] 0 0 (MQ below (QQ A) As.toArray s 0 0 A) (F0 m 0 ls [])) : kx_MQ l D y ws rm As Ws K sz QQ := by
  unfold kx_MQ
  refine Met.ofW (cc := cc) (maxL := maxL) (ret := ret) hy hw ?_
  intro p e s m args below meth c s₁ B hml hv
  obtain ⟨rfl, hsz, hP, hK, hD0⟩ := hv
  subst hsz
  rw [lg_entry_eq]
  exact body p e s m below meth c (va_A Ws s.heap.size) _ B.exec B.bytes B.returns B.notSynchronized (atoms_spec (ws := ws) B.pre) (findClass_of_methodNamed B.named) hml (fun q h => Or.inr h) va_S.rf hP hK hD0.self (lv_entry As hn)
theorem kx_stS {l : Launch} {D : va_G} {y : MethodName} {ws ws' : List Cond} {rm : Room} {As : List Value} {Ws : va_W} {K : List (ClassId × FieldType)} {Q : Array Value → State → Outcome → State → Prop} {cc : ByteArray} {maxL : Nat} {ret : Option FieldType} (hy : plainName y.cls = true) (hw : ws = Cond.code y cc maxL ret :: ws') (hn : (lg_sl As).length ≤ maxL)
    (body : ∀ (p : Program) (e : Env) (s : State) (m : MethodId) (below : List Frame) (meth : Method) (c : Code) (ls : Array Slot), p.tables.exec = Jvm.exec → c.code = cc → meth.sig.returnType = ret → meth.locks = false → (∀ w ∈ ws, w.before As.toArray s = true) → s.vm.findClass y.cls = some m.cls → c.maxLocals = maxL → va_P D vwCl Ws s.heap → va_K D vwCl K s → lv_has ls maxL (lv_args 0 As) → W p l e (headSpec ws rm).room s m As.toArray below meth c s.heap [] 0 0 (MQ below Q As.toArray s 0 0 (fun _ => False)) (F0 m 0 ls [])) : Met l y ws rm (va_Pc As (fun U => va_P D vwCl Ws U.heap ∧ va_K D vwCl K U)) Q 0 0 (fun _ => False) := by
  refine Met.ofW (cc := cc) (maxL := maxL) (ret := ret) hy hw ?_
  intro p e s m args below meth c s₁ B hml hv
  obtain ⟨rfl, hP, hK⟩ := hv
  rw [lg_entry_eq]
  exact body p e s m below meth c _ B.exec B.bytes B.returns B.notSynchronized (atoms_spec (ws := ws) B.pre) (findClass_of_methodNamed B.named) hml hP hK (lv_entry As hn)

